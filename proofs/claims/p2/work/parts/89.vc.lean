def gc_LI (q : Nat) (n : Int) (I : gr_I) : Prop := I q 8 = gc_ac (I (q + 1)) (Int.toNat n) ∧ (∀ k : Nat, (k : Int) < n → I (q + 1) k < I 12 (Int.toNat (I q 1))) ∧ (∀ s : Nat, (s : Int) < I q 8 → 0 ≤ I (q + 4) s ∧ I (q + 4) s < I 12 (Int.toNat (I q 1))) ∧ (∀ a : Nat, a < 4 → 0 ≤ I (q + 6) a → (a : Int) < I 12 (Int.toNat (I q 1)) ∧ I (q + 6) a < I q 8 ∧ I (q + 4) (Int.toNat (I (q + 6) a)) = (a : Int))
def gc_LE (r : Int) (q : Nat) (n : Int) (I : gr_I) : Prop := r = 0 ∨ gc_LI q n I
theorem gc_ac_e {f g : Nat → Int} : ∀ {n : Nat}, (∀ k, k < n → f k = g k) → gc_ac f n = gc_ac g n
  | 0, _ => rfl
  | n + 1, h => by
    show gc_ac f n + gc_c1 (f n) = gc_ac g n + gc_c1 (g n)
    rw [gc_ac_e (n := n) (fun k hk => h k (by omega)), h n (by omega)]
theorem gc_LI_fr {q : Nat} {n : Int} {I I' : gr_I} (h : gc_LI q n I) (e1 : I' q 1 = I q 1) (e8 : I' q 8 = I q 8) (r1 : ∀ k, I' (q + 1) k = I (q + 1) k) (r4 : ∀ k, I' (q + 4) k = I (q + 4) k) (r6 : ∀ k, I' (q + 6) k = I (q + 6) k) (r12 : ∀ k, I' 12 k = I 12 k) : gc_LI q n I' := by
  obtain ⟨a, b, c, d⟩ := h
  refine ⟨?_, fun k hk => ?_, fun s hs => ?_, fun x h1 h2 => ?_⟩
  · rw [e8, gc_ac_e (g := I (q + 1)) (fun k _ => r1 k)]; exact a
  · rw [r1, e1, r12]; exact b k hk
  · rw [r4, e1, r12]; exact c s (by omega)
  · rw [r6] at h2
    rw [r6, r4, e1, e8, r12]; exact d x h1 h2
theorem gc_LI_arg {q : Nat} {n a : Int} {I I' : gr_I} (h : gc_LI q n I) (hn : 0 ≤ n) (ha : 0 ≤ a ∧ a < I 12 (Int.toNat (I q 1))) (hs : 0 ≤ I q 8) (e1 : I' q 1 = I q 1) (e8 : I' q 8 = I q 8 + 1) (w1 : I' (q + 1) (Int.toNat n) = a) (r1 : ∀ k, ¬ k = Int.toNat n → I' (q + 1) k = I (q + 1) k) (w6 : I' (q + 6) (Int.toNat a) = I q 8) (r6 : ∀ k, ¬ k = Int.toNat a → I' (q + 6) k = I (q + 6) k) (w4 : I' (q + 4) (Int.toNat (I q 8)) = a) (r4 : ∀ k, ¬ k = Int.toNat (I q 8) → I' (q + 4) k = I (q + 4) k) (r12 : ∀ k, I' 12 k = I 12 k) : gc_LI q (n + 1) I' := by
  obtain ⟨A, B, C, D⟩ := h
  refine ⟨?_, fun k hk => ?_, fun s h9 => ?_, fun x h1 h2 => ?_⟩
  · rw [show Int.toNat (n + 1) = Int.toNat n + 1 from by omega]
    show I' q 8 = gc_ac (I' (q + 1)) (Int.toNat n) + gc_c1 (I' (q + 1) (Int.toNat n))
    rw [gc_ac_e (g := I (q + 1)) (fun k hk => r1 k (by omega)), w1, gc_c1p ha.1, ← A, e8]
  · rw [e1, r12]
    by_cases e : k = Int.toNat n
    · rw [e, w1]; exact ha.2
    · rw [r1 k e]; exact B k (by omega)
  · rw [e1, r12]
    by_cases e : s = Int.toNat (I q 8)
    · rw [e, w4]; exact ha
    · rw [r4 s e]; exact C s (by omega)
  · rw [e1, r12]
    by_cases e : x = Int.toNat a
    · rw [e, w6, w4]
      exact ⟨by omega, by omega, by omega⟩
    · rw [r6 x e] at h2 ⊢
      obtain ⟨d1, d2, d3⟩ := D x h1 h2
      refine ⟨d1, by omega, ?_⟩
      rw [r4 _ (by omega)]
      exact d3
theorem gc_LI_txt {q : Nat} {n : Int} {I I' : gr_I} (h : gc_LI q n I) (hn : 0 ≤ n) (ha : 0 ≤ I 12 (Int.toNat (I q 1))) (e1 : I' q 1 = I q 1) (e8 : I' q 8 = I q 8) (w1 : I' (q + 1) (Int.toNat n) = -1) (r1 : ∀ k, ¬ k = Int.toNat n → I' (q + 1) k = I (q + 1) k) (r4 : ∀ k, I' (q + 4) k = I (q + 4) k) (r6 : ∀ k, I' (q + 6) k = I (q + 6) k) (r12 : ∀ k, I' 12 k = I 12 k) : gc_LI q (n + 1) I' := by
  obtain ⟨A, B, C, D⟩ := h
  refine ⟨?_, fun k hk => ?_, fun s h9 => ?_, fun x h1 h2 => ?_⟩
  · rw [show Int.toNat (n + 1) = Int.toNat n + 1 from by omega]
    show I' q 8 = gc_ac (I' (q + 1)) (Int.toNat n) + gc_c1 (I' (q + 1) (Int.toNat n))
    rw [gc_ac_e (g := I (q + 1)) (fun k hk => r1 k (by omega)), w1, gc_c1n (show (-1 : Int) < 0 from by decide), ← A, e8]
    omega
  · rw [e1, r12]
    by_cases e : k = Int.toNat n
    · rw [e, w1]; omega
    · rw [r1 k e]; exact B k (by omega)
  · rw [r4, e1, r12]; exact C s (by omega)
  · rw [r6] at h2
    rw [r6, r4, e1, e8, r12]; exact D x h1 h2
theorem gc_LI_0 {q : Nat} {I : gr_I} (h8 : I q 8 = 0) (h6 : ∀ a : Nat, a < 4 → I (q + 6) a = -1) : gc_LI q 0 I := ⟨h8, fun k hk => by omega, fun s hs => by omega, fun a h1 h2 => by have := h6 a h1; omega⟩
set_option maxHeartbeats 4000000 in
set_option maxRecDepth 100000 in
theorem d_X6_readArgument_l {ws0 : List Cond} {tb : String → gz_T} (hws : gc_Ws ws0) (htb : gc_tbs tb) (sh : gz_Sh) (ro : Nat → Nat) (I : gr_I) (J : gr_J) (A : gc_A) (hI : gc_Inv ro I) (t : Nat) (a1 : Nat) (hb : gc_Base sh ro A) (h_a1 : gc_isLin sh ro A a1) (G_a1 : 144 ≤ a1) (h_t : gc_isTongue sh ro A t) (G_t : 144 ≤ t)  (x0 : I a1 4 ≤ 5) (x1 : I 23 7 = 2) (x2 : gc_LI a1 (I a1 4) I) (x3 : I 39 2 = (t : Int)) (KLT_I : gc_LT I) (KTK_I : gc_TK I) (KCT_I : gc_CT a1 I) : ∃ r h', gz_Ev ws0 tb 4 (yX6_readArgument, cX6_readArgument, 3, (some .boolean)) [.inr (.inr (some 39)), .inr (.inr (some a1))] sh (gc_h sh I J A) r sh h' 0 0 ∧ (∃ (I' : gr_I) (J' : gr_J), h' = gc_h sh I' J' A ∧ gc_Inv ro I' ∧ (∀ q j : Nat, ((q = 39 ∧ j = 3) ∨ (q = 39 ∧ j = 4) ∨ (q = 23 ∧ j = 5) ∨ (q = 23 ∧ j = 6) ∨ (q = 23 ∧ j = 7) ∨ (q = 23 ∧ j = 8) ∨ (q = 39 ∧ j = 6) ∨ q = (a1 + 1) ∨ q = (a1 + 6) ∨ q = (a1 + 4) ∨ q = (a1 + 5) ∨ (q = a1 ∧ j = 8)) ∨ I' q j = I q j) ∧ (∀ q j : Nat, ((q = 23 ∧ j = 9)) ∨ J' q j = J q j) ∧ gc_LT I' ∧ gc_TK I' ∧ gc_CT a1 I' ∧ (∃ z : Int, r = some (.inl z) ∧ 0 ≤ z ∧ z ≤ 1 ∧ (I' 23 1 = I 23 1) ∧ (I 23 5 ≤ I' 23 5) ∧ (gc_LE z a1 (I a1 4 + 1) I'))) := by
  have FI : ∀ q j : Nat, ((q = 39 ∧ j = 3) ∨ (q = 39 ∧ j = 4) ∨ (q = 23 ∧ j = 5) ∨ (q = 23 ∧ j = 6) ∨ (q = 23 ∧ j = 7) ∨ (q = 23 ∧ j = 8) ∨ (q = 39 ∧ j = 6) ∨ q = (a1 + 1) ∨ q = (a1 + 6) ∨ q = (a1 + 4) ∨ q = (a1 + 5) ∨ (q = a1 ∧ j = 8)) ∨ I q j = I q j := fun _ _ => Or.inr rfl
  have FJ : ∀ q j : Nat, ((q = 23 ∧ j = 9)) ∨ J q j = J q j := fun _ _ => Or.inr rfl
  have A_1_7 : A 1 7 = some 12 := gc_bA hb rfl
  have A_39_0 : A 39 0 = some 1 := gc_bA hb rfl
  have A_39_1 : A 39 1 = some 23 := gc_bA hb rfl
  have B_1 : 1 < 1000000 := by decide
  have B_12 : 12 < 1000000 := by decide
  have B_23 : 23 < 1000000 := by decide
  have B_39 : 39 < 1000000 := by decide
  have R_12 : ro 12 = 26 := gc_bR hb (by decide) rfl
  have R_23 : ro 23 = 3 := gc_bR hb (by decide) rfl
  have R_39 : ro 39 = 42 := gc_bR hb (by decide) rfl
  have S_1 : sh[1]? = some (false, 8, 21) := gc_bS hb rfl
  have S_12 : sh[12]? = some (true, 1, 96) := gc_bS hb rfl
  have S_23 : sh[23]? = some (false, 9, 10) := gc_bS hb rfl
  have S_39 : sh[39]? = some (false, 6, 19) := gc_bS hb rfl
  obtain ⟨S_a1, R_a1, B_a1, A_a1_5, S_a1_1, R_a1_1, B_a1_1, A_a1_6, S_a1_2, R_a1_2, B_a1_2, A_a1_7, S_a1_3, R_a1_3, B_a1_3, A_a1_9, S_a1_4, R_a1_4, B_a1_4, A_a1_10, S_a1_5, R_a1_5, B_a1_5, A_a1_11, S_a1_6, R_a1_6, B_a1_6, A_a1_13, S_a1_7, R_a1_7, B_a1_7, A_a1_15, S_a1_8, R_a1_8, B_a1_8⟩ := id h_a1
  obtain ⟨S_t, R_t, B_t, A_t_0, h_t_1, A_t_1, h_t_3, A_t_2, S_t_5, R_t_5, B_t_5, A_t_3, S_t_6, R_t_6, B_t_6, A_t_4, h_t_7, A_t_5, S_t_9, R_t_9, B_t_9, A_t_7, S_t_10, R_t_10, B_t_10, A_t_8, h_t_11, A_t_9, S_t_13, R_t_13, B_t_13, A_t_10, S_t_14, R_t_14, B_t_14, A_t_12, S_t_15, R_t_15, B_t_15, A_t_14, S_t_16, R_t_16, B_t_16, A_t_15, h_t_17⟩ := id h_t
  obtain ⟨S_t_1, R_t_1, B_t_1, A_t_1_0, S_t_1_1, R_t_1_1, B_t_1_1, Q0_t_1, Q1_t_1, Q2_t_1⟩ := id h_t_1
  obtain ⟨S_t_3, R_t_3, B_t_3, A_t_3_0, S_t_3_1, R_t_3_1, B_t_3_1, Q0_t_3, Q1_t_3, Q2_t_3⟩ := id h_t_3
  obtain ⟨S_t_7, R_t_7, B_t_7, A_t_7_0, S_t_7_1, R_t_7_1, B_t_7_1, Q0_t_7, Q1_t_7, Q2_t_7⟩ := id h_t_7
  obtain ⟨S_t_11, R_t_11, B_t_11, A_t_11_0, S_t_11_1, R_t_11_1, B_t_11_1, Q0_t_11, Q1_t_11, Q2_t_11⟩ := id h_t_11
  obtain ⟨S_t_17, R_t_17, B_t_17, A_t_17_0, S_20, R_20, B_20, A_t_17_1, S_t_17_1, R_t_17_1, B_t_17_1, A_t_17_2, S_t_17_2, R_t_17_2, B_t_17_2, A_t_17_3, S_t_17_3, R_t_17_3, B_t_17_3, A_t_17_4, S_t_17_4, R_t_17_4, B_t_17_4, A_t_17_5, S_t_17_5, R_t_17_5, B_t_17_5, S_t_17_6, R_t_17_6, B_t_17_6, S_t_17_7, R_t_17_7, B_t_17_7⟩ := id h_t_17
  have N1 := gc_dj_LT h_a1 h_t
  have hD : gv_D (gc_E6 ws0 tb 3 (yX6_readArgument, cX6_readArgument, 3, (some .boolean)) kX6_readArgument) := gq_ok oX6_readArgument
  refine gc_ev6 (d := 3) (l := kX6_readArgument) (Po := fun r h' => (∃ (I' : gr_I) (J' : gr_J), h' = gc_h sh I' J' A ∧ gc_Inv ro I' ∧ (∀ q j : Nat, ((q = 39 ∧ j = 3) ∨ (q = 39 ∧ j = 4) ∨ (q = 23 ∧ j = 5) ∨ (q = 23 ∧ j = 6) ∨ (q = 23 ∧ j = 7) ∨ (q = 23 ∧ j = 8) ∨ (q = 39 ∧ j = 6) ∨ q = (a1 + 1) ∨ q = (a1 + 6) ∨ q = (a1 + 4) ∨ q = (a1 + 5) ∨ (q = a1 ∧ j = 8)) ∨ I' q j = I q j) ∧ (∀ q j : Nat, ((q = 23 ∧ j = 9)) ∨ J' q j = J q j) ∧ gc_LT I' ∧ gc_TK I' ∧ gc_CT a1 I' ∧ (∃ z : Int, r = some (.inl z) ∧ 0 ≤ z ∧ z ≤ 1 ∧ (I' 23 1 = I 23 1) ∧ (I 23 5 ≤ I' 23 5) ∧ (gc_LE z a1 (I a1 4 + 1) I')))) htb rfl (Nat.le_of_ble_eq_true rfl) ?_
  have N_a1__39 : ¬ (a1 = 39) := by omega
  have N_a1_6__39 : ¬ ((a1 + 6) = 39) := by omega
  have N_23__a1_1 : ¬ (23 = (a1 + 1)) := by omega
  have N_a1__a1_1 : ¬ (a1 = (a1 + 1)) := by omega
  have N_39__a1_1 : ¬ (39 = (a1 + 1)) := by omega
  have N_a1_6__a1_1 : ¬ ((a1 + 6) = (a1 + 1)) := by omega
  have N_24__a1_1 : ¬ (24 = (a1 + 1)) := by omega
  have N_23__a1_6 : ¬ (23 = (a1 + 6)) := by omega
  have N_a1__a1_6 : ¬ (a1 = (a1 + 6)) := by omega
  have N_39__a1_6 : ¬ (39 = (a1 + 6)) := by omega
  have N_24__a1_6 : ¬ (24 = (a1 + 6)) := by omega
  have N_23__a1_4 : ¬ (23 = (a1 + 4)) := by omega
  have N_a1__a1_4 : ¬ (a1 = (a1 + 4)) := by omega
  have N_39__a1_4 : ¬ (39 = (a1 + 4)) := by omega
  have N_a1_6__a1_4 : ¬ ((a1 + 6) = (a1 + 4)) := by omega
  have N_24__a1_4 : ¬ (24 = (a1 + 4)) := by omega
  have N_23__a1_5 : ¬ (23 = (a1 + 5)) := by omega
  have N_a1__a1_5 : ¬ (a1 = (a1 + 5)) := by omega
  have N_39__a1_5 : ¬ (39 = (a1 + 5)) := by omega
  have N_a1_6__a1_5 : ¬ ((a1 + 6) = (a1 + 5)) := by omega
  have N_24__a1_5 : ¬ (24 = (a1 + 5)) := by omega
  have N_23__a1 : ¬ (23 = a1) := by omega
  have N_a1_6__a1 : ¬ ((a1 + 6) = a1) := by omega
  have N_24__a1 : ¬ (24 = a1) := by omega
  have N_a1__23 : ¬ (a1 = 23) := by omega
  have N_a1_6__23 : ¬ ((a1 + 6) = 23) := by omega
  have t1 := gc_TK_mo KTK_I
  have f2 := (show 0 ≤ I 23 1 ∧ I 23 1 ≤ 1000 from gc_in hI R_23 rfl rfl)
  have f3 := (show 0 ≤ I 23 5 ∧ I 23 5 ≤ 1000 from gc_in hI R_23 rfl rfl)
  have f4 := (show 0 ≤ I 23 6 ∧ I 23 6 ≤ 1001 from gc_in hI R_23 rfl rfl)
  have f5 := (show 0 ≤ I 23 7 ∧ I 23 7 ≤ 125 from gc_in hI R_23 rfl rfl)
  have f6 := (show 0 ≤ I a1 4 ∧ I a1 4 ≤ 6 from gc_in hI R_a1 rfl rfl)
  have f7 := (show 0 ≤ I a1 8 ∧ I a1 8 ≤ 4 from gc_in hI R_a1 rfl rfl)
  have f8 := (show 0 ≤ I 23 8 ∧ I 23 8 ≤ 999999 from gc_in hI R_23 rfl rfl)
  have f9 := (show (-1) ≤ I 39 2 ∧ I 39 2 ≤ 999999 from gc_in hI R_39 rfl rfl)
  have L39 : ((I 23 1 = I 23 1) ∧ (I 23 5 ≤ I 23 5) ∧ (I 39 2 = (t : Int))) → gv_X (gc_E6 ws0 tb 3 (yX6_readArgument, cX6_readArgument, 3, (some .boolean)) kX6_readArgument) (gv_Q cX6_readArgument (some .boolean) sh (fun r h' => (∃ (I' : gr_I) (J' : gr_J), h' = gc_h sh I' J' A ∧ gc_Inv ro I' ∧ (∀ q j : Nat, ((q = 39 ∧ j = 3) ∨ (q = 39 ∧ j = 4) ∨ (q = 23 ∧ j = 5) ∨ (q = 23 ∧ j = 6) ∨ (q = 23 ∧ j = 7) ∨ (q = 23 ∧ j = 8) ∨ (q = 39 ∧ j = 6) ∨ q = (a1 + 1) ∨ q = (a1 + 6) ∨ q = (a1 + 4) ∨ q = (a1 + 5) ∨ (q = a1 ∧ j = 8)) ∨ I' q j = I q j) ∧ (∀ q j : Nat, ((q = 23 ∧ j = 9)) ∨ J' q j = J q j) ∧ gc_LT I' ∧ gc_TK I' ∧ gc_CT a1 I' ∧ (∃ z : Int, r = some (.inl z) ∧ 0 ≤ z ∧ z ≤ 1 ∧ (I' 23 1 = I 23 1) ∧ (I 23 5 ≤ I' 23 5) ∧ (gc_LE z a1 (I a1 4 + 1) I'))))) (39, [(0, .inr (.inr (some 39)))], [], sh, gc_h sh I J A) := by
    intro m_10
    obtain ⟨e0_10, e1_10, e2_10⟩ := m_10
    have t11 := gc_TK_mo KTK_I
    have f12 := (show 0 ≤ I 23 1 ∧ I 23 1 ≤ 1000 from gc_in hI R_23 rfl rfl)
    have f13 := (show 0 ≤ I 23 5 ∧ I 23 5 ≤ 1000 from gc_in hI R_23 rfl rfl)
    have f14 := (show 0 ≤ I 23 6 ∧ I 23 6 ≤ 1001 from gc_in hI R_23 rfl rfl)
    have f15 := (show 0 ≤ I 23 7 ∧ I 23 7 ≤ 125 from gc_in hI R_23 rfl rfl)
    have f16 := (show 0 ≤ I a1 4 ∧ I a1 4 ≤ 6 from gc_in hI R_a1 rfl rfl)
    have f17 := (show 0 ≤ I a1 8 ∧ I a1 8 ≤ 4 from gc_in hI R_a1 rfl rfl)
    have f18 := (show 0 ≤ I 23 8 ∧ I 23 8 ≤ 999999 from gc_in hI R_23 rfl rfl)
    have f19 := (show (-1) ≤ I 39 2 ∧ I 39 2 ≤ 999999 from gc_in hI R_39 rfl rfl)
    refine gv_run 3 true hD (pc' := 42) (lv' := [(0, .inr (.inr (some 39)))]) (st' := [.inr (.inr (some 39)), .inl 5, .inr (.inr (some 39))]) (h' := gc_h sh I J A) (C := (((True ∧ True) ∧ True) ∧ True)) rfl ⟨⟨⟨trivial, trivial⟩, trivial⟩, trivial⟩ ?_
    refine gv_get hD rfl rfl S_39 ⟨by decide, B_39⟩ (gc_hA S_39 rfl A_39_1) ?_
    show gv_X _ _ (45, [(0, .inr (.inr (some 39)))], [.inr (.inr (some 23)), .inl 5, .inr (.inr (some 39))], sh, gc_h sh I J A)
    have f20 := (show 0 ≤ I 23 5 ∧ I 23 5 ≤ 1000 from gc_in hI R_23 rfl rfl)
    refine gv_get hD rfl rfl S_23 ⟨by decide, B_23⟩ (gc_hI S_23 rfl) ?_
    show gv_X _ _ (48, [(0, .inr (.inr (some 39)))], [.inl (I 23 5), .inl 5, .inr (.inr (some 39))], sh, gc_h sh I J A)
    obtain ⟨r21, h21, E21, P21⟩ := d_X6_wrong (ws0 := ws0) (tb := tb) hws htb sh ro I J A hI  5 (I 23 5) hb   ⟨by omega, by omega⟩ ⟨by omega, by omega⟩  
    obtain ⟨I22, J23, rfl, hI22, g21, k21, ⟨z21, rfl, q21⟩⟩ := P21
    have FI22 := gc_frc (W := fun q j => (q = 39 ∧ j = 3) ∨ (q = 39 ∧ j = 4) ∨ (q = 23 ∧ j = 5) ∨ (q = 23 ∧ j = 6) ∨ (q = 23 ∧ j = 7) ∨ (q = 23 ∧ j = 8) ∨ (q = 39 ∧ j = 6) ∨ q = (a1 + 1) ∨ q = (a1 + 6) ∨ q = (a1 + 4) ∨ q = (a1 + 5) ∨ (q = a1 ∧ j = 8)) (V := fun q j => (q = 39 ∧ j = 3) ∨ (q = 39 ∧ j = 4)) FI (fun q j h => (h.elim (fun h => (Or.inl h)) (fun h => (Or.inr (Or.inl h))))) g21
    have t24 := (g21 23 1).resolve_left (fun h => h.elim (fun h => absurd h.2 (by decide)) (fun h => absurd h.2 (by decide)))
    have t25 := (g21 23 5).resolve_left (fun h => h.elim (fun h => absurd h.2 (by decide)) (fun h => absurd h.2 (by decide)))
    have t26 := (g21 23 6).resolve_left (fun h => h.elim (fun h => absurd h.2 (by decide)) (fun h => absurd h.2 (by decide)))
    have t27 := (g21 23 7).resolve_left (fun h => h.elim (fun h => absurd h.2 (by decide)) (fun h => absurd h.2 (by decide)))
    have t28 := (g21 a1 4).resolve_left (fun h => h.elim (fun h => absurd h.2 (by decide)) (fun h => absurd h.1 N_a1__39))
    have t29 := (g21 a1 8).resolve_left (fun h => h.elim (fun h => absurd h.2 (by decide)) (fun h => absurd h.2 (by decide)))
    have t30 := (g21 23 8).resolve_left (fun h => h.elim (fun h => absurd h.2 (by decide)) (fun h => absurd h.2 (by decide)))
    have t31 := (g21 39 2).resolve_left (fun h => h.elim (fun h => absurd h.2 (by decide)) (fun h => absurd h.2 (by decide)))
    obtain rfl : J = J23 := funext fun q => funext fun j => ((k21 q j).resolve_left id).symm
    have KLT_I22 := gc_LT_fr KLT_I ((g21 23 5).resolve_left (fun h => h.elim (fun h => absurd h.2 (by decide)) (fun h => absurd h.2 (by decide)))) ((g21 23 6).resolve_left (fun h => h.elim (fun h => absurd h.2 (by decide)) (fun h => absurd h.2 (by decide)))) ((g21 23 7).resolve_left (fun h => h.elim (fun h => absurd h.2 (by decide)) (fun h => absurd h.2 (by decide)))) (fun k => (g21 24 k).resolve_left (fun h => h.elim (fun h => absurd h.1 (by decide)) (fun h => absurd h.1 (by decide))))
    have KTK_I22 := gc_TK_fr KTK_I ((g21 23 1).resolve_left (fun h => h.elim (fun h => absurd h.2 (by decide)) (fun h => absurd h.2 (by decide)))) ((g21 23 5).resolve_left (fun h => h.elim (fun h => absurd h.2 (by decide)) (fun h => absurd h.2 (by decide)))) ((g21 23 6).resolve_left (fun h => h.elim (fun h => absurd h.2 (by decide)) (fun h => absurd h.2 (by decide)))) ((g21 23 7).resolve_left (fun h => h.elim (fun h => absurd h.2 (by decide)) (fun h => absurd h.2 (by decide))))
    have KCT_I22 := gc_CT_fr KCT_I ((g21 a1 8).resolve_left (fun h => h.elim (fun h => absurd h.2 (by decide)) (fun h => absurd h.2 (by decide)))) (fun k => (g21 (a1 + 6) k).resolve_left (fun h => h.elim (fun h => absurd h.1 N_a1_6__39) (fun h => absurd h.1 N_a1_6__39)))
    refine gv_callV hD rfl (As := [.inl 5, .inl (I 23 5)]) (st := []) rfl B_39 S_39 rfl (gc_lV6 hws rfl) (Nat.le_of_ble_eq_true rfl) (gz_Ev_mono (d := 1) (by decide) E21) ?_
    show gv_X _ _ (51, [(0, .inr (.inr (some 39)))], [.inl z21], sh, gc_h sh I22 J A)
    exact gv_zret hD rfl (by omega) ⟨I22, J, rfl, hI22, FI22, FJ, KLT_I22, KTK_I22, KCT_I22, ⟨_, rfl, by omega, by omega, by omega, by omega, (Or.inl (by omega))⟩⟩
  have L108 : ∀ (I32 : gr_I) (J33 : gr_J) , gc_Inv ro I32 → (∀ q j : Nat, ((q = 39 ∧ j = 3) ∨ (q = 39 ∧ j = 4) ∨ (q = 23 ∧ j = 5) ∨ (q = 23 ∧ j = 6) ∨ (q = 23 ∧ j = 7) ∨ (q = 23 ∧ j = 8) ∨ (q = 39 ∧ j = 6) ∨ q = (a1 + 1) ∨ q = (a1 + 6) ∨ q = (a1 + 4) ∨ q = (a1 + 5) ∨ (q = a1 ∧ j = 8)) ∨ I32 q j = I q j) → (∀ q j : Nat, ((q = 23 ∧ j = 9)) ∨ J33 q j = J q j) → gc_LT I32 → gc_TK I32 → gc_CT a1 I32 → ((I32 23 1 = I 23 1) ∧ (I 23 5 ≤ I32 23 5) ∧ (I32 39 2 = (t : Int))) → gv_X (gc_E6 ws0 tb 3 (yX6_readArgument, cX6_readArgument, 3, (some .boolean)) kX6_readArgument) (gv_Q cX6_readArgument (some .boolean) sh (fun r h' => (∃ (I' : gr_I) (J' : gr_J), h' = gc_h sh I' J' A ∧ gc_Inv ro I' ∧ (∀ q j : Nat, ((q = 39 ∧ j = 3) ∨ (q = 39 ∧ j = 4) ∨ (q = 23 ∧ j = 5) ∨ (q = 23 ∧ j = 6) ∨ (q = 23 ∧ j = 7) ∨ (q = 23 ∧ j = 8) ∨ (q = 39 ∧ j = 6) ∨ q = (a1 + 1) ∨ q = (a1 + 6) ∨ q = (a1 + 4) ∨ q = (a1 + 5) ∨ (q = a1 ∧ j = 8)) ∨ I' q j = I q j) ∧ (∀ q j : Nat, ((q = 23 ∧ j = 9)) ∨ J' q j = J q j) ∧ gc_LT I' ∧ gc_TK I' ∧ gc_CT a1 I' ∧ (∃ z : Int, r = some (.inl z) ∧ 0 ≤ z ∧ z ≤ 1 ∧ (I' 23 1 = I 23 1) ∧ (I 23 5 ≤ I' 23 5) ∧ (gc_LE z a1 (I a1 4 + 1) I'))))) (108, [], [], sh, gc_h sh I32 J33 A) := by
    intro I32 J33 hI32 FI32 FJ33 KLT_I32 KTK_I32 KCT_I32 m_34
    obtain ⟨e0_34, e1_34, e2_34⟩ := m_34
    have t35 := gc_TK_mo KTK_I32
    have f36 := (show 0 ≤ I32 23 1 ∧ I32 23 1 ≤ 1000 from gc_in hI32 R_23 rfl rfl)
    have f37 := (show 0 ≤ I32 23 5 ∧ I32 23 5 ≤ 1000 from gc_in hI32 R_23 rfl rfl)
    have f38 := (show 0 ≤ I32 23 6 ∧ I32 23 6 ≤ 1001 from gc_in hI32 R_23 rfl rfl)
    have f39 := (show 0 ≤ I32 23 7 ∧ I32 23 7 ≤ 125 from gc_in hI32 R_23 rfl rfl)
    have f40 := (show 0 ≤ I32 a1 4 ∧ I32 a1 4 ≤ 6 from gc_in hI32 R_a1 rfl rfl)
    have f41 := (show 0 ≤ I32 a1 8 ∧ I32 a1 8 ≤ 4 from gc_in hI32 R_a1 rfl rfl)
    have f42 := (show 0 ≤ I32 23 8 ∧ I32 23 8 ≤ 999999 from gc_in hI32 R_23 rfl rfl)
    have f43 := (show (-1) ≤ I32 39 2 ∧ I32 39 2 ≤ 999999 from gc_in hI32 R_39 rfl rfl)
    refine gv_run 1 true hD (pc' := 109) (lv' := []) (st' := [.inl 0]) (h' := gc_h sh I32 J33 A) (C := (True ∧ True)) rfl ⟨trivial, trivial⟩ ?_
    exact gv_zret hD rfl (by omega) ⟨I32, J33, rfl, hI32, FI32, FJ33, KLT_I32, KTK_I32, KCT_I32, ⟨_, rfl, by omega, by omega, by omega, by omega, (Or.inl (by omega))⟩⟩
  have L110 : ∀ (I44 : gr_I) (J45 : gr_J) (v2_46 : Int), gc_Inv ro I44 → (∀ q j : Nat, ((q = 39 ∧ j = 3) ∨ (q = 39 ∧ j = 4) ∨ (q = 23 ∧ j = 5) ∨ (q = 23 ∧ j = 6) ∨ (q = 23 ∧ j = 7) ∨ (q = 23 ∧ j = 8) ∨ (q = 39 ∧ j = 6) ∨ q = (a1 + 1) ∨ q = (a1 + 6) ∨ q = (a1 + 4) ∨ q = (a1 + 5) ∨ (q = a1 ∧ j = 8)) ∨ I44 q j = I q j) → (∀ q j : Nat, ((q = 23 ∧ j = 9)) ∨ J45 q j = J q j) → gc_LT I44 → gc_TK I44 → gc_CT a1 I44 → ((0 ≤ v2_46 ∧ v2_46 ≤ 3) ∧ (I44 (a1 + 6) (Int.toNat v2_46) < 0) ∧ (I44 a1 4 ≤ 5) ∧ (v2_46 < I 12 (Int.toNat (I a1 1))) ∧ (I44 a1 4 = I a1 4) ∧ (I44 23 1 = I 23 1) ∧ (I 23 5 ≤ I44 23 5) ∧ (I44 39 2 = (t : Int))) → (gc_LI a1 (I44 a1 4) I44) → gv_X (gc_E6 ws0 tb 3 (yX6_readArgument, cX6_readArgument, 3, (some .boolean)) kX6_readArgument) (gv_Q cX6_readArgument (some .boolean) sh (fun r h' => (∃ (I' : gr_I) (J' : gr_J), h' = gc_h sh I' J' A ∧ gc_Inv ro I' ∧ (∀ q j : Nat, ((q = 39 ∧ j = 3) ∨ (q = 39 ∧ j = 4) ∨ (q = 23 ∧ j = 5) ∨ (q = 23 ∧ j = 6) ∨ (q = 23 ∧ j = 7) ∨ (q = 23 ∧ j = 8) ∨ (q = 39 ∧ j = 6) ∨ q = (a1 + 1) ∨ q = (a1 + 6) ∨ q = (a1 + 4) ∨ q = (a1 + 5) ∨ (q = a1 ∧ j = 8)) ∨ I' q j = I q j) ∧ (∀ q j : Nat, ((q = 23 ∧ j = 9)) ∨ J' q j = J q j) ∧ gc_LT I' ∧ gc_TK I' ∧ gc_CT a1 I' ∧ (∃ z : Int, r = some (.inl z) ∧ 0 ≤ z ∧ z ≤ 1 ∧ (I' 23 1 = I 23 1) ∧ (I 23 5 ≤ I' 23 5) ∧ (gc_LE z a1 (I a1 4 + 1) I'))))) (110, [(0, .inr (.inr (some 39))), (1, .inr (.inr (some a1))), (2, .inl v2_46)], [], sh, gc_h sh I44 J45 A) := by
    intro I44 J45 v2_46 hI44 FI44 FJ45 KLT_I44 KTK_I44 KCT_I44 m_46 e0_46
    obtain ⟨hv2_46, e1_46, e2_46, e3_46, e4_46, e5_46, e6_46, e7_46⟩ := m_46
    have t47 := gc_TK_mo KTK_I44
    have f48 := (show 0 ≤ I44 23 1 ∧ I44 23 1 ≤ 1000 from gc_in hI44 R_23 rfl rfl)
    have f49 := (show 0 ≤ I44 23 5 ∧ I44 23 5 ≤ 1000 from gc_in hI44 R_23 rfl rfl)
    have f50 := (show 0 ≤ I44 23 6 ∧ I44 23 6 ≤ 1001 from gc_in hI44 R_23 rfl rfl)
    have f51 := (show 0 ≤ I44 23 7 ∧ I44 23 7 ≤ 125 from gc_in hI44 R_23 rfl rfl)
    have f52 := (show 0 ≤ I44 a1 4 ∧ I44 a1 4 ≤ 6 from gc_in hI44 R_a1 rfl rfl)
    have f53 := (show 0 ≤ I44 a1 8 ∧ I44 a1 8 ≤ 4 from gc_in hI44 R_a1 rfl rfl)
    have f54 := (show 0 ≤ I44 23 8 ∧ I44 23 8 ≤ 999999 from gc_in hI44 R_23 rfl rfl)
    have f55 := (show (-1) ≤ I44 39 2 ∧ I44 39 2 ≤ 999999 from gc_in hI44 R_39 rfl rfl)
    have t56 := gc_CT_lt (a := v2_46) KCT_I44 (by omega) (by omega)
    refine gv_run 1 true hD (pc' := 111) (lv' := [(0, .inr (.inr (some 39))), (1, .inr (.inr (some a1))), (2, .inl v2_46)]) (st' := [.inr (.inr (some a1))]) (h' := gc_h sh I44 J45 A) (C := (True ∧ True)) rfl ⟨trivial, trivial⟩ ?_
    refine gv_get hD rfl rfl S_a1 ⟨by decide, B_a1⟩ (gc_hA S_a1 rfl A_a1_5) ?_
    show gv_X _ _ (114, [(0, .inr (.inr (some 39))), (1, .inr (.inr (some a1))), (2, .inl v2_46)], [.inr (.inr (some (a1 + 1)))], sh, gc_h sh I44 J45 A)
    refine gv_run 1 true hD (pc' := 115) (lv' := [(0, .inr (.inr (some 39))), (1, .inr (.inr (some a1))), (2, .inl v2_46)]) (st' := [.inr (.inr (some a1)), .inr (.inr (some (a1 + 1)))]) (h' := gc_h sh I44 J45 A) (C := (True ∧ True)) rfl ⟨trivial, trivial⟩ ?_
    have f57 := (show 0 ≤ I44 a1 4 ∧ I44 a1 4 ≤ 6 from gc_in hI44 R_a1 rfl rfl)
    refine gv_get hD rfl rfl S_a1 ⟨by decide, B_a1⟩ (gc_hI S_a1 rfl) ?_
    show gv_X _ _ (118, [(0, .inr (.inr (some 39))), (1, .inr (.inr (some a1))), (2, .inl v2_46)], [.inl (I44 a1 4), .inr (.inr (some (a1 + 1)))], sh, gc_h sh I44 J45 A)
    refine gv_run 1 true hD (pc' := 119) (lv' := [(0, .inr (.inr (some 39))), (1, .inr (.inr (some a1))), (2, .inl v2_46)]) (st' := [.inl v2_46, .inl (I44 a1 4), .inr (.inr (some (a1 + 1)))]) (h' := gc_h sh I44 J45 A) (C := (True ∧ True)) rfl ⟨trivial, trivial⟩ ?_
    refine gv_iast hD rfl S_a1_1 ⟨by decide, B_a1_1⟩ ⟨by omega, by omega⟩ ?_
    refine gc_st hI44 S_a1_1 rfl R_a1_1 (lo := (-1)) (hi := 3) rfl rfl (by omega) (by omega) (fun I58 hI58 q59 p59 => ?_)
    have FI58 := gc_frs (W := fun q j => (q = 39 ∧ j = 3) ∨ (q = 39 ∧ j = 4) ∨ (q = 23 ∧ j = 5) ∨ (q = 23 ∧ j = 6) ∨ (q = 23 ∧ j = 7) ∨ (q = 23 ∧ j = 8) ∨ (q = 39 ∧ j = 6) ∨ q = (a1 + 1) ∨ q = (a1 + 6) ∨ q = (a1 + 4) ∨ q = (a1 + 5) ∨ (q = a1 ∧ j = 8)) FI44 (Or.inr (Or.inr (Or.inr (Or.inr (Or.inr (Or.inr (Or.inr (Or.inl rfl)))))))) p59
    have t60 := p59 23 1 (fun h => absurd h.1 N_23__a1_1)
    have t61 := p59 23 5 (fun h => absurd h.1 N_23__a1_1)
    have t62 := p59 23 6 (fun h => absurd h.1 N_23__a1_1)
    have t63 := p59 23 7 (fun h => absurd h.1 N_23__a1_1)
    have t64 := p59 a1 4 (fun h => absurd h.1 N_a1__a1_1)
    have t65 := p59 a1 8 (fun h => absurd h.1 N_a1__a1_1)
    have t66 := p59 23 8 (fun h => absurd h.1 N_23__a1_1)
    have t67 := p59 39 2 (fun h => absurd h.1 N_39__a1_1)
    have t68 := p59 (a1 + 6) (Int.toNat v2_46) (fun h => absurd h.1 N_a1_6__a1_1)
    have KLT_I58 := gc_LT_fr KLT_I44 (p59 23 5 (fun h => absurd h.1 N_23__a1_1)) (p59 23 6 (fun h => absurd h.1 N_23__a1_1)) (p59 23 7 (fun h => absurd h.1 N_23__a1_1)) (fun k => p59 24 k (fun h => absurd h.1 N_24__a1_1))
    have KTK_I58 := gc_TK_fr KTK_I44 (p59 23 1 (fun h => absurd h.1 N_23__a1_1)) (p59 23 5 (fun h => absurd h.1 N_23__a1_1)) (p59 23 6 (fun h => absurd h.1 N_23__a1_1)) (p59 23 7 (fun h => absurd h.1 N_23__a1_1))
    have KCT_I58 := gc_CT_fr KCT_I44 (p59 a1 8 (fun h => absurd h.1 N_a1__a1_1)) (fun k => p59 (a1 + 6) k (fun h => absurd h.1 N_a1_6__a1_1))
    show gv_X _ _ (120, [(0, .inr (.inr (some 39))), (1, .inr (.inr (some a1))), (2, .inl v2_46)], [], sh, gc_h sh I58 J45 A)
    refine gv_run 1 true hD (pc' := 121) (lv' := [(0, .inr (.inr (some 39))), (1, .inr (.inr (some a1))), (2, .inl v2_46)]) (st' := [.inr (.inr (some a1))]) (h' := gc_h sh I58 J45 A) (C := (True ∧ True)) rfl ⟨trivial, trivial⟩ ?_
    refine gv_get hD rfl rfl S_a1 ⟨by decide, B_a1⟩ (gc_hA S_a1 rfl A_a1_11) ?_
    show gv_X _ _ (124, [(0, .inr (.inr (some 39))), (1, .inr (.inr (some a1))), (2, .inl v2_46)], [.inr (.inr (some (a1 + 6)))], sh, gc_h sh I58 J45 A)
    refine gv_run 2 true hD (pc' := 126) (lv' := [(0, .inr (.inr (some 39))), (1, .inr (.inr (some a1))), (2, .inl v2_46)]) (st' := [.inr (.inr (some a1)), .inl v2_46, .inr (.inr (some (a1 + 6)))]) (h' := gc_h sh I58 J45 A) (C := ((True ∧ True) ∧ True)) rfl ⟨⟨trivial, trivial⟩, trivial⟩ ?_
    have f69 := (show 0 ≤ I58 a1 8 ∧ I58 a1 8 ≤ 4 from gc_in hI58 R_a1 rfl rfl)
    refine gv_get hD rfl rfl S_a1 ⟨by decide, B_a1⟩ (gc_hI S_a1 rfl) ?_
    show gv_X _ _ (129, [(0, .inr (.inr (some 39))), (1, .inr (.inr (some a1))), (2, .inl v2_46)], [.inl (I58 a1 8), .inl v2_46, .inr (.inr (some (a1 + 6)))], sh, gc_h sh I58 J45 A)
    refine gv_iast hD rfl S_a1_6 ⟨by decide, B_a1_6⟩ ⟨by omega, by omega⟩ ?_
    refine gc_st hI58 S_a1_6 rfl R_a1_6 (lo := (-1)) (hi := 3) rfl rfl (by omega) (by omega) (fun I70 hI70 q71 p71 => ?_)
    have FI70 := gc_frs (W := fun q j => (q = 39 ∧ j = 3) ∨ (q = 39 ∧ j = 4) ∨ (q = 23 ∧ j = 5) ∨ (q = 23 ∧ j = 6) ∨ (q = 23 ∧ j = 7) ∨ (q = 23 ∧ j = 8) ∨ (q = 39 ∧ j = 6) ∨ q = (a1 + 1) ∨ q = (a1 + 6) ∨ q = (a1 + 4) ∨ q = (a1 + 5) ∨ (q = a1 ∧ j = 8)) FI58 (Or.inr (Or.inr (Or.inr (Or.inr (Or.inr (Or.inr (Or.inr (Or.inr (Or.inl rfl))))))))) p71
    have t72 := p71 23 1 (fun h => absurd h.1 N_23__a1_6)
    have t73 := p71 23 5 (fun h => absurd h.1 N_23__a1_6)
    have t74 := p71 23 6 (fun h => absurd h.1 N_23__a1_6)
    have t75 := p71 23 7 (fun h => absurd h.1 N_23__a1_6)
    have t76 := p71 a1 4 (fun h => absurd h.1 N_a1__a1_6)
    have t77 := p71 a1 8 (fun h => absurd h.1 N_a1__a1_6)
    have t78 := p71 23 8 (fun h => absurd h.1 N_23__a1_6)
    have t79 := p71 39 2 (fun h => absurd h.1 N_39__a1_6)
    have KLT_I70 := gc_LT_fr KLT_I58 (p71 23 5 (fun h => absurd h.1 N_23__a1_6)) (p71 23 6 (fun h => absurd h.1 N_23__a1_6)) (p71 23 7 (fun h => absurd h.1 N_23__a1_6)) (fun k => p71 24 k (fun h => absurd h.1 N_24__a1_6))
    have KTK_I70 := gc_TK_fr KTK_I58 (p71 23 1 (fun h => absurd h.1 N_23__a1_6)) (p71 23 5 (fun h => absurd h.1 N_23__a1_6)) (p71 23 6 (fun h => absurd h.1 N_23__a1_6)) (p71 23 7 (fun h => absurd h.1 N_23__a1_6))
    show gv_X _ _ (130, [(0, .inr (.inr (some 39))), (1, .inr (.inr (some a1))), (2, .inl v2_46)], [], sh, gc_h sh I70 J45 A)
    refine gv_run 1 true hD (pc' := 131) (lv' := [(0, .inr (.inr (some 39))), (1, .inr (.inr (some a1))), (2, .inl v2_46)]) (st' := [.inr (.inr (some a1))]) (h' := gc_h sh I70 J45 A) (C := (True ∧ True)) rfl ⟨trivial, trivial⟩ ?_
    refine gv_get hD rfl rfl S_a1 ⟨by decide, B_a1⟩ (gc_hA S_a1 rfl A_a1_9) ?_
    show gv_X _ _ (134, [(0, .inr (.inr (some 39))), (1, .inr (.inr (some a1))), (2, .inl v2_46)], [.inr (.inr (some (a1 + 4)))], sh, gc_h sh I70 J45 A)
    refine gv_run 1 true hD (pc' := 135) (lv' := [(0, .inr (.inr (some 39))), (1, .inr (.inr (some a1))), (2, .inl v2_46)]) (st' := [.inr (.inr (some a1)), .inr (.inr (some (a1 + 4)))]) (h' := gc_h sh I70 J45 A) (C := (True ∧ True)) rfl ⟨trivial, trivial⟩ ?_
    have f80 := (show 0 ≤ I70 a1 8 ∧ I70 a1 8 ≤ 4 from gc_in hI70 R_a1 rfl rfl)
    refine gv_get hD rfl rfl S_a1 ⟨by decide, B_a1⟩ (gc_hI S_a1 rfl) ?_
    show gv_X _ _ (138, [(0, .inr (.inr (some 39))), (1, .inr (.inr (some a1))), (2, .inl v2_46)], [.inl (I70 a1 8), .inr (.inr (some (a1 + 4)))], sh, gc_h sh I70 J45 A)
    refine gv_run 1 true hD (pc' := 139) (lv' := [(0, .inr (.inr (some 39))), (1, .inr (.inr (some a1))), (2, .inl v2_46)]) (st' := [.inl v2_46, .inl (I70 a1 8), .inr (.inr (some (a1 + 4)))]) (h' := gc_h sh I70 J45 A) (C := (True ∧ True)) rfl ⟨trivial, trivial⟩ ?_
    refine gv_iast hD rfl S_a1_4 ⟨by decide, B_a1_4⟩ ⟨by omega, by omega⟩ ?_
    refine gc_st hI70 S_a1_4 rfl R_a1_4 (lo := 0) (hi := 3) rfl rfl (by omega) (by omega) (fun I81 hI81 q82 p82 => ?_)
    have FI81 := gc_frs (W := fun q j => (q = 39 ∧ j = 3) ∨ (q = 39 ∧ j = 4) ∨ (q = 23 ∧ j = 5) ∨ (q = 23 ∧ j = 6) ∨ (q = 23 ∧ j = 7) ∨ (q = 23 ∧ j = 8) ∨ (q = 39 ∧ j = 6) ∨ q = (a1 + 1) ∨ q = (a1 + 6) ∨ q = (a1 + 4) ∨ q = (a1 + 5) ∨ (q = a1 ∧ j = 8)) FI70 (Or.inr (Or.inr (Or.inr (Or.inr (Or.inr (Or.inr (Or.inr (Or.inr (Or.inr (Or.inl rfl)))))))))) p82
    have t83 := p82 23 1 (fun h => absurd h.1 N_23__a1_4)
    have t84 := p82 23 5 (fun h => absurd h.1 N_23__a1_4)
    have t85 := p82 23 6 (fun h => absurd h.1 N_23__a1_4)
    have t86 := p82 23 7 (fun h => absurd h.1 N_23__a1_4)
    have t87 := p82 a1 4 (fun h => absurd h.1 N_a1__a1_4)
    have t88 := p82 a1 8 (fun h => absurd h.1 N_a1__a1_4)
    have t89 := p82 23 8 (fun h => absurd h.1 N_23__a1_4)
    have t90 := p82 39 2 (fun h => absurd h.1 N_39__a1_4)
    have t91 := p82 (a1 + 6) (Int.toNat v2_46) (fun h => absurd h.1 N_a1_6__a1_4)
    have KLT_I81 := gc_LT_fr KLT_I70 (p82 23 5 (fun h => absurd h.1 N_23__a1_4)) (p82 23 6 (fun h => absurd h.1 N_23__a1_4)) (p82 23 7 (fun h => absurd h.1 N_23__a1_4)) (fun k => p82 24 k (fun h => absurd h.1 N_24__a1_4))
    have KTK_I81 := gc_TK_fr KTK_I70 (p82 23 1 (fun h => absurd h.1 N_23__a1_4)) (p82 23 5 (fun h => absurd h.1 N_23__a1_4)) (p82 23 6 (fun h => absurd h.1 N_23__a1_4)) (p82 23 7 (fun h => absurd h.1 N_23__a1_4))
    show gv_X _ _ (140, [(0, .inr (.inr (some 39))), (1, .inr (.inr (some a1))), (2, .inl v2_46)], [], sh, gc_h sh I81 J45 A)
    refine gv_run 1 true hD (pc' := 141) (lv' := [(0, .inr (.inr (some 39))), (1, .inr (.inr (some a1))), (2, .inl v2_46)]) (st' := [.inr (.inr (some a1))]) (h' := gc_h sh I81 J45 A) (C := (True ∧ True)) rfl ⟨trivial, trivial⟩ ?_
    refine gv_get hD rfl rfl S_a1 ⟨by decide, B_a1⟩ (gc_hA S_a1 rfl A_a1_10) ?_
    show gv_X _ _ (144, [(0, .inr (.inr (some 39))), (1, .inr (.inr (some a1))), (2, .inl v2_46)], [.inr (.inr (some (a1 + 5)))], sh, gc_h sh I81 J45 A)
    refine gv_run 1 true hD (pc' := 145) (lv' := [(0, .inr (.inr (some 39))), (1, .inr (.inr (some a1))), (2, .inl v2_46)]) (st' := [.inr (.inr (some a1)), .inr (.inr (some (a1 + 5)))]) (h' := gc_h sh I81 J45 A) (C := (True ∧ True)) rfl ⟨trivial, trivial⟩ ?_
    have f92 := (show 0 ≤ I81 a1 8 ∧ I81 a1 8 ≤ 4 from gc_in hI81 R_a1 rfl rfl)
    refine gv_get hD rfl rfl S_a1 ⟨by decide, B_a1⟩ (gc_hI S_a1 rfl) ?_
    show gv_X _ _ (148, [(0, .inr (.inr (some 39))), (1, .inr (.inr (some a1))), (2, .inl v2_46)], [.inl (I81 a1 8), .inr (.inr (some (a1 + 5)))], sh, gc_h sh I81 J45 A)
    refine gv_run 1 true hD (pc' := 149) (lv' := [(0, .inr (.inr (some 39))), (1, .inr (.inr (some a1))), (2, .inl v2_46)]) (st' := [.inr (.inr (some 39)), .inl (I81 a1 8), .inr (.inr (some (a1 + 5)))]) (h' := gc_h sh I81 J45 A) (C := (True ∧ True)) rfl ⟨trivial, trivial⟩ ?_
    have f93 := (show 0 ≤ I81 39 6 ∧ I81 39 6 ≤ 16777215 from gc_in hI81 R_39 rfl rfl)
    refine gv_get hD rfl rfl S_39 ⟨by decide, B_39⟩ (gc_hI S_39 rfl) ?_
    show gv_X _ _ (152, [(0, .inr (.inr (some 39))), (1, .inr (.inr (some a1))), (2, .inl v2_46)], [.inl (I81 39 6), .inl (I81 a1 8), .inr (.inr (some (a1 + 5)))], sh, gc_h sh I81 J45 A)
    refine gv_iast hD rfl S_a1_5 ⟨by decide, B_a1_5⟩ ⟨by omega, by omega⟩ ?_
    refine gc_st hI81 S_a1_5 rfl R_a1_5 (lo := 0) (hi := 16777215) rfl rfl (by omega) (by omega) (fun I94 hI94 q95 p95 => ?_)
    have FI94 := gc_frs (W := fun q j => (q = 39 ∧ j = 3) ∨ (q = 39 ∧ j = 4) ∨ (q = 23 ∧ j = 5) ∨ (q = 23 ∧ j = 6) ∨ (q = 23 ∧ j = 7) ∨ (q = 23 ∧ j = 8) ∨ (q = 39 ∧ j = 6) ∨ q = (a1 + 1) ∨ q = (a1 + 6) ∨ q = (a1 + 4) ∨ q = (a1 + 5) ∨ (q = a1 ∧ j = 8)) FI81 (Or.inr (Or.inr (Or.inr (Or.inr (Or.inr (Or.inr (Or.inr (Or.inr (Or.inr (Or.inr (Or.inl rfl))))))))))) p95
    have t96 := p95 23 1 (fun h => absurd h.1 N_23__a1_5)
    have t97 := p95 23 5 (fun h => absurd h.1 N_23__a1_5)
    have t98 := p95 23 6 (fun h => absurd h.1 N_23__a1_5)
    have t99 := p95 23 7 (fun h => absurd h.1 N_23__a1_5)
    have t100 := p95 a1 4 (fun h => absurd h.1 N_a1__a1_5)
    have t101 := p95 a1 8 (fun h => absurd h.1 N_a1__a1_5)
    have t102 := p95 23 8 (fun h => absurd h.1 N_23__a1_5)
    have t103 := p95 39 2 (fun h => absurd h.1 N_39__a1_5)
    have t104 := p95 (a1 + 6) (Int.toNat v2_46) (fun h => absurd h.1 N_a1_6__a1_5)
    have KLT_I94 := gc_LT_fr KLT_I81 (p95 23 5 (fun h => absurd h.1 N_23__a1_5)) (p95 23 6 (fun h => absurd h.1 N_23__a1_5)) (p95 23 7 (fun h => absurd h.1 N_23__a1_5)) (fun k => p95 24 k (fun h => absurd h.1 N_24__a1_5))
    have KTK_I94 := gc_TK_fr KTK_I81 (p95 23 1 (fun h => absurd h.1 N_23__a1_5)) (p95 23 5 (fun h => absurd h.1 N_23__a1_5)) (p95 23 6 (fun h => absurd h.1 N_23__a1_5)) (p95 23 7 (fun h => absurd h.1 N_23__a1_5))
    show gv_X _ _ (153, [(0, .inr (.inr (some 39))), (1, .inr (.inr (some a1))), (2, .inl v2_46)], [], sh, gc_h sh I94 J45 A)
    refine gv_run 2 true hD (pc' := 155) (lv' := [(0, .inr (.inr (some 39))), (1, .inr (.inr (some a1))), (2, .inl v2_46)]) (st' := [.inr (.inr (some a1)), .inr (.inr (some a1))]) (h' := gc_h sh I94 J45 A) (C := ((True ∧ True) ∧ True)) rfl ⟨⟨trivial, trivial⟩, trivial⟩ ?_
    have f105 := (show 0 ≤ I94 a1 8 ∧ I94 a1 8 ≤ 4 from gc_in hI94 R_a1 rfl rfl)
    refine gv_get hD rfl rfl S_a1 ⟨by decide, B_a1⟩ (gc_hI S_a1 rfl) ?_
    show gv_X _ _ (158, [(0, .inr (.inr (some 39))), (1, .inr (.inr (some a1))), (2, .inl v2_46)], [.inl (I94 a1 8), .inr (.inr (some a1))], sh, gc_h sh I94 J45 A)
    refine gv_run 2 true hD (pc' := 160) (lv' := [(0, .inr (.inr (some 39))), (1, .inr (.inr (some a1))), (2, .inl v2_46)]) (st' := [.inl ((I94 a1 8) + 1), .inr (.inr (some a1))]) (h' := gc_h sh I94 J45 A) (C := ((True ∧ True) ∧ True)) rfl ⟨⟨trivial, trivial⟩, trivial⟩ ?_
    refine gv_put hD rfl rfl S_a1 ⟨by decide, B_a1⟩ rfl trivial ?_
    refine gc_st (k := 8) hI94 S_a1 rfl R_a1 (lo := 0) (hi := 4) rfl rfl (by omega) (by omega) (fun I106 hI106 q107 p107 => ?_)
    have FI106 := gc_frs (W := fun q j => (q = 39 ∧ j = 3) ∨ (q = 39 ∧ j = 4) ∨ (q = 23 ∧ j = 5) ∨ (q = 23 ∧ j = 6) ∨ (q = 23 ∧ j = 7) ∨ (q = 23 ∧ j = 8) ∨ (q = 39 ∧ j = 6) ∨ q = (a1 + 1) ∨ q = (a1 + 6) ∨ q = (a1 + 4) ∨ q = (a1 + 5) ∨ (q = a1 ∧ j = 8)) FI94 (Or.inr (Or.inr (Or.inr (Or.inr (Or.inr (Or.inr (Or.inr (Or.inr (Or.inr (Or.inr (Or.inr ⟨rfl, rfl⟩))))))))))) p107
    have t108 := p107 23 1 (fun h => absurd h.2 (by decide))
    have t109 := p107 23 5 (fun h => absurd h.2 (by decide))
    have t110 := p107 23 6 (fun h => absurd h.2 (by decide))
    have t111 := p107 23 7 (fun h => absurd h.2 (by decide))
    have t112 := p107 a1 4 (fun h => absurd h.2 (by decide))
    have t113 := p107 23 8 (fun h => absurd h.1 N_23__a1)
    have t114 := p107 39 2 (fun h => absurd h.2 (by decide))
    have t115 := p107 (a1 + 6) (Int.toNat v2_46) (fun h => absurd h.1 N_a1_6__a1)
    have f116 := (show 0 ≤ I106 a1 8 ∧ I106 a1 8 ≤ 4 from gc_in hI106 R_a1 rfl rfl)
    have KLT_I106 := gc_LT_fr KLT_I94 (p107 23 5 (fun h => absurd h.2 (by decide))) (p107 23 6 (fun h => absurd h.2 (by decide))) (p107 23 7 (fun h => absurd h.2 (by decide))) (fun k => p107 24 k (fun h => absurd h.1 N_24__a1))
    have KTK_I106 := gc_TK_fr KTK_I94 (p107 23 1 (fun h => absurd h.2 (by decide))) (p107 23 5 (fun h => absurd h.2 (by decide))) (p107 23 6 (fun h => absurd h.2 (by decide))) (p107 23 7 (fun h => absurd h.2 (by decide)))
    show gv_X _ _ (163, [(0, .inr (.inr (some 39))), (1, .inr (.inr (some a1))), (2, .inl v2_46)], [], sh, gc_h sh I106 J45 A)
    refine gv_run 1 true hD (pc' := 164) (lv' := [(0, .inr (.inr (some 39))), (1, .inr (.inr (some a1))), (2, .inl v2_46)]) (st' := [.inl 1]) (h' := gc_h sh I106 J45 A) (C := (True ∧ True)) rfl ⟨trivial, trivial⟩ ?_
    exact gv_zret hD rfl (by omega) ⟨I106, J45, rfl, hI106, FI106, FJ45, KLT_I106, KTK_I106, (gc_CT_push (a := v2_46) KCT_I44 (by omega) (by omega) (by omega) (by omega) (fun k hk => by rw [p107 (a1 + 6) k (fun h => absurd h.1 (by omega)), p95 (a1 + 6) k (fun h => absurd h.1 (by omega)), p82 (a1 + 6) k (fun h => absurd h.1 (by omega)), p71 (a1 + 6) k (fun h => hk h.2), p59 (a1 + 6) k (fun h => absurd h.1 (by omega))])), ⟨_, rfl, by omega, by omega, by omega, by omega, (Or.inr (by rw [show I a1 4 = I44 a1 4 from by omega]; exact gc_LI_arg (a := v2_46) e0_46 (by omega) ⟨by omega, by have h9 := (show I44 12 (Int.toNat (I44 a1 1)) = I 12 (Int.toNat (I a1 1)) from by rw [show I44 a1 1 = I a1 1 from (FI44 a1 1).resolve_left (by omega)]; exact (FI44 12 _).resolve_left (by omega)); omega⟩ (by omega) ((((((p107 a1 1 (fun h => by have := h.2; omega)).trans (p95 a1 1 (fun h => absurd h.1 (by omega)))).trans (p82 a1 1 (fun h => absurd h.1 (by omega)))).trans (p71 a1 1 (fun h => absurd h.1 (by omega)))).trans (p59 a1 1 (fun h => absurd h.1 (by omega))))) (by omega) ((((((p107 (a1 + 1) (Int.toNat (I44 a1 4)) (fun h => absurd h.1 (by omega))).trans (p95 (a1 + 1) (Int.toNat (I44 a1 4)) (fun h => absurd h.1 (by omega)))).trans (p82 (a1 + 1) (Int.toNat (I44 a1 4)) (fun h => absurd h.1 (by omega)))).trans (p71 (a1 + 1) (Int.toNat (I44 a1 4)) (fun h => absurd h.1 (by omega))))).trans q59) (fun k hk => (((((p107 (a1 + 1) k (fun h => absurd h.1 (by omega))).trans (p95 (a1 + 1) k (fun h => absurd h.1 (by omega)))).trans (p82 (a1 + 1) k (fun h => absurd h.1 (by omega)))).trans (p71 (a1 + 1) k (fun h => absurd h.1 (by omega)))).trans (p59 (a1 + 1) k (fun h => by have := h.2; omega)))) (by have h9 := (((((p107 (a1 + 6) (Int.toNat v2_46) (fun h => absurd h.1 (by omega))).trans (p95 (a1 + 6) (Int.toNat v2_46) (fun h => absurd h.1 (by omega)))).trans (p82 (a1 + 6) (Int.toNat v2_46) (fun h => absurd h.1 (by omega))))).trans q71); omega) (fun k hk => (((((p107 (a1 + 6) k (fun h => absurd h.1 (by omega))).trans (p95 (a1 + 6) k (fun h => absurd h.1 (by omega)))).trans (p82 (a1 + 6) k (fun h => absurd h.1 (by omega)))).trans (p71 (a1 + 6) k (fun h => by have := h.2; omega))).trans (p59 (a1 + 6) k (fun h => absurd h.1 (by omega))))) (by rw [show I44 a1 8 = I70 a1 8 from by omega]; exact ((((p107 (a1 + 4) (Int.toNat (I70 a1 8)) (fun h => absurd h.1 (by omega))).trans (p95 (a1 + 4) (Int.toNat (I70 a1 8)) (fun h => absurd h.1 (by omega))))).trans q82)) (fun k hk => (((((p107 (a1 + 4) k (fun h => absurd h.1 (by omega))).trans (p95 (a1 + 4) k (fun h => absurd h.1 (by omega)))).trans (p82 (a1 + 4) k (fun h => by have := h.2; omega))).trans (p71 (a1 + 4) k (fun h => absurd h.1 (by omega)))).trans (p59 (a1 + 4) k (fun h => absurd h.1 (by omega))))) (fun k => (((((p107 12 k (fun h => absurd h.1 (by omega))).trans (p95 12 k (fun h => absurd h.1 (by omega)))).trans (p82 12 k (fun h => absurd h.1 (by omega)))).trans (p71 12 k (fun h => absurd h.1 (by omega)))).trans (p59 12 k (fun h => absurd h.1 (by omega)))))))⟩⟩
  refine gv_run 1 true hD (pc' := 1) (lv' := [(0, .inr (.inr (some 39))), (1, .inr (.inr (some a1)))]) (st' := [.inr (.inr (some 39))]) (h' := gc_h sh I J A) (C := (True ∧ True)) rfl ⟨trivial, trivial⟩ ?_
  refine gv_get hD rfl rfl S_39 ⟨by decide, B_39⟩ (gc_hA S_39 rfl A_39_1) ?_
  show gv_X _ _ (4, [(0, .inr (.inr (some 39))), (1, .inr (.inr (some a1)))], [.inr (.inr (some 23))], sh, gc_h sh I J A)
  have f117 := (show 0 ≤ I 23 8 ∧ I 23 8 ≤ 999999 from gc_in hI R_23 rfl rfl)
  refine gv_get hD rfl rfl S_23 ⟨by decide, B_23⟩ (gc_hI S_23 rfl) ?_
  show gv_X _ _ (7, [(0, .inr (.inr (some 39))), (1, .inr (.inr (some a1)))], [.inl (I 23 8)], sh, gc_h sh I J A)
  refine gv_run 4 true hD (pc' := 11) (lv' := [(2, .inl ((I 23 8) - 1)), (0, .inr (.inr (some 39))), (1, .inr (.inr (some a1)))]) (st' := [.inl ((I 23 8) - 1)]) (h' := gc_h sh I J A) (C := ((((True ∧ True) ∧ True) ∧ True) ∧ True)) rfl ⟨⟨⟨⟨trivial, trivial⟩, trivial⟩, trivial⟩, trivial⟩ ?_
  refine gv_if_lt (t := 39) hD rfl rfl ⟨by omega, by omega⟩ (fun c118 => ?_) (fun c118 => ?_)
  · show gv_X _ _ (39, [(2, .inl ((I 23 8) - 1)), (0, .inr (.inr (some 39))), (1, .inr (.inr (some a1)))], [], sh, gc_h sh I J A)
    refine gv_pick [1] rfl ?_
    exact L39 (by omega)
  · show gv_X _ _ (14, [(2, .inl ((I 23 8) - 1)), (0, .inr (.inr (some 39))), (1, .inr (.inr (some a1)))], [], sh, gc_h sh I J A)
    refine gv_run 2 true hD (pc' := 16) (lv' := [(2, .inl ((I 23 8) - 1)), (0, .inr (.inr (some 39))), (1, .inr (.inr (some a1)))]) (st' := [.inr (.inr (some 39)), .inl ((I 23 8) - 1)]) (h' := gc_h sh I J A) (C := ((True ∧ True) ∧ True)) rfl ⟨⟨trivial, trivial⟩, trivial⟩ ?_
    refine gv_get hD rfl rfl S_39 ⟨by decide, B_39⟩ (gc_hA S_39 rfl A_39_0) ?_
    show gv_X _ _ (19, [(2, .inl ((I 23 8) - 1)), (0, .inr (.inr (some 39))), (1, .inr (.inr (some a1)))], [.inr (.inr (some 1)), .inl ((I 23 8) - 1)], sh, gc_h sh I J A)
    refine gv_get hD rfl rfl S_1 ⟨by decide, B_1⟩ (gc_hA S_1 rfl A_1_7) ?_
    show gv_X _ _ (22, [(2, .inl ((I 23 8) - 1)), (0, .inr (.inr (some 39))), (1, .inr (.inr (some a1)))], [.inr (.inr (some 12)), .inl ((I 23 8) - 1)], sh, gc_h sh I J A)
    refine gv_run 1 true hD (pc' := 23) (lv' := [(2, .inl ((I 23 8) - 1)), (0, .inr (.inr (some 39))), (1, .inr (.inr (some a1)))]) (st' := [.inr (.inr (some a1)), .inr (.inr (some 12)), .inl ((I 23 8) - 1)]) (h' := gc_h sh I J A) (C := (True ∧ True)) rfl ⟨trivial, trivial⟩ ?_
    have f119 := (show 0 ≤ I a1 1 ∧ I a1 1 ≤ 95 from gc_in hI R_a1 rfl rfl)
    refine gv_get hD rfl rfl S_a1 ⟨by decide, B_a1⟩ (gc_hI S_a1 rfl) ?_
    show gv_X _ _ (26, [(2, .inl ((I 23 8) - 1)), (0, .inr (.inr (some 39))), (1, .inr (.inr (some a1)))], [.inl (I a1 1), .inr (.inr (some 12)), .inl ((I 23 8) - 1)], sh, gc_h sh I J A)
    have f120 := (show 0 ≤ I 12 (Int.toNat (I a1 1)) ∧ I 12 (Int.toNat (I a1 1)) ≤ 4 from gc_in hI R_12 rfl rfl)
    refine gv_iald hD rfl S_12 rfl ⟨by decide, B_12⟩ ⟨by omega, by omega⟩ (gc_iI S_12 rfl) ?_
    show gv_X _ _ (27, [(2, .inl ((I 23 8) - 1)), (0, .inr (.inr (some 39))), (1, .inr (.inr (some a1)))], [.inl (I 12 (Int.toNat (I a1 1))), .inl ((I 23 8) - 1)], sh, gc_h sh I J A)
    refine gv_icmp_ge (t := 39) hD rfl rfl ⟨⟨by omega, by omega⟩, ⟨by omega, by omega⟩⟩ (fun c121 => ?_) (fun c121 => ?_)
    · show gv_X _ _ (39, [(2, .inl ((I 23 8) - 1)), (0, .inr (.inr (some 39))), (1, .inr (.inr (some a1)))], [], sh, gc_h sh I J A)
      refine gv_pick [1] rfl ?_
      exact L39 (by omega)
    · show gv_X _ _ (30, [(2, .inl ((I 23 8) - 1)), (0, .inr (.inr (some 39))), (1, .inr (.inr (some a1)))], [], sh, gc_h sh I J A)
      refine gv_run 1 true hD (pc' := 31) (lv' := [(2, .inl ((I 23 8) - 1)), (0, .inr (.inr (some 39))), (1, .inr (.inr (some a1)))]) (st' := [.inr (.inr (some a1))]) (h' := gc_h sh I J A) (C := (True ∧ True)) rfl ⟨trivial, trivial⟩ ?_
      refine gv_get hD rfl rfl S_a1 ⟨by decide, B_a1⟩ (gc_hA S_a1 rfl A_a1_11) ?_
      show gv_X _ _ (34, [(2, .inl ((I 23 8) - 1)), (0, .inr (.inr (some 39))), (1, .inr (.inr (some a1)))], [.inr (.inr (some (a1 + 6)))], sh, gc_h sh I J A)
      refine gv_run 1 true hD (pc' := 35) (lv' := [(2, .inl ((I 23 8) - 1)), (0, .inr (.inr (some 39))), (1, .inr (.inr (some a1)))]) (st' := [.inl ((I 23 8) - 1), .inr (.inr (some (a1 + 6)))]) (h' := gc_h sh I J A) (C := (True ∧ True)) rfl ⟨trivial, trivial⟩ ?_
      have f122 := (show (-1) ≤ I (a1 + 6) (Int.toNat (((I 23 8) - 1))) ∧ I (a1 + 6) (Int.toNat (((I 23 8) - 1))) ≤ 3 from gc_in hI R_a1_6 rfl rfl)
      refine gv_iald hD rfl S_a1_6 rfl ⟨by decide, B_a1_6⟩ ⟨by omega, by omega⟩ (gc_iI S_a1_6 rfl) ?_
      show gv_X _ _ (36, [(2, .inl ((I 23 8) - 1)), (0, .inr (.inr (some 39))), (1, .inr (.inr (some a1)))], [.inl (I (a1 + 6) (Int.toNat (((I 23 8) - 1))))], sh, gc_h sh I J A)
      refine gv_if_lt (t := 52) hD rfl rfl ⟨by omega, by omega⟩ (fun c123 => ?_) (fun c123 => ?_)
      · show gv_X _ _ (52, [(2, .inl ((I 23 8) - 1)), (0, .inr (.inr (some 39))), (1, .inr (.inr (some a1)))], [], sh, gc_h sh I J A)
        refine gv_run 1 true hD (pc' := 53) (lv' := [(2, .inl ((I 23 8) - 1)), (0, .inr (.inr (some 39))), (1, .inr (.inr (some a1)))]) (st' := [.inr (.inr (some 39))]) (h' := gc_h sh I J A) (C := (True ∧ True)) rfl ⟨trivial, trivial⟩ ?_
        refine gv_get hD rfl rfl S_39 ⟨by decide, B_39⟩ (gc_hA S_39 rfl A_39_1) ?_
        show gv_X _ _ (56, [(2, .inl ((I 23 8) - 1)), (0, .inr (.inr (some 39))), (1, .inr (.inr (some a1)))], [.inr (.inr (some 23))], sh, gc_h sh I J A)
        have t125 := gc_TK_nx KTK_I (by omega)
        obtain ⟨r124, h124, E124, P124⟩ := d_X9_advance (ws0 := ws0) (tb := tb) hws htb sh ro I J A hI 23  (gc_b23 hb)    (by omega) 
        obtain ⟨I126, J127, rfl, hI126, g124, k124, ⟨rfl, V124_0, V124_1, V124_2, V124_3, V124_4, q124⟩⟩ := P124
        have FI126 := gc_frc (W := fun q j => (q = 39 ∧ j = 3) ∨ (q = 39 ∧ j = 4) ∨ (q = 23 ∧ j = 5) ∨ (q = 23 ∧ j = 6) ∨ (q = 23 ∧ j = 7) ∨ (q = 23 ∧ j = 8) ∨ (q = 39 ∧ j = 6) ∨ q = (a1 + 1) ∨ q = (a1 + 6) ∨ q = (a1 + 4) ∨ q = (a1 + 5) ∨ (q = a1 ∧ j = 8)) (V := fun q j => (q = 23 ∧ j = 5) ∨ (q = 23 ∧ j = 6) ∨ (q = 23 ∧ j = 7) ∨ (q = 23 ∧ j = 8)) FI (fun q j h => (h.elim (fun h => (Or.inr (Or.inr (Or.inl h)))) (fun h => (h.elim (fun h => (Or.inr (Or.inr (Or.inr (Or.inl h))))) (fun h => (h.elim (fun h => (Or.inr (Or.inr (Or.inr (Or.inr (Or.inl h)))))) (fun h => (Or.inr (Or.inr (Or.inr (Or.inr (Or.inr (Or.inl h))))))))))))) g124
        have FJ127 := gc_frc (W := fun q j => (q = 23 ∧ j = 9)) (V := fun q j => (q = 23 ∧ j = 9)) FJ (fun q j h => h) k124
        have t128 := (g124 23 1).resolve_left (fun h => h.elim (fun h => absurd h.2 (by decide)) (fun h => h.elim (fun h => absurd h.2 (by decide)) (fun h => h.elim (fun h => absurd h.2 (by decide)) (fun h => absurd h.2 (by decide)))))
        have t129 := (g124 a1 4).resolve_left (fun h => h.elim (fun h => absurd h.2 (by decide)) (fun h => h.elim (fun h => absurd h.2 (by decide)) (fun h => h.elim (fun h => absurd h.2 (by decide)) (fun h => absurd h.2 (by decide)))))
        have t130 := (g124 a1 8).resolve_left (fun h => h.elim (fun h => absurd h.2 (by decide)) (fun h => h.elim (fun h => absurd h.2 (by decide)) (fun h => h.elim (fun h => absurd h.2 (by decide)) (fun h => absurd h.1 N_a1__23))))
        have t131 := (g124 39 2).resolve_left (fun h => h.elim (fun h => absurd h.2 (by decide)) (fun h => h.elim (fun h => absurd h.2 (by decide)) (fun h => h.elim (fun h => absurd h.2 (by decide)) (fun h => absurd h.2 (by decide)))))
        have t132 := (g124 (a1 + 6) (Int.toNat (((I 23 8) - 1)))).resolve_left (fun h => h.elim (fun h => absurd h.1 N_a1_6__23) (fun h => h.elim (fun h => absurd h.1 N_a1_6__23) (fun h => h.elim (fun h => absurd h.1 N_a1_6__23) (fun h => absurd h.1 N_a1_6__23))))
        have f133 := (show 0 ≤ I126 23 5 ∧ I126 23 5 ≤ 1000 from gc_in hI126 R_23 rfl rfl)
        have f134 := (show 0 ≤ I126 23 6 ∧ I126 23 6 ≤ 1001 from gc_in hI126 R_23 rfl rfl)
        have f135 := (show 0 ≤ I126 23 7 ∧ I126 23 7 ≤ 125 from gc_in hI126 R_23 rfl rfl)
        have f136 := (show 0 ≤ I126 23 8 ∧ I126 23 8 ≤ 999999 from gc_in hI126 R_23 rfl rfl)
        have KLT_I126 : gc_LT I126 := q124.2.2
        have KCT_I126 := gc_CT_fr KCT_I ((g124 a1 8).resolve_left (fun h => h.elim (fun h => absurd h.2 (by decide)) (fun h => h.elim (fun h => absurd h.2 (by decide)) (fun h => h.elim (fun h => absurd h.2 (by decide)) (fun h => absurd h.1 N_a1__23))))) (fun k => (g124 (a1 + 6) k).resolve_left (fun h => h.elim (fun h => absurd h.1 N_a1_6__23) (fun h => h.elim (fun h => absurd h.1 N_a1_6__23) (fun h => h.elim (fun h => absurd h.1 N_a1_6__23) (fun h => absurd h.1 N_a1_6__23)))))
        have KTK_I126 : gc_TK I126 := And.intro V124_0 (And.intro V124_1 (And.intro V124_2 (And.intro V124_3 V124_4)))
        have t137 := gc_TK_mo KTK_I126
        clear V124_0 V124_1 V124_2 V124_3 V124_4
        refine gv_callV hD rfl (As := []) (st := []) rfl B_23 S_23 rfl (gc_lV6 hws rfl) (Nat.le_of_ble_eq_true rfl) (gz_Ev_mono (d := 2) (by decide) E124) ?_
        show gv_X _ _ (59, [(2, .inl ((I 23 8) - 1)), (0, .inr (.inr (some 39))), (1, .inr (.inr (some a1)))], [], sh, gc_h sh I126 J127 A)
        refine gv_run 2 true hD (pc' := 61) (lv' := [(2, .inl ((I 23 8) - 1)), (0, .inr (.inr (some 39))), (1, .inr (.inr (some a1)))]) (st' := [.inl 0, .inr (.inr (some 39))]) (h' := gc_h sh I126 J127 A) (C := ((True ∧ True) ∧ True)) rfl ⟨⟨trivial, trivial⟩, trivial⟩ ?_
        refine gv_put hD rfl rfl S_39 ⟨by decide, B_39⟩ rfl trivial ?_
        refine gc_st (k := 6) hI126 S_39 rfl R_39 (lo := 0) (hi := 16777215) rfl rfl (by omega) (by omega) (fun I138 hI138 q139 p139 => ?_)
        have FI138 := gc_frs (W := fun q j => (q = 39 ∧ j = 3) ∨ (q = 39 ∧ j = 4) ∨ (q = 23 ∧ j = 5) ∨ (q = 23 ∧ j = 6) ∨ (q = 23 ∧ j = 7) ∨ (q = 23 ∧ j = 8) ∨ (q = 39 ∧ j = 6) ∨ q = (a1 + 1) ∨ q = (a1 + 6) ∨ q = (a1 + 4) ∨ q = (a1 + 5) ∨ (q = a1 ∧ j = 8)) FI126 (Or.inr (Or.inr (Or.inr (Or.inr (Or.inr (Or.inr (Or.inl ⟨rfl, rfl⟩))))))) p139
        have t140 := p139 23 1 (fun h => absurd h.2 (by decide))
        have t141 := p139 23 5 (fun h => absurd h.2 (by decide))
        have t142 := p139 23 6 (fun h => absurd h.1 (by decide))
        have t143 := p139 23 7 (fun h => absurd h.2 (by decide))
        have t144 := p139 a1 4 (fun h => absurd h.2 (by decide))
        have t145 := p139 a1 8 (fun h => absurd h.2 (by decide))
        have t146 := p139 23 8 (fun h => absurd h.2 (by decide))
        have t147 := p139 39 2 (fun h => absurd h.2 (by decide))
        have t148 := p139 (a1 + 6) (Int.toNat (((I 23 8) - 1))) (fun h => absurd h.1 N_a1_6__39)
        have KLT_I138 := gc_LT_fr KLT_I126 (p139 23 5 (fun h => absurd h.2 (by decide))) (p139 23 6 (fun h => absurd h.1 (by decide))) (p139 23 7 (fun h => absurd h.2 (by decide))) (fun k => p139 24 k (fun h => absurd h.1 (by decide)))
        have KTK_I138 := gc_TK_fr KTK_I126 (p139 23 1 (fun h => absurd h.2 (by decide))) (p139 23 5 (fun h => absurd h.2 (by decide))) (p139 23 6 (fun h => absurd h.1 (by decide))) (p139 23 7 (fun h => absurd h.2 (by decide)))
        have KCT_I138 := gc_CT_fr KCT_I126 (p139 a1 8 (fun h => absurd h.2 (by decide))) (fun k => p139 (a1 + 6) k (fun h => absurd h.1 N_a1_6__39))
        show gv_X _ _ (64, [(2, .inl ((I 23 8) - 1)), (0, .inr (.inr (some 39))), (1, .inr (.inr (some a1)))], [], sh, gc_h sh I138 J127 A)
        refine gv_run 1 true hD (pc' := 65) (lv' := [(2, .inl ((I 23 8) - 1)), (0, .inr (.inr (some 39))), (1, .inr (.inr (some a1)))]) (st' := [.inr (.inr (some 39))]) (h' := gc_h sh I138 J127 A) (C := (True ∧ True)) rfl ⟨trivial, trivial⟩ ?_
        refine gv_get hD rfl rfl S_39 ⟨by decide, B_39⟩ (gc_hA S_39 rfl A_39_1) ?_
        show gv_X _ _ (68, [(2, .inl ((I 23 8) - 1)), (0, .inr (.inr (some 39))), (1, .inr (.inr (some a1)))], [.inr (.inr (some 23))], sh, gc_h sh I138 J127 A)
        have f149 := (show 0 ≤ I138 23 7 ∧ I138 23 7 ≤ 125 from gc_in hI138 R_23 rfl rfl)
        refine gv_get hD rfl rfl S_23 ⟨by decide, B_23⟩ (gc_hI S_23 rfl) ?_
        show gv_X _ _ (71, [(2, .inl ((I 23 8) - 1)), (0, .inr (.inr (some 39))), (1, .inr (.inr (some a1)))], [.inl (I138 23 7)], sh, gc_h sh I138 J127 A)
        refine gv_run 1 true hD (pc' := 73) (lv' := [(2, .inl ((I 23 8) - 1)), (0, .inr (.inr (some 39))), (1, .inr (.inr (some a1)))]) (st' := [.inl 91, .inl (I138 23 7)]) (h' := gc_h sh I138 J127 A) (C := (True ∧ True)) rfl ⟨trivial, trivial⟩ ?_
        refine gv_icmp_ne (t := 110) hD rfl rfl ⟨⟨by omega, by omega⟩, ⟨by omega, by omega⟩⟩ (fun c150 => ?_) (fun c150 => ?_)
        · show gv_X _ _ (110, [(2, .inl ((I 23 8) - 1)), (0, .inr (.inr (some 39))), (1, .inr (.inr (some a1)))], [], sh, gc_h sh I138 J127 A)
          refine gv_pick [1, 2, 0] rfl ?_
          exact L110 I138 J127 (((I 23 8) - 1)) hI138 FI138 FJ127 KLT_I138 KTK_I138 KCT_I138 (by omega) (by rw [show I138 a1 4 = I a1 4 from by omega]; exact (gc_LI_fr x2 (((p139 a1 1 (fun h => absurd h.1 (by omega))).trans ((g124 a1 1).resolve_left (by omega)))) (((p139 a1 8 (fun h => absurd h.1 (by omega))).trans ((g124 a1 8).resolve_left (by omega)))) (fun k => ((p139 (a1 + 1) k (fun h => absurd h.1 (by omega))).trans ((g124 (a1 + 1) k).resolve_left (by omega)))) (fun k => ((p139 (a1 + 4) k (fun h => absurd h.1 (by omega))).trans ((g124 (a1 + 4) k).resolve_left (by omega)))) (fun k => ((p139 (a1 + 6) k (fun h => absurd h.1 (by omega))).trans ((g124 (a1 + 6) k).resolve_left (by omega)))) (fun k => ((p139 12 k (fun h => absurd h.1 (by omega))).trans ((g124 12 k).resolve_left (by omega))))))
        · show gv_X _ _ (76, [(2, .inl ((I 23 8) - 1)), (0, .inr (.inr (some 39))), (1, .inr (.inr (some a1)))], [], sh, gc_h sh I138 J127 A)
          refine gv_run 1 true hD (pc' := 77) (lv' := [(2, .inl ((I 23 8) - 1)), (0, .inr (.inr (some 39))), (1, .inr (.inr (some a1)))]) (st' := [.inr (.inr (some 39))]) (h' := gc_h sh I138 J127 A) (C := (True ∧ True)) rfl ⟨trivial, trivial⟩ ?_
          refine gv_get hD rfl rfl S_39 ⟨by decide, B_39⟩ (gc_hA S_39 rfl A_39_1) ?_
          show gv_X _ _ (80, [(2, .inl ((I 23 8) - 1)), (0, .inr (.inr (some 39))), (1, .inr (.inr (some a1)))], [.inr (.inr (some 23))], sh, gc_h sh I138 J127 A)
          have t152 := gc_TK_nx KTK_I138 (by omega)
          obtain ⟨r151, h151, E151, P151⟩ := d_X9_advance (ws0 := ws0) (tb := tb) hws htb sh ro I138 J127 A hI138 23  (gc_b23 hb)    (by omega) 
          obtain ⟨I153, J154, rfl, hI153, g151, k151, ⟨rfl, V151_0, V151_1, V151_2, V151_3, V151_4, q151⟩⟩ := P151
          have FI153 := gc_frc (W := fun q j => (q = 39 ∧ j = 3) ∨ (q = 39 ∧ j = 4) ∨ (q = 23 ∧ j = 5) ∨ (q = 23 ∧ j = 6) ∨ (q = 23 ∧ j = 7) ∨ (q = 23 ∧ j = 8) ∨ (q = 39 ∧ j = 6) ∨ q = (a1 + 1) ∨ q = (a1 + 6) ∨ q = (a1 + 4) ∨ q = (a1 + 5) ∨ (q = a1 ∧ j = 8)) (V := fun q j => (q = 23 ∧ j = 5) ∨ (q = 23 ∧ j = 6) ∨ (q = 23 ∧ j = 7) ∨ (q = 23 ∧ j = 8)) FI138 (fun q j h => (h.elim (fun h => (Or.inr (Or.inr (Or.inl h)))) (fun h => (h.elim (fun h => (Or.inr (Or.inr (Or.inr (Or.inl h))))) (fun h => (h.elim (fun h => (Or.inr (Or.inr (Or.inr (Or.inr (Or.inl h)))))) (fun h => (Or.inr (Or.inr (Or.inr (Or.inr (Or.inr (Or.inl h))))))))))))) g151
          have FJ154 := gc_frc (W := fun q j => (q = 23 ∧ j = 9)) (V := fun q j => (q = 23 ∧ j = 9)) FJ127 (fun q j h => h) k151
          have t155 := (g151 23 1).resolve_left (fun h => h.elim (fun h => absurd h.2 (by decide)) (fun h => h.elim (fun h => absurd h.2 (by decide)) (fun h => h.elim (fun h => absurd h.2 (by decide)) (fun h => absurd h.2 (by decide)))))
          have t156 := (g151 a1 4).resolve_left (fun h => h.elim (fun h => absurd h.2 (by decide)) (fun h => h.elim (fun h => absurd h.2 (by decide)) (fun h => h.elim (fun h => absurd h.2 (by decide)) (fun h => absurd h.2 (by decide)))))
          have t157 := (g151 a1 8).resolve_left (fun h => h.elim (fun h => absurd h.2 (by decide)) (fun h => h.elim (fun h => absurd h.2 (by decide)) (fun h => h.elim (fun h => absurd h.2 (by decide)) (fun h => absurd h.1 N_a1__23))))
          have t158 := (g151 39 2).resolve_left (fun h => h.elim (fun h => absurd h.2 (by decide)) (fun h => h.elim (fun h => absurd h.2 (by decide)) (fun h => h.elim (fun h => absurd h.2 (by decide)) (fun h => absurd h.2 (by decide)))))
          have t159 := (g151 (a1 + 6) (Int.toNat (((I 23 8) - 1)))).resolve_left (fun h => h.elim (fun h => absurd h.1 N_a1_6__23) (fun h => h.elim (fun h => absurd h.1 N_a1_6__23) (fun h => h.elim (fun h => absurd h.1 N_a1_6__23) (fun h => absurd h.1 N_a1_6__23))))
          have f160 := (show 0 ≤ I153 23 5 ∧ I153 23 5 ≤ 1000 from gc_in hI153 R_23 rfl rfl)
          have f161 := (show 0 ≤ I153 23 6 ∧ I153 23 6 ≤ 1001 from gc_in hI153 R_23 rfl rfl)
          have f162 := (show 0 ≤ I153 23 7 ∧ I153 23 7 ≤ 125 from gc_in hI153 R_23 rfl rfl)
          have f163 := (show 0 ≤ I153 23 8 ∧ I153 23 8 ≤ 999999 from gc_in hI153 R_23 rfl rfl)
          have KLT_I153 : gc_LT I153 := q151.2.2
          have KCT_I153 := gc_CT_fr KCT_I138 ((g151 a1 8).resolve_left (fun h => h.elim (fun h => absurd h.2 (by decide)) (fun h => h.elim (fun h => absurd h.2 (by decide)) (fun h => h.elim (fun h => absurd h.2 (by decide)) (fun h => absurd h.1 N_a1__23))))) (fun k => (g151 (a1 + 6) k).resolve_left (fun h => h.elim (fun h => absurd h.1 N_a1_6__23) (fun h => h.elim (fun h => absurd h.1 N_a1_6__23) (fun h => h.elim (fun h => absurd h.1 N_a1_6__23) (fun h => absurd h.1 N_a1_6__23)))))
          have KTK_I153 : gc_TK I153 := And.intro V151_0 (And.intro V151_1 (And.intro V151_2 (And.intro V151_3 V151_4)))
          have t164 := gc_TK_mo KTK_I153
          clear V151_0 V151_1 V151_2 V151_3 V151_4
          refine gv_callV hD rfl (As := []) (st := []) rfl B_23 S_23 rfl (gc_lV6 hws rfl) (Nat.le_of_ble_eq_true rfl) (gz_Ev_mono (d := 2) (by decide) E151) ?_
          show gv_X _ _ (83, [(2, .inl ((I 23 8) - 1)), (0, .inr (.inr (some 39))), (1, .inr (.inr (some a1)))], [], sh, gc_h sh I153 J154 A)
          refine gv_run 2 true hD (pc' := 85) (lv' := [(2, .inl ((I 23 8) - 1)), (0, .inr (.inr (some 39))), (1, .inr (.inr (some a1)))]) (st' := [.inl 1, .inr (.inr (some 39))]) (h' := gc_h sh I153 J154 A) (C := ((True ∧ True) ∧ True)) rfl ⟨⟨trivial, trivial⟩, trivial⟩ ?_
          obtain ⟨r165, h165, E165, P165⟩ := d_X6_need (ws0 := ws0) (tb := tb) hws htb sh ro I153 J154 A hI153  1 hb   ⟨by omega, by omega⟩  
          obtain ⟨I166, J167, rfl, hI166, g165, k165, ⟨z165, rfl, q165⟩⟩ := P165
          have FI166 := gc_frc (W := fun q j => (q = 39 ∧ j = 3) ∨ (q = 39 ∧ j = 4) ∨ (q = 23 ∧ j = 5) ∨ (q = 23 ∧ j = 6) ∨ (q = 23 ∧ j = 7) ∨ (q = 23 ∧ j = 8) ∨ (q = 39 ∧ j = 6) ∨ q = (a1 + 1) ∨ q = (a1 + 6) ∨ q = (a1 + 4) ∨ q = (a1 + 5) ∨ (q = a1 ∧ j = 8)) (V := fun q j => (q = 39 ∧ j = 3) ∨ (q = 39 ∧ j = 4)) FI153 (fun q j h => (h.elim (fun h => (Or.inl h)) (fun h => (Or.inr (Or.inl h))))) g165
          have t168 := (g165 23 1).resolve_left (fun h => h.elim (fun h => absurd h.2 (by decide)) (fun h => absurd h.2 (by decide)))
          have t169 := (g165 23 5).resolve_left (fun h => h.elim (fun h => absurd h.2 (by decide)) (fun h => absurd h.2 (by decide)))
          have t170 := (g165 23 6).resolve_left (fun h => h.elim (fun h => absurd h.2 (by decide)) (fun h => absurd h.2 (by decide)))
          have t171 := (g165 23 7).resolve_left (fun h => h.elim (fun h => absurd h.2 (by decide)) (fun h => absurd h.2 (by decide)))
          have t172 := (g165 a1 4).resolve_left (fun h => h.elim (fun h => absurd h.2 (by decide)) (fun h => absurd h.1 N_a1__39))
          have t173 := (g165 a1 8).resolve_left (fun h => h.elim (fun h => absurd h.2 (by decide)) (fun h => absurd h.2 (by decide)))
          have t174 := (g165 23 8).resolve_left (fun h => h.elim (fun h => absurd h.2 (by decide)) (fun h => absurd h.2 (by decide)))
          have t175 := (g165 39 2).resolve_left (fun h => h.elim (fun h => absurd h.2 (by decide)) (fun h => absurd h.2 (by decide)))
          have t176 := (g165 (a1 + 6) (Int.toNat (((I 23 8) - 1)))).resolve_left (fun h => h.elim (fun h => absurd h.1 N_a1_6__39) (fun h => absurd h.1 N_a1_6__39))
          obtain rfl : J154 = J167 := funext fun q => funext fun j => ((k165 q j).resolve_left id).symm
          have KLT_I166 := gc_LT_fr KLT_I153 ((g165 23 5).resolve_left (fun h => h.elim (fun h => absurd h.2 (by decide)) (fun h => absurd h.2 (by decide)))) ((g165 23 6).resolve_left (fun h => h.elim (fun h => absurd h.2 (by decide)) (fun h => absurd h.2 (by decide)))) ((g165 23 7).resolve_left (fun h => h.elim (fun h => absurd h.2 (by decide)) (fun h => absurd h.2 (by decide)))) (fun k => (g165 24 k).resolve_left (fun h => h.elim (fun h => absurd h.1 (by decide)) (fun h => absurd h.1 (by decide))))
          have KTK_I166 := gc_TK_fr KTK_I153 ((g165 23 1).resolve_left (fun h => h.elim (fun h => absurd h.2 (by decide)) (fun h => absurd h.2 (by decide)))) ((g165 23 5).resolve_left (fun h => h.elim (fun h => absurd h.2 (by decide)) (fun h => absurd h.2 (by decide)))) ((g165 23 6).resolve_left (fun h => h.elim (fun h => absurd h.2 (by decide)) (fun h => absurd h.2 (by decide)))) ((g165 23 7).resolve_left (fun h => h.elim (fun h => absurd h.2 (by decide)) (fun h => absurd h.2 (by decide))))
          have KCT_I166 := gc_CT_fr KCT_I153 ((g165 a1 8).resolve_left (fun h => h.elim (fun h => absurd h.2 (by decide)) (fun h => absurd h.2 (by decide)))) (fun k => (g165 (a1 + 6) k).resolve_left (fun h => h.elim (fun h => absurd h.1 N_a1_6__39) (fun h => absurd h.1 N_a1_6__39)))
          refine gv_callV hD rfl (As := [.inl 1]) (st := []) rfl B_39 S_39 rfl (gc_lV6 hws rfl) (Nat.le_of_ble_eq_true rfl) (gz_Ev_mono (d := 2) (by decide) E165) ?_
          show gv_X _ _ (88, [(2, .inl ((I 23 8) - 1)), (0, .inr (.inr (some 39))), (1, .inr (.inr (some a1)))], [.inl z165], sh, gc_h sh I166 J154 A)
          refine gv_if_eq (t := 108) hD rfl rfl ⟨by omega, by omega⟩ (fun c177 => ?_) (fun c177 => ?_)
          · show gv_X _ _ (108, [(2, .inl ((I 23 8) - 1)), (0, .inr (.inr (some 39))), (1, .inr (.inr (some a1)))], [], sh, gc_h sh I166 J154 A)
            refine gv_pick [] rfl ?_
            exact L108 I166 J154 hI166 FI166 FJ154 KLT_I166 KTK_I166 KCT_I166 (by omega)
          · show gv_X _ _ (91, [(2, .inl ((I 23 8) - 1)), (0, .inr (.inr (some 39))), (1, .inr (.inr (some a1)))], [], sh, gc_h sh I166 J154 A)
            refine gv_run 2 true hD (pc' := 93) (lv' := [(2, .inl ((I 23 8) - 1)), (0, .inr (.inr (some 39))), (1, .inr (.inr (some a1)))]) (st' := [.inl 0, .inr (.inr (some 39))]) (h' := gc_h sh I166 J154 A) (C := ((True ∧ True) ∧ True)) rfl ⟨⟨trivial, trivial⟩, trivial⟩ ?_
            obtain ⟨r178, h178, E178, P178⟩ := d_X6_readValues (ws0 := ws0) (tb := tb) hws htb sh ro I166 J154 A hI166  t 0 hb  h_t G_t  ⟨by omega, by omega⟩ (by omega) KLT_I166 KTK_I166
            obtain ⟨I179, J180, rfl, hI179, g178, k178, KLT_I179, KTK_I179, ⟨z178, rfl, q178⟩⟩ := P178
            have FI179 := gc_frc (W := fun q j => (q = 39 ∧ j = 3) ∨ (q = 39 ∧ j = 4) ∨ (q = 23 ∧ j = 5) ∨ (q = 23 ∧ j = 6) ∨ (q = 23 ∧ j = 7) ∨ (q = 23 ∧ j = 8) ∨ (q = 39 ∧ j = 6) ∨ q = (a1 + 1) ∨ q = (a1 + 6) ∨ q = (a1 + 4) ∨ q = (a1 + 5) ∨ (q = a1 ∧ j = 8)) (V := fun q j => (q = 39 ∧ j = 3) ∨ (q = 39 ∧ j = 4) ∨ (q = 23 ∧ j = 5) ∨ (q = 23 ∧ j = 6) ∨ (q = 23 ∧ j = 7) ∨ (q = 23 ∧ j = 8) ∨ (q = 39 ∧ j = 6)) FI166 (fun q j h => (h.elim (fun h => (Or.inl h)) (fun h => (h.elim (fun h => (Or.inr (Or.inl h))) (fun h => (h.elim (fun h => (Or.inr (Or.inr (Or.inl h)))) (fun h => (h.elim (fun h => (Or.inr (Or.inr (Or.inr (Or.inl h))))) (fun h => (h.elim (fun h => (Or.inr (Or.inr (Or.inr (Or.inr (Or.inl h)))))) (fun h => (h.elim (fun h => (Or.inr (Or.inr (Or.inr (Or.inr (Or.inr (Or.inl h))))))) (fun h => (Or.inr (Or.inr (Or.inr (Or.inr (Or.inr (Or.inr (Or.inl h)))))))))))))))))))) g178
            have FJ180 := gc_frc (W := fun q j => (q = 23 ∧ j = 9)) (V := fun q j => (q = 23 ∧ j = 9)) FJ154 (fun q j h => h) k178
            have t181 := (g178 23 1).resolve_left (fun h => h.elim (fun h => absurd h.2 (by decide)) (fun h => h.elim (fun h => absurd h.2 (by decide)) (fun h => h.elim (fun h => absurd h.2 (by decide)) (fun h => h.elim (fun h => absurd h.2 (by decide)) (fun h => h.elim (fun h => absurd h.2 (by decide)) (fun h => h.elim (fun h => absurd h.2 (by decide)) (fun h => absurd h.2 (by decide))))))))
            have t182 := (g178 a1 4).resolve_left (fun h => h.elim (fun h => absurd h.2 (by decide)) (fun h => h.elim (fun h => absurd h.1 N_a1__39) (fun h => h.elim (fun h => absurd h.2 (by decide)) (fun h => h.elim (fun h => absurd h.2 (by decide)) (fun h => h.elim (fun h => absurd h.2 (by decide)) (fun h => h.elim (fun h => absurd h.2 (by decide)) (fun h => absurd h.2 (by decide))))))))
            have t183 := (g178 a1 8).resolve_left (fun h => h.elim (fun h => absurd h.2 (by decide)) (fun h => h.elim (fun h => absurd h.2 (by decide)) (fun h => h.elim (fun h => absurd h.2 (by decide)) (fun h => h.elim (fun h => absurd h.2 (by decide)) (fun h => h.elim (fun h => absurd h.2 (by decide)) (fun h => h.elim (fun h => absurd h.1 N_a1__23) (fun h => absurd h.2 (by decide))))))))
            have t184 := (g178 39 2).resolve_left (fun h => h.elim (fun h => absurd h.2 (by decide)) (fun h => h.elim (fun h => absurd h.2 (by decide)) (fun h => h.elim (fun h => absurd h.2 (by decide)) (fun h => h.elim (fun h => absurd h.2 (by decide)) (fun h => h.elim (fun h => absurd h.2 (by decide)) (fun h => h.elim (fun h => absurd h.2 (by decide)) (fun h => absurd h.2 (by decide))))))))
            have t185 := (g178 (a1 + 6) (Int.toNat (((I 23 8) - 1)))).resolve_left (fun h => h.elim (fun h => absurd h.1 N_a1_6__39) (fun h => h.elim (fun h => absurd h.1 N_a1_6__39) (fun h => h.elim (fun h => absurd h.1 N_a1_6__23) (fun h => h.elim (fun h => absurd h.1 N_a1_6__23) (fun h => h.elim (fun h => absurd h.1 N_a1_6__23) (fun h => h.elim (fun h => absurd h.1 N_a1_6__23) (fun h => absurd h.1 N_a1_6__39)))))))
            have f186 := (show 0 ≤ I179 23 5 ∧ I179 23 5 ≤ 1000 from gc_in hI179 R_23 rfl rfl)
            have f187 := (show 0 ≤ I179 23 6 ∧ I179 23 6 ≤ 1001 from gc_in hI179 R_23 rfl rfl)
            have f188 := (show 0 ≤ I179 23 7 ∧ I179 23 7 ≤ 125 from gc_in hI179 R_23 rfl rfl)
            have f189 := (show 0 ≤ I179 23 8 ∧ I179 23 8 ≤ 999999 from gc_in hI179 R_23 rfl rfl)
            have t190 := gc_TK_mo KTK_I179
            have KCT_I179 := gc_CT_fr KCT_I166 ((g178 a1 8).resolve_left (fun h => h.elim (fun h => absurd h.2 (by decide)) (fun h => h.elim (fun h => absurd h.2 (by decide)) (fun h => h.elim (fun h => absurd h.2 (by decide)) (fun h => h.elim (fun h => absurd h.2 (by decide)) (fun h => h.elim (fun h => absurd h.2 (by decide)) (fun h => h.elim (fun h => absurd h.1 N_a1__23) (fun h => absurd h.2 (by decide))))))))) (fun k => (g178 (a1 + 6) k).resolve_left (fun h => h.elim (fun h => absurd h.1 N_a1_6__39) (fun h => h.elim (fun h => absurd h.1 N_a1_6__39) (fun h => h.elim (fun h => absurd h.1 N_a1_6__23) (fun h => h.elim (fun h => absurd h.1 N_a1_6__23) (fun h => h.elim (fun h => absurd h.1 N_a1_6__23) (fun h => h.elim (fun h => absurd h.1 N_a1_6__23) (fun h => absurd h.1 N_a1_6__39))))))))
            refine gv_callV hD rfl (As := [.inl 0]) (st := []) rfl B_39 S_39 rfl (gc_lV6 hws rfl) (Nat.le_of_ble_eq_true rfl) (gz_Ev_mono (d := 3) (by decide) E178) ?_
            show gv_X _ _ (96, [(2, .inl ((I 23 8) - 1)), (0, .inr (.inr (some 39))), (1, .inr (.inr (some a1)))], [.inl z178], sh, gc_h sh I179 J180 A)
            refine gv_if_eq (t := 108) hD rfl rfl ⟨by omega, by omega⟩ (fun c191 => ?_) (fun c191 => ?_)
            · show gv_X _ _ (108, [(2, .inl ((I 23 8) - 1)), (0, .inr (.inr (some 39))), (1, .inr (.inr (some a1)))], [], sh, gc_h sh I179 J180 A)
              refine gv_pick [] rfl ?_
              exact L108 I179 J180 hI179 FI179 FJ180 KLT_I179 KTK_I179 KCT_I179 (by omega)
            · show gv_X _ _ (99, [(2, .inl ((I 23 8) - 1)), (0, .inr (.inr (some 39))), (1, .inr (.inr (some a1)))], [], sh, gc_h sh I179 J180 A)
              refine gv_run 2 true hD (pc' := 102) (lv' := [(2, .inl ((I 23 8) - 1)), (0, .inr (.inr (some 39))), (1, .inr (.inr (some a1)))]) (st' := [.inl 93, .inr (.inr (some 39))]) (h' := gc_h sh I179 J180 A) (C := ((True ∧ True) ∧ True)) rfl ⟨⟨trivial, trivial⟩, trivial⟩ ?_
              obtain ⟨r192, h192, E192, P192⟩ := d_X6_take (ws0 := ws0) (tb := tb) hws htb sh ro I179 J180 A hI179  93 hb   ⟨by omega, by omega⟩ (by omega) KLT_I179 KTK_I179
              obtain ⟨I193, J194, rfl, hI193, g192, k192, KLT_I193, KTK_I193, ⟨z192, rfl, q192⟩⟩ := P192
              have FI193 := gc_frc (W := fun q j => (q = 39 ∧ j = 3) ∨ (q = 39 ∧ j = 4) ∨ (q = 23 ∧ j = 5) ∨ (q = 23 ∧ j = 6) ∨ (q = 23 ∧ j = 7) ∨ (q = 23 ∧ j = 8) ∨ (q = 39 ∧ j = 6) ∨ q = (a1 + 1) ∨ q = (a1 + 6) ∨ q = (a1 + 4) ∨ q = (a1 + 5) ∨ (q = a1 ∧ j = 8)) (V := fun q j => (q = 39 ∧ j = 3) ∨ (q = 39 ∧ j = 4) ∨ (q = 23 ∧ j = 5) ∨ (q = 23 ∧ j = 6) ∨ (q = 23 ∧ j = 7) ∨ (q = 23 ∧ j = 8)) FI179 (fun q j h => (h.elim (fun h => (Or.inl h)) (fun h => (h.elim (fun h => (Or.inr (Or.inl h))) (fun h => (h.elim (fun h => (Or.inr (Or.inr (Or.inl h)))) (fun h => (h.elim (fun h => (Or.inr (Or.inr (Or.inr (Or.inl h))))) (fun h => (h.elim (fun h => (Or.inr (Or.inr (Or.inr (Or.inr (Or.inl h)))))) (fun h => (Or.inr (Or.inr (Or.inr (Or.inr (Or.inr (Or.inl h))))))))))))))))) g192
              have FJ194 := gc_frc (W := fun q j => (q = 23 ∧ j = 9)) (V := fun q j => (q = 23 ∧ j = 9)) FJ180 (fun q j h => h) k192
              have t195 := (g192 23 1).resolve_left (fun h => h.elim (fun h => absurd h.2 (by decide)) (fun h => h.elim (fun h => absurd h.2 (by decide)) (fun h => h.elim (fun h => absurd h.2 (by decide)) (fun h => h.elim (fun h => absurd h.2 (by decide)) (fun h => h.elim (fun h => absurd h.2 (by decide)) (fun h => absurd h.2 (by decide)))))))
              have t196 := (g192 a1 4).resolve_left (fun h => h.elim (fun h => absurd h.2 (by decide)) (fun h => h.elim (fun h => absurd h.1 N_a1__39) (fun h => h.elim (fun h => absurd h.2 (by decide)) (fun h => h.elim (fun h => absurd h.2 (by decide)) (fun h => h.elim (fun h => absurd h.2 (by decide)) (fun h => absurd h.2 (by decide)))))))
              have t197 := (g192 a1 8).resolve_left (fun h => h.elim (fun h => absurd h.2 (by decide)) (fun h => h.elim (fun h => absurd h.2 (by decide)) (fun h => h.elim (fun h => absurd h.2 (by decide)) (fun h => h.elim (fun h => absurd h.2 (by decide)) (fun h => h.elim (fun h => absurd h.2 (by decide)) (fun h => absurd h.1 N_a1__23))))))
              have t198 := (g192 39 2).resolve_left (fun h => h.elim (fun h => absurd h.2 (by decide)) (fun h => h.elim (fun h => absurd h.2 (by decide)) (fun h => h.elim (fun h => absurd h.2 (by decide)) (fun h => h.elim (fun h => absurd h.2 (by decide)) (fun h => h.elim (fun h => absurd h.2 (by decide)) (fun h => absurd h.2 (by decide)))))))
              have t199 := (g192 (a1 + 6) (Int.toNat (((I 23 8) - 1)))).resolve_left (fun h => h.elim (fun h => absurd h.1 N_a1_6__39) (fun h => h.elim (fun h => absurd h.1 N_a1_6__39) (fun h => h.elim (fun h => absurd h.1 N_a1_6__23) (fun h => h.elim (fun h => absurd h.1 N_a1_6__23) (fun h => h.elim (fun h => absurd h.1 N_a1_6__23) (fun h => absurd h.1 N_a1_6__23))))))
              have f200 := (show 0 ≤ I193 23 5 ∧ I193 23 5 ≤ 1000 from gc_in hI193 R_23 rfl rfl)
              have f201 := (show 0 ≤ I193 23 6 ∧ I193 23 6 ≤ 1001 from gc_in hI193 R_23 rfl rfl)
              have f202 := (show 0 ≤ I193 23 7 ∧ I193 23 7 ≤ 125 from gc_in hI193 R_23 rfl rfl)
              have f203 := (show 0 ≤ I193 23 8 ∧ I193 23 8 ≤ 999999 from gc_in hI193 R_23 rfl rfl)
              have t204 := gc_TK_mo KTK_I193
              have KCT_I193 := gc_CT_fr KCT_I179 ((g192 a1 8).resolve_left (fun h => h.elim (fun h => absurd h.2 (by decide)) (fun h => h.elim (fun h => absurd h.2 (by decide)) (fun h => h.elim (fun h => absurd h.2 (by decide)) (fun h => h.elim (fun h => absurd h.2 (by decide)) (fun h => h.elim (fun h => absurd h.2 (by decide)) (fun h => absurd h.1 N_a1__23))))))) (fun k => (g192 (a1 + 6) k).resolve_left (fun h => h.elim (fun h => absurd h.1 N_a1_6__39) (fun h => h.elim (fun h => absurd h.1 N_a1_6__39) (fun h => h.elim (fun h => absurd h.1 N_a1_6__23) (fun h => h.elim (fun h => absurd h.1 N_a1_6__23) (fun h => h.elim (fun h => absurd h.1 N_a1_6__23) (fun h => absurd h.1 N_a1_6__23)))))))
              refine gv_callV hD rfl (As := [.inl 93]) (st := []) rfl B_39 S_39 rfl (gc_lV6 hws rfl) (Nat.le_of_ble_eq_true rfl) (gz_Ev_mono (d := 3) (by decide) E192) ?_
              show gv_X _ _ (105, [(2, .inl ((I 23 8) - 1)), (0, .inr (.inr (some 39))), (1, .inr (.inr (some a1)))], [.inl z192], sh, gc_h sh I193 J194 A)
              refine gv_if_ne (t := 110) hD rfl rfl ⟨by omega, by omega⟩ (fun c205 => ?_) (fun c205 => ?_)
              · show gv_X _ _ (110, [(2, .inl ((I 23 8) - 1)), (0, .inr (.inr (some 39))), (1, .inr (.inr (some a1)))], [], sh, gc_h sh I193 J194 A)
                refine gv_pick [1, 2, 0] rfl ?_
                exact L110 I193 J194 (((I 23 8) - 1)) hI193 FI193 FJ194 KLT_I193 KTK_I193 KCT_I193 (by omega) (by rw [show I193 a1 4 = I a1 4 from by omega]; exact (gc_LI_fr x2 ((((((((g192 a1 1).resolve_left (by omega)).trans ((g178 a1 1).resolve_left (by omega))).trans ((g165 a1 1).resolve_left (by omega))).trans ((g151 a1 1).resolve_left (by omega))).trans (p139 a1 1 (fun h => absurd h.1 (by omega)))).trans ((g124 a1 1).resolve_left (by omega)))) ((((((((g192 a1 8).resolve_left (by omega)).trans ((g178 a1 8).resolve_left (by omega))).trans ((g165 a1 8).resolve_left (by omega))).trans ((g151 a1 8).resolve_left (by omega))).trans (p139 a1 8 (fun h => absurd h.1 (by omega)))).trans ((g124 a1 8).resolve_left (by omega)))) (fun k => (((((((g192 (a1 + 1) k).resolve_left (by omega)).trans ((g178 (a1 + 1) k).resolve_left (by omega))).trans ((g165 (a1 + 1) k).resolve_left (by omega))).trans ((g151 (a1 + 1) k).resolve_left (by omega))).trans (p139 (a1 + 1) k (fun h => absurd h.1 (by omega)))).trans ((g124 (a1 + 1) k).resolve_left (by omega)))) (fun k => (((((((g192 (a1 + 4) k).resolve_left (by omega)).trans ((g178 (a1 + 4) k).resolve_left (by omega))).trans ((g165 (a1 + 4) k).resolve_left (by omega))).trans ((g151 (a1 + 4) k).resolve_left (by omega))).trans (p139 (a1 + 4) k (fun h => absurd h.1 (by omega)))).trans ((g124 (a1 + 4) k).resolve_left (by omega)))) (fun k => (((((((g192 (a1 + 6) k).resolve_left (by omega)).trans ((g178 (a1 + 6) k).resolve_left (by omega))).trans ((g165 (a1 + 6) k).resolve_left (by omega))).trans ((g151 (a1 + 6) k).resolve_left (by omega))).trans (p139 (a1 + 6) k (fun h => absurd h.1 (by omega)))).trans ((g124 (a1 + 6) k).resolve_left (by omega)))) (fun k => (((((((g192 12 k).resolve_left (by omega)).trans ((g178 12 k).resolve_left (by omega))).trans ((g165 12 k).resolve_left (by omega))).trans ((g151 12 k).resolve_left (by omega))).trans (p139 12 k (fun h => absurd h.1 (by omega)))).trans ((g124 12 k).resolve_left (by omega))))))
              · show gv_X _ _ (108, [(2, .inl ((I 23 8) - 1)), (0, .inr (.inr (some 39))), (1, .inr (.inr (some a1)))], [], sh, gc_h sh I193 J194 A)
                refine gv_pick [] rfl ?_
                exact L108 I193 J194 hI193 FI193 FJ194 KLT_I193 KTK_I193 KCT_I193 (by omega)
      · show gv_X _ _ (39, [(2, .inl ((I 23 8) - 1)), (0, .inr (.inr (some 39))), (1, .inr (.inr (some a1)))], [], sh, gc_h sh I J A)
        refine gv_pick [1] rfl ?_
        exact L39 (by omega)
