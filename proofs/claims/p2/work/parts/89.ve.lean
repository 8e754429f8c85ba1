theorem gc_Ls_fr2 {sh : gz_Sh} {ro : Nat → Nat} {A : gc_A} {p : Nat} {I I' : gr_I} (h : gc_Ls sh ro A p I) (e : I' p 13 = I p 13) (hf : ∀ i q : Nat, (i : Int) < I p 13 → A (p + 16) i = some q → 144 ≤ q → ∀ d k, d ≤ 8 → I' (q + d) k = I (q + d) k) : gc_Ls sh ro A p I' := fun i hi => by
  rw [e] at hi
  obtain ⟨q, a, b, c, d, g⟩ := h i hi
  have f := hf i q hi a c
  have f0 : ∀ k, I' q k = I q k := fun k => f 0 k (by decide)
  refine ⟨q, a, b, c, by rw [f0]; exact d, ?_⟩
  unfold gc_lv at g ⊢
  rw [f0, f0, gc_ac_e (g := I (q + 1)) (fun k _ => f 1 k (by decide))]
  exact g
theorem gc_CT_0 {p : Nat} {I : gr_I} (h8 : I p 8 = 0) (h : ∀ j, j < 4 → I (p + 6) j = -1) : gc_CT p I := by
  unfold gc_CT
  rw [h 0 (by decide), h 1 (by decide), h 2 (by decide), h 3 (by decide), h8]
  rfl
theorem gc_LI_1 {q : Nat} {n : Int} {I : gr_I} (h : gc_LI q n I) (hn : n = 1) : (0 ≤ I (q + 1) 0 ∧ I q 8 = 1) ∨ (I (q + 1) 0 < 0 ∧ I q 8 = 0) := by
  have h1 := h.1
  rw [hn] at h1
  have h2 : gc_ac (I (q + 1)) (Int.toNat 1) = 0 + gc_c1 (I (q + 1) 0) := rfl
  rw [h2] at h1
  by_cases e : 0 ≤ I (q + 1) 0
  · have := gc_c1p e; exact Or.inl ⟨e, by omega⟩
  · have := gc_c1n (show I (q + 1) 0 < 0 from by omega); exact Or.inr ⟨by omega, by omega⟩
def gc_UN (q : Nat) (I : gr_I) : Prop := gc_un q (I 11 (Int.toNat (I q 1))) I
theorem gc_UN_fr {q : Nat} {I I' : gr_I} (h : gc_UN q I) (e4 : I' q 4 = I q 4) (e1 : I' q 1 = I q 1) (e0 : I' (q + 1) 0 = I (q + 1) 0) (r11 : ∀ k, I' 11 k = I 11 k) (r13 : ∀ k, I' 13 k = I 13 k) : gc_UN q I' := by
  unfold gc_UN gc_un at h ⊢
  rw [e4, e1, e0, r11, r13]
  exact h
set_option maxHeartbeats 4000000 in
set_option maxRecDepth 100000 in
theorem d_X6_readLin_t {ws0 : List Cond} {tb : String → gz_T} (hws : gc_Ws ws0) (htb : gc_tbs tb) (sh : gz_Sh) (ro : Nat → Nat) (I : gr_I) (J : gr_J) (A : gc_A) (hI : gc_Inv ro I) (t : Nat) (B : Int) (a1 : Int) (a2 : Nat) (hb : gc_Base sh ro A) (h_a2 : gc_isLin sh ro A a2) (G_a2 : 144 ≤ a2) (h_t : gc_isTongue sh ro A t) (G_t : 144 ≤ t) (ha1 : 0 ≤ a1 ∧ a1 ≤ 1000) (x0 : B ≤ 1280 ∧ I 1 17 + I 23 1 ≤ B + I 23 5) (x1 : I 23 7 = 1) (x2 : 0 ≤ gc_fd (J (4 + 1)) (J 23 9) (Int.toNat (I 4 1))) (x3 : I a2 4 = 0) (x4 : I a2 8 = 0) (x5 : I a2 12 = 0) (x6 : I a2 14 = 0) (x7 : gc_Ls sh ro A t I) (x8 : ∀ i q : Nat, (i : Int) < I t 13 → A (t + 16) i = some q → q + 9 ≤ a2) (x9 : I 39 2 = (t : Int)) (KLT_I : gc_LT I) (KTK_I : gc_TK I) {Q : gz_S → Prop} (hQ : ∀ v, gv_Q cX6_readLin (some .boolean) sh (fun r h' => (∃ (I' : gr_I) (J' : gr_J), h' = gc_h sh I' J' A ∧ gc_Inv ro I' ∧ (∀ q j : Nat, ((q = 39 ∧ j = 3) ∨ (q = 39 ∧ j = 4) ∨ (q = 23 ∧ j = 5) ∨ (q = 23 ∧ j = 6) ∨ (q = 23 ∧ j = 7) ∨ (q = 23 ∧ j = 8) ∨ (q = 1 ∧ j = 17) ∨ (q = 1 ∧ j = 18) ∨ q = 20 ∨ (q = a2 ∧ j = 0) ∨ (q = a2 ∧ j = 1) ∨ (q = a2 ∧ j = 2) ∨ (q = a2 ∧ j = 3) ∨ (q = a2 ∧ j = 4) ∨ (q = a2 ∧ j = 8) ∨ (q = a2 ∧ j = 12) ∨ (q = a2 ∧ j = 14) ∨ q = (a2 + 1) ∨ q = (a2 + 2) ∨ q = (a2 + 3) ∨ q = (a2 + 4) ∨ q = (a2 + 5) ∨ q = (a2 + 6) ∨ q = (a2 + 7) ∨ q = (a2 + 8) ∨ (q = 39 ∧ j = 6) ∨ (q = 39 ∧ j = 7) ∨ (q = t ∧ j = 13)) ∨ I' q j = I q j) ∧ (∀ q j : Nat, ((q = 23 ∧ j = 9)) ∨ J' q j = J q j) ∧ gc_LT I' ∧ gc_TK I' ∧ (∃ z : Int, r = some (.inl z) ∧ 0 ≤ z ∧ z ≤ 1 ∧ (I' 23 1 = I 23 1) ∧ (I 23 5 ≤ I' 23 5) ∧ (B ≤ 1280 ∧ I' 1 17 + I' 23 1 ≤ B + I' 23 5) ∧ (z = 0) ∧ (I' t 13 = I t 13)))) v → Q v) (L338 : ∀ (I36 : gr_I) (J37 : gr_J) (s1_38 : Int), gc_Inv ro I36 → (∀ q j : Nat, ((q = 39 ∧ j = 3) ∨ (q = 39 ∧ j = 4) ∨ (q = 23 ∧ j = 5) ∨ (q = 23 ∧ j = 6) ∨ (q = 23 ∧ j = 7) ∨ (q = 23 ∧ j = 8) ∨ (q = 1 ∧ j = 17) ∨ (q = 1 ∧ j = 18) ∨ q = 20 ∨ (q = a2 ∧ j = 0) ∨ (q = a2 ∧ j = 1) ∨ (q = a2 ∧ j = 2) ∨ (q = a2 ∧ j = 3) ∨ (q = a2 ∧ j = 4) ∨ (q = a2 ∧ j = 8) ∨ (q = a2 ∧ j = 12) ∨ (q = a2 ∧ j = 14) ∨ q = (a2 + 1) ∨ q = (a2 + 2) ∨ q = (a2 + 3) ∨ q = (a2 + 4) ∨ q = (a2 + 5) ∨ q = (a2 + 6) ∨ q = (a2 + 7) ∨ q = (a2 + 8) ∨ (q = 39 ∧ j = 6) ∨ (q = 39 ∧ j = 7) ∨ (q = t ∧ j = 13)) ∨ I36 q j = I q j) → (∀ q j : Nat, ((q = 23 ∧ j = 9)) ∨ J37 q j = J q j) → gc_LT I36 → gc_TK I36 → gc_CT a2 I36 → ((0 ≤ s1_38 ∧ s1_38 ≤ 384) ∧ (1 ≤ I36 a2 4) ∧ (0 ≤ I36 a2 1 ∧ I36 a2 1 < I36 4 1) ∧ (I36 a2 0 = I t 13) ∧ (s1_38 = I t 13) ∧ (I36 t 13 = I t 13 + 1) ∧ (I36 12 (Int.toNat (I36 a2 1)) ≤ I36 a2 8) ∧ (I t 13 ≤ 383) ∧ (I36 23 1 = I 23 1) ∧ (I 23 5 ≤ I36 23 5) ∧ (B ≤ 1280 ∧ I36 1 17 + I36 23 1 ≤ B + I36 23 5) ∧ (I36 39 2 = (t : Int))) → (gc_LI a2 (I36 a2 4) I36) → (gc_UN a2 I36) → gv_X (gc_E6 ws0 tb 8 (yX6_readLin, cX6_readLin, 4, (some .boolean)) kX6_readLin) Q (338, [], [.inr (.inr (some a2)), .inl s1_38, .inr (.inr (some (t + 16)))], sh, gc_h sh I36 J37 A)) : gv_X (gc_E6 ws0 tb 8 (yX6_readLin, cX6_readLin, 4, (some .boolean)) kX6_readLin) Q (32, [(0, .inr (.inr (some 39))), (1, .inl a1), (2, .inr (.inr (some a2)))], [], sh, gc_h sh I J A) := by
  have FI : ∀ q j : Nat, ((q = 39 ∧ j = 3) ∨ (q = 39 ∧ j = 4) ∨ (q = 23 ∧ j = 5) ∨ (q = 23 ∧ j = 6) ∨ (q = 23 ∧ j = 7) ∨ (q = 23 ∧ j = 8) ∨ (q = 1 ∧ j = 17) ∨ (q = 1 ∧ j = 18) ∨ q = 20 ∨ (q = a2 ∧ j = 0) ∨ (q = a2 ∧ j = 1) ∨ (q = a2 ∧ j = 2) ∨ (q = a2 ∧ j = 3) ∨ (q = a2 ∧ j = 4) ∨ (q = a2 ∧ j = 8) ∨ (q = a2 ∧ j = 12) ∨ (q = a2 ∧ j = 14) ∨ q = (a2 + 1) ∨ q = (a2 + 2) ∨ q = (a2 + 3) ∨ q = (a2 + 4) ∨ q = (a2 + 5) ∨ q = (a2 + 6) ∨ q = (a2 + 7) ∨ q = (a2 + 8) ∨ (q = 39 ∧ j = 6) ∨ (q = 39 ∧ j = 7) ∨ (q = t ∧ j = 13)) ∨ I q j = I q j := fun _ _ => Or.inr rfl
  have FJ : ∀ q j : Nat, ((q = 23 ∧ j = 9)) ∨ J q j = J q j := fun _ _ => Or.inr rfl
  have A_1_1 : A 1 1 = some 4 := gc_bA hb rfl
  have A_1_6 : A 1 6 = some 11 := gc_bA hb rfl
  have A_1_7 : A 1 7 = some 12 := gc_bA hb rfl
  have A_1_8 : A 1 8 = some 13 := gc_bA hb rfl
  have A_39_0 : A 39 0 = some 1 := gc_bA hb rfl
  have A_39_1 : A 39 1 = some 23 := gc_bA hb rfl
  have B_1 : 1 < 1000000 := by decide
  have B_11 : 11 < 1000000 := by decide
  have B_12 : 12 < 1000000 := by decide
  have B_13 : 13 < 1000000 := by decide
  have B_23 : 23 < 1000000 := by decide
  have B_39 : 39 < 1000000 := by decide
  have B_4 : 4 < 1000000 := by decide
  have R_1 : ro 1 = 22 := gc_bR hb (by decide) rfl
  have R_11 : ro 11 = 25 := gc_bR hb (by decide) rfl
  have R_12 : ro 12 = 26 := gc_bR hb (by decide) rfl
  have R_13 : ro 13 = 25 := gc_bR hb (by decide) rfl
  have R_23 : ro 23 = 3 := gc_bR hb (by decide) rfl
  have R_39 : ro 39 = 42 := gc_bR hb (by decide) rfl
  have R_4 : ro 4 = 11 := gc_bR hb (by decide) rfl
  have S_1 : sh[1]? = some (false, 8, 21) := gc_bS hb rfl
  have S_11 : sh[11]? = some (true, 1, 96) := gc_bS hb rfl
  have S_12 : sh[12]? = some (true, 1, 96) := gc_bS hb rfl
  have S_13 : sh[13]? = some (true, 1, 384) := gc_bS hb rfl
  have S_23 : sh[23]? = some (false, 9, 10) := gc_bS hb rfl
  have S_39 : sh[39]? = some (false, 6, 19) := gc_bS hb rfl
  have S_4 : sh[4]? = some (false, 4, 2) := gc_bS hb rfl
  obtain ⟨S_a2, R_a2, B_a2, A_a2_5, S_a2_1, R_a2_1, B_a2_1, A_a2_6, S_a2_2, R_a2_2, B_a2_2, A_a2_7, S_a2_3, R_a2_3, B_a2_3, A_a2_9, S_a2_4, R_a2_4, B_a2_4, A_a2_10, S_a2_5, R_a2_5, B_a2_5, A_a2_11, S_a2_6, R_a2_6, B_a2_6, A_a2_13, S_a2_7, R_a2_7, B_a2_7, A_a2_15, S_a2_8, R_a2_8, B_a2_8⟩ := id h_a2
  obtain ⟨S_t, R_t, B_t, A_t_0, h_t_1, A_t_1, h_t_3, A_t_2, S_t_5, R_t_5, B_t_5, A_t_3, S_t_6, R_t_6, B_t_6, A_t_4, h_t_7, A_t_5, S_t_9, R_t_9, B_t_9, A_t_7, S_t_10, R_t_10, B_t_10, A_t_8, h_t_11, A_t_9, S_t_13, R_t_13, B_t_13, A_t_10, S_t_14, R_t_14, B_t_14, A_t_12, S_t_15, R_t_15, B_t_15, A_t_14, S_t_16, R_t_16, B_t_16, A_t_15, h_t_17⟩ := id h_t
  obtain ⟨S_t_1, R_t_1, B_t_1, A_t_1_0, S_t_1_1, R_t_1_1, B_t_1_1, Q0_t_1, Q1_t_1, Q2_t_1⟩ := id h_t_1
  obtain ⟨S_t_3, R_t_3, B_t_3, A_t_3_0, S_t_3_1, R_t_3_1, B_t_3_1, Q0_t_3, Q1_t_3, Q2_t_3⟩ := id h_t_3
  obtain ⟨S_t_7, R_t_7, B_t_7, A_t_7_0, S_t_7_1, R_t_7_1, B_t_7_1, Q0_t_7, Q1_t_7, Q2_t_7⟩ := id h_t_7
  obtain ⟨S_t_11, R_t_11, B_t_11, A_t_11_0, S_t_11_1, R_t_11_1, B_t_11_1, Q0_t_11, Q1_t_11, Q2_t_11⟩ := id h_t_11
  obtain ⟨S_t_17, R_t_17, B_t_17, A_t_17_0, S_20, R_20, B_20, A_t_17_1, S_t_17_1, R_t_17_1, B_t_17_1, A_t_17_2, S_t_17_2, R_t_17_2, B_t_17_2, A_t_17_3, S_t_17_3, R_t_17_3, B_t_17_3, A_t_17_4, S_t_17_4, R_t_17_4, B_t_17_4, A_t_17_5, S_t_17_5, R_t_17_5, B_t_17_5, S_t_17_6, R_t_17_6, B_t_17_6, S_t_17_7, R_t_17_7, B_t_17_7⟩ := id h_t_17
  have N1 := gc_dj_LT h_a2 h_t
  have hD : gv_D (gc_E6 ws0 tb 8 (yX6_readLin, cX6_readLin, 4, (some .boolean)) kX6_readLin) := gq_ok oX6_readLin
  have N_a2__39 : ¬ (a2 = 39) := by omega
  have N_a2_6__39 : ¬ ((a2 + 6) = 39) := by omega
  have N_39__a2 : ¬ (39 = a2) := by omega
  have N_24__a2 : ¬ (24 = a2) := by omega
  have N_a2_6__a2 : ¬ ((a2 + 6) = a2) := by omega
  have N_24__t : ¬ (24 = t) := by omega
  have N_a2_6__t : ¬ ((a2 + 6) = t) := by omega
  have N_23__a2 : ¬ (23 = a2) := by omega
  have N_4__a2 : ¬ (4 = a2) := by omega
  have N_23__a2_6 : ¬ (23 = (a2 + 6)) := by omega
  have N_24__a2_6 : ¬ (24 = (a2 + 6)) := by omega
  have N_1__a2_6 : ¬ (1 = (a2 + 6)) := by omega
  have N_a2__a2_6 : ¬ (a2 = (a2 + 6)) := by omega
  have N_4__a2_6 : ¬ (4 = (a2 + 6)) := by omega
  have N_t__a2_6 : ¬ (t = (a2 + 6)) := by omega
  have N_39__a2_6 : ¬ (39 = (a2 + 6)) := by omega
  have N_a2__23 : ¬ (a2 = 23) := by omega
  have N_a2_6__23 : ¬ ((a2 + 6) = 23) := by omega
  have N_23__a2_1 : ¬ (23 = (a2 + 1)) := by omega
  have N_23__a2_4 : ¬ (23 = (a2 + 4)) := by omega
  have N_23__a2_5 : ¬ (23 = (a2 + 5)) := by omega
  have N_23__a2_2 : ¬ (23 = (a2 + 2)) := by omega
  have N_23__a2_3 : ¬ (23 = (a2 + 3)) := by omega
  have N_a2__20 : ¬ (a2 = 20) := by omega
  have N_a2__a2_1 : ¬ (a2 = (a2 + 1)) := by omega
  have N_a2__a2_4 : ¬ (a2 = (a2 + 4)) := by omega
  have N_a2__a2_5 : ¬ (a2 = (a2 + 5)) := by omega
  have N_a2__a2_2 : ¬ (a2 = (a2 + 2)) := by omega
  have N_a2__a2_3 : ¬ (a2 = (a2 + 3)) := by omega
  have N_4__a2_1 : ¬ (4 = (a2 + 1)) := by omega
  have N_4__a2_4 : ¬ (4 = (a2 + 4)) := by omega
  have N_4__a2_5 : ¬ (4 = (a2 + 5)) := by omega
  have N_4__a2_2 : ¬ (4 = (a2 + 2)) := by omega
  have N_4__a2_3 : ¬ (4 = (a2 + 3)) := by omega
  have N_t__20 : ¬ (t = 20) := by omega
  have N_t__a2_1 : ¬ (t = (a2 + 1)) := by omega
  have N_t__a2_4 : ¬ (t = (a2 + 4)) := by omega
  have N_t__a2_5 : ¬ (t = (a2 + 5)) := by omega
  have N_t__a2_2 : ¬ (t = (a2 + 2)) := by omega
  have N_t__a2_3 : ¬ (t = (a2 + 3)) := by omega
  have N_39__a2_1 : ¬ (39 = (a2 + 1)) := by omega
  have N_39__a2_4 : ¬ (39 = (a2 + 4)) := by omega
  have N_39__a2_5 : ¬ (39 = (a2 + 5)) := by omega
  have N_39__a2_2 : ¬ (39 = (a2 + 2)) := by omega
  have N_39__a2_3 : ¬ (39 = (a2 + 3)) := by omega
  have N_23__a2_7 : ¬ (23 = (a2 + 7)) := by omega
  have N_23__a2_8 : ¬ (23 = (a2 + 8)) := by omega
  have N_1__a2_7 : ¬ (1 = (a2 + 7)) := by omega
  have N_1__a2_8 : ¬ (1 = (a2 + 8)) := by omega
  have N_a2__a2_7 : ¬ (a2 = (a2 + 7)) := by omega
  have N_a2__a2_8 : ¬ (a2 = (a2 + 8)) := by omega
  have N_4__a2_7 : ¬ (4 = (a2 + 7)) := by omega
  have N_4__a2_8 : ¬ (4 = (a2 + 8)) := by omega
  have N_t__a2_7 : ¬ (t = (a2 + 7)) := by omega
  have N_t__a2_8 : ¬ (t = (a2 + 8)) := by omega
  have N_39__a2_7 : ¬ (39 = (a2 + 7)) := by omega
  have N_39__a2_8 : ¬ (39 = (a2 + 8)) := by omega
  have N_a2_6__a2_7 : ¬ ((a2 + 6) = (a2 + 7)) := by omega
  have N_a2_6__a2_8 : ¬ ((a2 + 6) = (a2 + 8)) := by omega
  have t1 := gc_TK_mo KTK_I
  have f2 := (show 0 ≤ I 23 1 ∧ I 23 1 ≤ 1000 from gc_in hI R_23 rfl rfl)
  have f3 := (show 0 ≤ I 23 5 ∧ I 23 5 ≤ 1000 from gc_in hI R_23 rfl rfl)
  have f4 := (show 0 ≤ I 23 6 ∧ I 23 6 ≤ 1001 from gc_in hI R_23 rfl rfl)
  have f5 := (show 0 ≤ I 23 7 ∧ I 23 7 ≤ 125 from gc_in hI R_23 rfl rfl)
  have f6 := (show 0 ≤ I 1 17 ∧ I 1 17 ≤ 12000 from gc_in hI R_1 rfl rfl)
  have f7 := (show 0 ≤ I a2 0 ∧ I a2 0 ≤ 384 from gc_in hI R_a2 rfl rfl)
  have f8 := (show 0 ≤ I a2 1 ∧ I a2 1 ≤ 95 from gc_in hI R_a2 rfl rfl)
  have f9 := (show 0 ≤ I a2 3 ∧ I a2 3 ≤ 10000 from gc_in hI R_a2 rfl rfl)
  have f10 := (show 0 ≤ I a2 4 ∧ I a2 4 ≤ 6 from gc_in hI R_a2 rfl rfl)
  have f11 := (show 0 ≤ I a2 8 ∧ I a2 8 ≤ 4 from gc_in hI R_a2 rfl rfl)
  have f12 := (show 0 ≤ I a2 12 ∧ I a2 12 ≤ 6 from gc_in hI R_a2 rfl rfl)
  have f13 := (show 0 ≤ I a2 14 ∧ I a2 14 ≤ 6 from gc_in hI R_a2 rfl rfl)
  have f14 := (show 0 ≤ I 4 1 ∧ I 4 1 ≤ 96 from gc_in hI R_4 rfl rfl)
  have f15 := (show 0 ≤ I t 13 ∧ I t 13 ≤ 384 from gc_in hI R_t rfl rfl)
  have f16 := (show (-1) ≤ I 39 2 ∧ I 39 2 ≤ 999999 from gc_in hI R_39 rfl rfl)
  have L147 : ∀ (I17 : gr_I) (J18 : gr_J) , gc_Inv ro I17 → (∀ q j : Nat, ((q = 39 ∧ j = 3) ∨ (q = 39 ∧ j = 4) ∨ (q = 23 ∧ j = 5) ∨ (q = 23 ∧ j = 6) ∨ (q = 23 ∧ j = 7) ∨ (q = 23 ∧ j = 8) ∨ (q = 1 ∧ j = 17) ∨ (q = 1 ∧ j = 18) ∨ q = 20 ∨ (q = a2 ∧ j = 0) ∨ (q = a2 ∧ j = 1) ∨ (q = a2 ∧ j = 2) ∨ (q = a2 ∧ j = 3) ∨ (q = a2 ∧ j = 4) ∨ (q = a2 ∧ j = 8) ∨ (q = a2 ∧ j = 12) ∨ (q = a2 ∧ j = 14) ∨ q = (a2 + 1) ∨ q = (a2 + 2) ∨ q = (a2 + 3) ∨ q = (a2 + 4) ∨ q = (a2 + 5) ∨ q = (a2 + 6) ∨ q = (a2 + 7) ∨ q = (a2 + 8) ∨ (q = 39 ∧ j = 6) ∨ (q = 39 ∧ j = 7) ∨ (q = t ∧ j = 13)) ∨ I17 q j = I q j) → (∀ q j : Nat, ((q = 23 ∧ j = 9)) ∨ J18 q j = J q j) → gc_LT I17 → gc_TK I17 → ((I17 t 13 = I t 13) ∧ (I17 23 1 = I 23 1) ∧ (I 23 5 ≤ I17 23 5) ∧ (B ≤ 1280 ∧ I17 1 17 + I17 23 1 ≤ B + I17 23 5) ∧ (I17 39 2 = (t : Int))) → gv_X (gc_E6 ws0 tb 8 (yX6_readLin, cX6_readLin, 4, (some .boolean)) kX6_readLin) Q (147, [], [], sh, gc_h sh I17 J18 A) := by
    intro I17 J18 hI17 FI17 FJ18 KLT_I17 KTK_I17 m_19
    obtain ⟨e0_19, e1_19, e2_19, e3_19, e4_19⟩ := m_19
    have t20 := gc_TK_mo KTK_I17
    have f21 := (show 0 ≤ I17 23 1 ∧ I17 23 1 ≤ 1000 from gc_in hI17 R_23 rfl rfl)
    have f22 := (show 0 ≤ I17 23 5 ∧ I17 23 5 ≤ 1000 from gc_in hI17 R_23 rfl rfl)
    have f23 := (show 0 ≤ I17 23 6 ∧ I17 23 6 ≤ 1001 from gc_in hI17 R_23 rfl rfl)
    have f24 := (show 0 ≤ I17 23 7 ∧ I17 23 7 ≤ 125 from gc_in hI17 R_23 rfl rfl)
    have f25 := (show 0 ≤ I17 1 17 ∧ I17 1 17 ≤ 12000 from gc_in hI17 R_1 rfl rfl)
    have f26 := (show 0 ≤ I17 a2 0 ∧ I17 a2 0 ≤ 384 from gc_in hI17 R_a2 rfl rfl)
    have f27 := (show 0 ≤ I17 a2 1 ∧ I17 a2 1 ≤ 95 from gc_in hI17 R_a2 rfl rfl)
    have f28 := (show 0 ≤ I17 a2 3 ∧ I17 a2 3 ≤ 10000 from gc_in hI17 R_a2 rfl rfl)
    have f29 := (show 0 ≤ I17 a2 4 ∧ I17 a2 4 ≤ 6 from gc_in hI17 R_a2 rfl rfl)
    have f30 := (show 0 ≤ I17 a2 8 ∧ I17 a2 8 ≤ 4 from gc_in hI17 R_a2 rfl rfl)
    have f31 := (show 0 ≤ I17 a2 12 ∧ I17 a2 12 ≤ 6 from gc_in hI17 R_a2 rfl rfl)
    have f32 := (show 0 ≤ I17 a2 14 ∧ I17 a2 14 ≤ 6 from gc_in hI17 R_a2 rfl rfl)
    have f33 := (show 0 ≤ I17 4 1 ∧ I17 4 1 ≤ 96 from gc_in hI17 R_4 rfl rfl)
    have f34 := (show 0 ≤ I17 t 13 ∧ I17 t 13 ≤ 384 from gc_in hI17 R_t rfl rfl)
    have f35 := (show (-1) ≤ I17 39 2 ∧ I17 39 2 ≤ 999999 from gc_in hI17 R_39 rfl rfl)
    refine gv_run 1 true hD (pc' := 148) (lv' := []) (st' := [.inl 0]) (h' := gc_h sh I17 J18 A) (C := (True ∧ True)) rfl ⟨trivial, trivial⟩ ?_
    exact gv_Xm hQ (gv_zret hD rfl (by omega) ⟨I17, J18, rfl, hI17, FI17, FJ18, KLT_I17, KTK_I17, ⟨_, rfl, by omega⟩⟩)
  have L217 : ∀ (I39 : gr_I) (J40 : gr_J) , gc_Inv ro I39 → (∀ q j : Nat, ((q = 39 ∧ j = 3) ∨ (q = 39 ∧ j = 4) ∨ (q = 23 ∧ j = 5) ∨ (q = 23 ∧ j = 6) ∨ (q = 23 ∧ j = 7) ∨ (q = 23 ∧ j = 8) ∨ (q = 1 ∧ j = 17) ∨ (q = 1 ∧ j = 18) ∨ q = 20 ∨ (q = a2 ∧ j = 0) ∨ (q = a2 ∧ j = 1) ∨ (q = a2 ∧ j = 2) ∨ (q = a2 ∧ j = 3) ∨ (q = a2 ∧ j = 4) ∨ (q = a2 ∧ j = 8) ∨ (q = a2 ∧ j = 12) ∨ (q = a2 ∧ j = 14) ∨ q = (a2 + 1) ∨ q = (a2 + 2) ∨ q = (a2 + 3) ∨ q = (a2 + 4) ∨ q = (a2 + 5) ∨ q = (a2 + 6) ∨ q = (a2 + 7) ∨ q = (a2 + 8) ∨ (q = 39 ∧ j = 6) ∨ (q = 39 ∧ j = 7) ∨ (q = t ∧ j = 13)) ∨ I39 q j = I q j) → (∀ q j : Nat, ((q = 23 ∧ j = 9)) ∨ J40 q j = J q j) → gc_LT I39 → gc_TK I39 → gc_CT a2 I39 → ((0 ≤ a1 ∧ a1 ≤ 1000) ∧ (1 ≤ I39 a2 4) ∧ (0 ≤ I39 a2 1 ∧ I39 a2 1 < I39 4 1) ∧ (I39 t 13 = I t 13) ∧ (I39 23 1 = I 23 1) ∧ (I 23 5 ≤ I39 23 5) ∧ (B ≤ 1280 ∧ I39 1 17 + I39 23 1 ≤ B + I39 23 5) ∧ (I39 39 2 = (t : Int))) → (gc_LI a2 (I39 a2 4) I39) → (gc_UN a2 I39) → gv_X (gc_E6 ws0 tb 8 (yX6_readLin, cX6_readLin, 4, (some .boolean)) kX6_readLin) Q (217, [(0, .inr (.inr (some 39))), (1, .inl a1), (2, .inr (.inr (some a2)))], [], sh, gc_h sh I39 J40 A) := by
    intro I39 J40 hI39 FI39 FJ40 KLT_I39 KTK_I39 KCT_I39 m_41 e0_41 e1_41
    obtain ⟨ha1_41, e2_41, e3_41, e4_41, e5_41, e6_41, e7_41, e8_41⟩ := m_41
    have t42 := gc_TK_mo KTK_I39
    have f43 := (show 0 ≤ I39 23 1 ∧ I39 23 1 ≤ 1000 from gc_in hI39 R_23 rfl rfl)
    have f44 := (show 0 ≤ I39 23 5 ∧ I39 23 5 ≤ 1000 from gc_in hI39 R_23 rfl rfl)
    have f45 := (show 0 ≤ I39 23 6 ∧ I39 23 6 ≤ 1001 from gc_in hI39 R_23 rfl rfl)
    have f46 := (show 0 ≤ I39 23 7 ∧ I39 23 7 ≤ 125 from gc_in hI39 R_23 rfl rfl)
    have f47 := (show 0 ≤ I39 1 17 ∧ I39 1 17 ≤ 12000 from gc_in hI39 R_1 rfl rfl)
    have f48 := (show 0 ≤ I39 a2 0 ∧ I39 a2 0 ≤ 384 from gc_in hI39 R_a2 rfl rfl)
    have f49 := (show 0 ≤ I39 a2 1 ∧ I39 a2 1 ≤ 95 from gc_in hI39 R_a2 rfl rfl)
    have f50 := (show 0 ≤ I39 a2 3 ∧ I39 a2 3 ≤ 10000 from gc_in hI39 R_a2 rfl rfl)
    have f51 := (show 0 ≤ I39 a2 4 ∧ I39 a2 4 ≤ 6 from gc_in hI39 R_a2 rfl rfl)
    have f52 := (show 0 ≤ I39 a2 8 ∧ I39 a2 8 ≤ 4 from gc_in hI39 R_a2 rfl rfl)
    have f53 := (show 0 ≤ I39 a2 12 ∧ I39 a2 12 ≤ 6 from gc_in hI39 R_a2 rfl rfl)
    have f54 := (show 0 ≤ I39 a2 14 ∧ I39 a2 14 ≤ 6 from gc_in hI39 R_a2 rfl rfl)
    have f55 := (show 0 ≤ I39 4 1 ∧ I39 4 1 ≤ 96 from gc_in hI39 R_4 rfl rfl)
    have f56 := (show 0 ≤ I39 t 13 ∧ I39 t 13 ≤ 384 from gc_in hI39 R_t rfl rfl)
    have f57 := (show (-1) ≤ I39 39 2 ∧ I39 39 2 ≤ 999999 from gc_in hI39 R_39 rfl rfl)
    have L295 : ∀ (I58 : gr_I) (J59 : gr_J) , gc_Inv ro I58 → (∀ q j : Nat, ((q = 39 ∧ j = 3) ∨ (q = 39 ∧ j = 4) ∨ (q = 23 ∧ j = 5) ∨ (q = 23 ∧ j = 6) ∨ (q = 23 ∧ j = 7) ∨ (q = 23 ∧ j = 8) ∨ (q = 1 ∧ j = 17) ∨ (q = 1 ∧ j = 18) ∨ q = 20 ∨ (q = a2 ∧ j = 0) ∨ (q = a2 ∧ j = 1) ∨ (q = a2 ∧ j = 2) ∨ (q = a2 ∧ j = 3) ∨ (q = a2 ∧ j = 4) ∨ (q = a2 ∧ j = 8) ∨ (q = a2 ∧ j = 12) ∨ (q = a2 ∧ j = 14) ∨ q = (a2 + 1) ∨ q = (a2 + 2) ∨ q = (a2 + 3) ∨ q = (a2 + 4) ∨ q = (a2 + 5) ∨ q = (a2 + 6) ∨ q = (a2 + 7) ∨ q = (a2 + 8) ∨ (q = 39 ∧ j = 6) ∨ (q = 39 ∧ j = 7) ∨ (q = t ∧ j = 13)) ∨ I58 q j = I q j) → (∀ q j : Nat, ((q = 23 ∧ j = 9)) ∨ J59 q j = J q j) → gc_LT I58 → gc_TK I58 → gc_CT a2 I58 → ((I58 t 13 = I t 13) ∧ (I58 23 1 = I 23 1) ∧ (I 23 5 ≤ I58 23 5) ∧ (B ≤ 1280 ∧ I58 1 17 + I58 23 1 ≤ B + I58 23 5) ∧ (I58 39 2 = (t : Int))) → gv_X (gc_E6 ws0 tb 8 (yX6_readLin, cX6_readLin, 4, (some .boolean)) kX6_readLin) Q (295, [(0, .inr (.inr (some 39)))], [], sh, gc_h sh I58 J59 A) := by
      intro I58 J59 hI58 FI58 FJ59 KLT_I58 KTK_I58 KCT_I58 m_60
      clear ha1_41 e2_41 e3_41 e4_41 e5_41 e6_41 e7_41 e8_41 t42 f43 f44 f45 f46 f47 f48 f49 f50 f51 f52 f53 f54 f55 f56 f57
      obtain ⟨e0_60, e1_60, e2_60, e3_60, e4_60⟩ := m_60
      have t61 := gc_TK_mo KTK_I58
      have f62 := (show 0 ≤ I58 23 1 ∧ I58 23 1 ≤ 1000 from gc_in hI58 R_23 rfl rfl)
      have f63 := (show 0 ≤ I58 23 5 ∧ I58 23 5 ≤ 1000 from gc_in hI58 R_23 rfl rfl)
      have f64 := (show 0 ≤ I58 23 6 ∧ I58 23 6 ≤ 1001 from gc_in hI58 R_23 rfl rfl)
      have f65 := (show 0 ≤ I58 23 7 ∧ I58 23 7 ≤ 125 from gc_in hI58 R_23 rfl rfl)
      have f66 := (show 0 ≤ I58 1 17 ∧ I58 1 17 ≤ 12000 from gc_in hI58 R_1 rfl rfl)
      have f67 := (show 0 ≤ I58 a2 0 ∧ I58 a2 0 ≤ 384 from gc_in hI58 R_a2 rfl rfl)
      have f68 := (show 0 ≤ I58 a2 1 ∧ I58 a2 1 ≤ 95 from gc_in hI58 R_a2 rfl rfl)
      have f69 := (show 0 ≤ I58 a2 3 ∧ I58 a2 3 ≤ 10000 from gc_in hI58 R_a2 rfl rfl)
      have f70 := (show 0 ≤ I58 a2 4 ∧ I58 a2 4 ≤ 6 from gc_in hI58 R_a2 rfl rfl)
      have f71 := (show 0 ≤ I58 a2 8 ∧ I58 a2 8 ≤ 4 from gc_in hI58 R_a2 rfl rfl)
      have f72 := (show 0 ≤ I58 a2 12 ∧ I58 a2 12 ≤ 6 from gc_in hI58 R_a2 rfl rfl)
      have f73 := (show 0 ≤ I58 a2 14 ∧ I58 a2 14 ≤ 6 from gc_in hI58 R_a2 rfl rfl)
      have f74 := (show 0 ≤ I58 4 1 ∧ I58 4 1 ≤ 96 from gc_in hI58 R_4 rfl rfl)
      have f75 := (show 0 ≤ I58 t 13 ∧ I58 t 13 ≤ 384 from gc_in hI58 R_t rfl rfl)
      have f76 := (show (-1) ≤ I58 39 2 ∧ I58 39 2 ≤ 999999 from gc_in hI58 R_39 rfl rfl)
      refine gv_run 3 true hD (pc' := 298) (lv' := [(0, .inr (.inr (some 39)))]) (st' := [.inr (.inr (some 39)), .inl 2, .inr (.inr (some 39))]) (h' := gc_h sh I58 J59 A) (C := (((True ∧ True) ∧ True) ∧ True)) rfl ⟨⟨⟨trivial, trivial⟩, trivial⟩, trivial⟩ ?_
      have f77 := (show 0 ≤ I58 39 5 ∧ I58 39 5 ≤ 1000 from gc_in hI58 R_39 rfl rfl)
      refine gv_get hD rfl rfl S_39 ⟨by decide, B_39⟩ (gc_hI S_39 rfl) ?_
      show gv_X _ _ (301, [(0, .inr (.inr (some 39)))], [.inl (I58 39 5), .inl 2, .inr (.inr (some 39))], sh, gc_h sh I58 J59 A)
      obtain ⟨r78, h78, E78, P78⟩ := d_X6_wrong (ws0 := ws0) (tb := tb) hws htb sh ro I58 J59 A hI58  2 (I58 39 5) hb   ⟨by omega, by omega⟩ ⟨by omega, by omega⟩  
      obtain ⟨I79, J80, rfl, hI79, g78, k78, ⟨z78, rfl, q78⟩⟩ := P78
      have FI79 := gc_frc (W := fun q j => (q = 39 ∧ j = 3) ∨ (q = 39 ∧ j = 4) ∨ (q = 23 ∧ j = 5) ∨ (q = 23 ∧ j = 6) ∨ (q = 23 ∧ j = 7) ∨ (q = 23 ∧ j = 8) ∨ (q = 1 ∧ j = 17) ∨ (q = 1 ∧ j = 18) ∨ q = 20 ∨ (q = a2 ∧ j = 0) ∨ (q = a2 ∧ j = 1) ∨ (q = a2 ∧ j = 2) ∨ (q = a2 ∧ j = 3) ∨ (q = a2 ∧ j = 4) ∨ (q = a2 ∧ j = 8) ∨ (q = a2 ∧ j = 12) ∨ (q = a2 ∧ j = 14) ∨ q = (a2 + 1) ∨ q = (a2 + 2) ∨ q = (a2 + 3) ∨ q = (a2 + 4) ∨ q = (a2 + 5) ∨ q = (a2 + 6) ∨ q = (a2 + 7) ∨ q = (a2 + 8) ∨ (q = 39 ∧ j = 6) ∨ (q = 39 ∧ j = 7) ∨ (q = t ∧ j = 13)) (V := fun q j => (q = 39 ∧ j = 3) ∨ (q = 39 ∧ j = 4)) FI58 (fun q j h => (h.elim (fun h => (Or.inl h)) (fun h => (Or.inr (Or.inl h))))) g78
      have t81 := (g78 23 1).resolve_left (fun h => h.elim (fun h => absurd h.2 (by decide)) (fun h => absurd h.2 (by decide)))
      have t82 := (g78 23 5).resolve_left (fun h => h.elim (fun h => absurd h.2 (by decide)) (fun h => absurd h.2 (by decide)))
      have t83 := (g78 23 6).resolve_left (fun h => h.elim (fun h => absurd h.2 (by decide)) (fun h => absurd h.2 (by decide)))
      have t84 := (g78 23 7).resolve_left (fun h => h.elim (fun h => absurd h.2 (by decide)) (fun h => absurd h.2 (by decide)))
      have t85 := (g78 1 17).resolve_left (fun h => h.elim (fun h => absurd h.2 (by decide)) (fun h => absurd h.2 (by decide)))
      have t86 := (g78 a2 0).resolve_left (fun h => h.elim (fun h => absurd h.2 (by decide)) (fun h => absurd h.2 (by decide)))
      have t87 := (g78 a2 1).resolve_left (fun h => h.elim (fun h => absurd h.2 (by decide)) (fun h => absurd h.2 (by decide)))
      have t88 := (g78 a2 3).resolve_left (fun h => h.elim (fun h => absurd h.1 N_a2__39) (fun h => absurd h.2 (by decide)))
      have t89 := (g78 a2 4).resolve_left (fun h => h.elim (fun h => absurd h.2 (by decide)) (fun h => absurd h.1 N_a2__39))
      have t90 := (g78 a2 8).resolve_left (fun h => h.elim (fun h => absurd h.2 (by decide)) (fun h => absurd h.2 (by decide)))
      have t91 := (g78 a2 12).resolve_left (fun h => h.elim (fun h => absurd h.2 (by decide)) (fun h => absurd h.2 (by decide)))
      have t92 := (g78 a2 14).resolve_left (fun h => h.elim (fun h => absurd h.2 (by decide)) (fun h => absurd h.2 (by decide)))
      have t93 := (g78 4 1).resolve_left (fun h => h.elim (fun h => absurd h.2 (by decide)) (fun h => absurd h.2 (by decide)))
      have t94 := (g78 t 13).resolve_left (fun h => h.elim (fun h => absurd h.2 (by decide)) (fun h => absurd h.2 (by decide)))
      have t95 := (g78 39 2).resolve_left (fun h => h.elim (fun h => absurd h.2 (by decide)) (fun h => absurd h.2 (by decide)))
      obtain rfl : J59 = J80 := funext fun q => funext fun j => ((k78 q j).resolve_left id).symm
      have KLT_I79 := gc_LT_fr KLT_I58 ((g78 23 5).resolve_left (fun h => h.elim (fun h => absurd h.2 (by decide)) (fun h => absurd h.2 (by decide)))) ((g78 23 6).resolve_left (fun h => h.elim (fun h => absurd h.2 (by decide)) (fun h => absurd h.2 (by decide)))) ((g78 23 7).resolve_left (fun h => h.elim (fun h => absurd h.2 (by decide)) (fun h => absurd h.2 (by decide)))) (fun k => (g78 24 k).resolve_left (fun h => h.elim (fun h => absurd h.1 (by decide)) (fun h => absurd h.1 (by decide))))
      have KTK_I79 := gc_TK_fr KTK_I58 ((g78 23 1).resolve_left (fun h => h.elim (fun h => absurd h.2 (by decide)) (fun h => absurd h.2 (by decide)))) ((g78 23 5).resolve_left (fun h => h.elim (fun h => absurd h.2 (by decide)) (fun h => absurd h.2 (by decide)))) ((g78 23 6).resolve_left (fun h => h.elim (fun h => absurd h.2 (by decide)) (fun h => absurd h.2 (by decide)))) ((g78 23 7).resolve_left (fun h => h.elim (fun h => absurd h.2 (by decide)) (fun h => absurd h.2 (by decide))))
      have KCT_I79 := gc_CT_fr KCT_I58 ((g78 a2 8).resolve_left (fun h => h.elim (fun h => absurd h.2 (by decide)) (fun h => absurd h.2 (by decide)))) (fun k => (g78 (a2 + 6) k).resolve_left (fun h => h.elim (fun h => absurd h.1 N_a2_6__39) (fun h => absurd h.1 N_a2_6__39)))
      refine gv_callV hD rfl (As := [.inl 2, .inl (I58 39 5)]) (st := []) rfl B_39 S_39 rfl (gc_lV6 hws rfl) (Nat.le_of_ble_eq_true rfl) (gz_Ev_mono (d := 1) (by decide) E78) ?_
      show gv_X _ _ (304, [(0, .inr (.inr (some 39)))], [.inl z78], sh, gc_h sh I79 J59 A)
      exact gv_Xm hQ (gv_zret hD rfl (by omega) ⟨I79, J59, rfl, hI79, FI79, FJ59, KLT_I79, KTK_I79, ⟨_, rfl, by omega⟩⟩)
    refine gv_run 1 true hD (pc' := 218) (lv' := [(0, .inr (.inr (some 39))), (1, .inl a1), (2, .inr (.inr (some a2)))]) (st' := [.inr (.inr (some a2))]) (h' := gc_h sh I39 J40 A) (C := (True ∧ True)) rfl ⟨trivial, trivial⟩ ?_
    have f96 := (show 0 ≤ I39 a2 8 ∧ I39 a2 8 ≤ 4 from gc_in hI39 R_a2 rfl rfl)
    refine gv_get hD rfl rfl S_a2 ⟨by decide, B_a2⟩ (gc_hI S_a2 rfl) ?_
    show gv_X _ _ (221, [(0, .inr (.inr (some 39))), (1, .inl a1), (2, .inr (.inr (some a2)))], [.inl (I39 a2 8)], sh, gc_h sh I39 J40 A)
    refine gv_run 1 true hD (pc' := 222) (lv' := [(0, .inr (.inr (some 39))), (1, .inl a1), (2, .inr (.inr (some a2)))]) (st' := [.inr (.inr (some 39)), .inl (I39 a2 8)]) (h' := gc_h sh I39 J40 A) (C := (True ∧ True)) rfl ⟨trivial, trivial⟩ ?_
    refine gv_get hD rfl rfl S_39 ⟨by decide, B_39⟩ (gc_hA S_39 rfl A_39_0) ?_
    show gv_X _ _ (225, [(0, .inr (.inr (some 39))), (1, .inl a1), (2, .inr (.inr (some a2)))], [.inr (.inr (some 1)), .inl (I39 a2 8)], sh, gc_h sh I39 J40 A)
    refine gv_get hD rfl rfl S_1 ⟨by decide, B_1⟩ (gc_hA S_1 rfl A_1_7) ?_
    show gv_X _ _ (228, [(0, .inr (.inr (some 39))), (1, .inl a1), (2, .inr (.inr (some a2)))], [.inr (.inr (some 12)), .inl (I39 a2 8)], sh, gc_h sh I39 J40 A)
    refine gv_run 1 true hD (pc' := 229) (lv' := [(0, .inr (.inr (some 39))), (1, .inl a1), (2, .inr (.inr (some a2)))]) (st' := [.inr (.inr (some a2)), .inr (.inr (some 12)), .inl (I39 a2 8)]) (h' := gc_h sh I39 J40 A) (C := (True ∧ True)) rfl ⟨trivial, trivial⟩ ?_
    have f97 := (show 0 ≤ I39 a2 1 ∧ I39 a2 1 ≤ 95 from gc_in hI39 R_a2 rfl rfl)
    refine gv_get hD rfl rfl S_a2 ⟨by decide, B_a2⟩ (gc_hI S_a2 rfl) ?_
    show gv_X _ _ (232, [(0, .inr (.inr (some 39))), (1, .inl a1), (2, .inr (.inr (some a2)))], [.inl (I39 a2 1), .inr (.inr (some 12)), .inl (I39 a2 8)], sh, gc_h sh I39 J40 A)
    have f98 := (show 0 ≤ I39 12 (Int.toNat (I39 a2 1)) ∧ I39 12 (Int.toNat (I39 a2 1)) ≤ 4 from gc_in hI39 R_12 rfl rfl)
    refine gv_iald hD rfl S_12 rfl ⟨by decide, B_12⟩ ⟨by omega, by omega⟩ (gc_iI S_12 rfl) ?_
    show gv_X _ _ (233, [(0, .inr (.inr (some 39))), (1, .inl a1), (2, .inr (.inr (some a2)))], [.inl (I39 12 (Int.toNat (I39 a2 1))), .inl (I39 a2 8)], sh, gc_h sh I39 J40 A)
    refine gv_icmp_ge (t := 244) hD rfl rfl ⟨⟨by omega, by omega⟩, ⟨by omega, by omega⟩⟩ (fun c99 => ?_) (fun c99 => ?_)
    · show gv_X _ _ (244, [(0, .inr (.inr (some 39))), (1, .inl a1), (2, .inr (.inr (some a2)))], [], sh, gc_h sh I39 J40 A)
      refine gv_run 2 true hD (pc' := 246) (lv' := [(0, .inr (.inr (some 39))), (1, .inl a1), (2, .inr (.inr (some a2)))]) (st' := [.inr (.inr (some 39)), .inr (.inr (some a2))]) (h' := gc_h sh I39 J40 A) (C := ((True ∧ True) ∧ True)) rfl ⟨⟨trivial, trivial⟩, trivial⟩ ?_
      refine gv_get hD rfl rfl S_39 ⟨by decide, B_39⟩ (gc_h5 (t := t) S_39 rfl (by omega)) ?_
      show gv_X _ _ (249, [(0, .inr (.inr (some 39))), (1, .inl a1), (2, .inr (.inr (some a2)))], [.inr (.inr (some t)), .inr (.inr (some a2))], sh, gc_h sh I39 J40 A)
      refine gv_run 1 true hD (pc' := 250) (lv' := [(0, .inr (.inr (some 39))), (1, .inl a1), (2, .inr (.inr (some a2)))]) (st' := [.inr (.inr (some a2)), .inr (.inr (some t)), .inr (.inr (some a2))]) (h' := gc_h sh I39 J40 A) (C := (True ∧ True)) rfl ⟨trivial, trivial⟩ ?_
      have f100 := (show 0 ≤ I39 a2 1 ∧ I39 a2 1 ≤ 95 from gc_in hI39 R_a2 rfl rfl)
      refine gv_get hD rfl rfl S_a2 ⟨by decide, B_a2⟩ (gc_hI S_a2 rfl) ?_
      show gv_X _ _ (253, [(0, .inr (.inr (some 39))), (1, .inl a1), (2, .inr (.inr (some a2)))], [.inl (I39 a2 1), .inr (.inr (some t)), .inr (.inr (some a2))], sh, gc_h sh I39 J40 A)
      obtain ⟨r101, h101, E101, P101⟩ := d_X11_linsOf (ws0 := ws0) (tb := tb) hws htb sh ro I39 J40 A hI39 t (I39 a2 1) h_t   ⟨by omega, by omega⟩ (gc_Ls_fr2 x7 (by omega) (fun i q hi hA hq d k hd => by have h9 := x8 i q hi hA; exact (FI39 (q + d) k).resolve_left (by have := gc_dj_LT h_a2 h_t; obtain ⟨q9, b1, b2, b3, _, _⟩ := x7 i hi; cases b1.symm.trans hA; have b4 := gc_dj_LT b2 h_t; omega))) 
      obtain ⟨rfl, ⟨z101, rfl, q101⟩⟩ := P101
      refine gv_callV hD rfl (As := [.inl (I39 a2 1)]) (st := [.inr (.inr (some a2))]) rfl B_t S_t rfl (gc_lV6 hws rfl) (Nat.le_of_ble_eq_true rfl) (gz_Ev_mono (d := 1) (by decide) E101) ?_
      show gv_X _ _ (256, [(0, .inr (.inr (some 39))), (1, .inl a1), (2, .inr (.inr (some a2)))], [.inl z101, .inr (.inr (some a2))], sh, gc_h sh I39 J40 A)
      refine gv_put hD rfl rfl S_a2 ⟨by decide, B_a2⟩ rfl trivial ?_
      refine gc_st (k := 2) hI39 S_a2 rfl R_a2 (lo := 0) (hi := 384) rfl rfl (by omega) (by omega) (fun I102 hI102 q103 p103 => ?_)
      have FI102 := gc_frs (W := fun q j => (q = 39 ∧ j = 3) ∨ (q = 39 ∧ j = 4) ∨ (q = 23 ∧ j = 5) ∨ (q = 23 ∧ j = 6) ∨ (q = 23 ∧ j = 7) ∨ (q = 23 ∧ j = 8) ∨ (q = 1 ∧ j = 17) ∨ (q = 1 ∧ j = 18) ∨ q = 20 ∨ (q = a2 ∧ j = 0) ∨ (q = a2 ∧ j = 1) ∨ (q = a2 ∧ j = 2) ∨ (q = a2 ∧ j = 3) ∨ (q = a2 ∧ j = 4) ∨ (q = a2 ∧ j = 8) ∨ (q = a2 ∧ j = 12) ∨ (q = a2 ∧ j = 14) ∨ q = (a2 + 1) ∨ q = (a2 + 2) ∨ q = (a2 + 3) ∨ q = (a2 + 4) ∨ q = (a2 + 5) ∨ q = (a2 + 6) ∨ q = (a2 + 7) ∨ q = (a2 + 8) ∨ (q = 39 ∧ j = 6) ∨ (q = 39 ∧ j = 7) ∨ (q = t ∧ j = 13)) FI39 (Or.inr (Or.inr (Or.inr (Or.inr (Or.inr (Or.inr (Or.inr (Or.inr (Or.inr (Or.inr (Or.inr (Or.inl ⟨rfl, rfl⟩)))))))))))) p103
      have t104 := p103 23 1 (fun h => absurd h.2 (by decide))
      have t105 := p103 23 5 (fun h => absurd h.2 (by decide))
      have t106 := p103 23 6 (fun h => absurd h.2 (by decide))
      have t107 := p103 23 7 (fun h => absurd h.2 (by decide))
      have t108 := p103 1 17 (fun h => absurd h.2 (by decide))
      have t109 := p103 a2 0 (fun h => absurd h.2 (by decide))
      have t110 := p103 a2 1 (fun h => absurd h.2 (by decide))
      have t111 := p103 a2 3 (fun h => absurd h.2 (by decide))
      have t112 := p103 a2 4 (fun h => absurd h.2 (by decide))
      have t113 := p103 a2 8 (fun h => absurd h.2 (by decide))
      have t114 := p103 a2 12 (fun h => absurd h.2 (by decide))
      have t115 := p103 a2 14 (fun h => absurd h.2 (by decide))
      have t116 := p103 4 1 (fun h => absurd h.2 (by decide))
      have t117 := p103 t 13 (fun h => absurd h.2 (by decide))
      have t118 := p103 39 2 (fun h => absurd h.1 N_39__a2)
      have KLT_I102 := gc_LT_fr KLT_I39 (p103 23 5 (fun h => absurd h.2 (by decide))) (p103 23 6 (fun h => absurd h.2 (by decide))) (p103 23 7 (fun h => absurd h.2 (by decide))) (fun k => p103 24 k (fun h => absurd h.1 N_24__a2))
      have KTK_I102 := gc_TK_fr KTK_I39 (p103 23 1 (fun h => absurd h.2 (by decide))) (p103 23 5 (fun h => absurd h.2 (by decide))) (p103 23 6 (fun h => absurd h.2 (by decide))) (p103 23 7 (fun h => absurd h.2 (by decide)))
      have KCT_I102 := gc_CT_fr KCT_I39 (p103 a2 8 (fun h => absurd h.2 (by decide))) (fun k => p103 (a2 + 6) k (fun h => absurd h.1 N_a2_6__a2))
      show gv_X _ _ (259, [(0, .inr (.inr (some 39))), (1, .inl a1), (2, .inr (.inr (some a2)))], [], sh, gc_h sh I102 J40 A)
      refine gv_run 1 true hD (pc' := 260) (lv' := [(0, .inr (.inr (some 39))), (1, .inl a1), (2, .inr (.inr (some a2)))]) (st' := [.inr (.inr (some 39))]) (h' := gc_h sh I102 J40 A) (C := (True ∧ True)) rfl ⟨trivial, trivial⟩ ?_
      refine gv_get hD rfl rfl S_39 ⟨by decide, B_39⟩ (gc_hA S_39 rfl A_39_0) ?_
      show gv_X _ _ (263, [(0, .inr (.inr (some 39))), (1, .inl a1), (2, .inr (.inr (some a2)))], [.inr (.inr (some 1))], sh, gc_h sh I102 J40 A)
      have f119 := (show 0 ≤ I102 1 18 ∧ I102 1 18 ≤ 1 from gc_in hI102 R_1 rfl rfl)
      refine gv_get hD rfl rfl S_1 ⟨by decide, B_1⟩ (gc_hI S_1 rfl) ?_
      show gv_X _ _ (266, [(0, .inr (.inr (some 39))), (1, .inl a1), (2, .inr (.inr (some a2)))], [.inl (I102 1 18)], sh, gc_h sh I102 J40 A)
      refine gv_if_ne (t := 295) hD rfl rfl ⟨by omega, by omega⟩ (fun c120 => ?_) (fun c120 => ?_)
      · show gv_X _ _ (295, [(0, .inr (.inr (some 39))), (1, .inl a1), (2, .inr (.inr (some a2)))], [], sh, gc_h sh I102 J40 A)
        refine gv_pick [0] rfl ?_
        exact L295 I102 J40 hI102 FI102 FJ40 KLT_I102 KTK_I102 KCT_I102 (by omega)
      · show gv_X _ _ (269, [(0, .inr (.inr (some 39))), (1, .inl a1), (2, .inr (.inr (some a2)))], [], sh, gc_h sh I102 J40 A)
        refine gv_run 1 true hD (pc' := 270) (lv' := [(0, .inr (.inr (some 39))), (1, .inl a1), (2, .inr (.inr (some a2)))]) (st' := [.inr (.inr (some a2))]) (h' := gc_h sh I102 J40 A) (C := (True ∧ True)) rfl ⟨trivial, trivial⟩ ?_
        have f121 := (show 0 ≤ I102 a2 2 ∧ I102 a2 2 ≤ 384 from gc_in hI102 R_a2 rfl rfl)
        refine gv_get hD rfl rfl S_a2 ⟨by decide, B_a2⟩ (gc_hI S_a2 rfl) ?_
        show gv_X _ _ (273, [(0, .inr (.inr (some 39))), (1, .inl a1), (2, .inr (.inr (some a2)))], [.inl (I102 a2 2)], sh, gc_h sh I102 J40 A)
        refine gv_run 1 true hD (pc' := 274) (lv' := [(0, .inr (.inr (some 39))), (1, .inl a1), (2, .inr (.inr (some a2)))]) (st' := [.inl 4, .inl (I102 a2 2)]) (h' := gc_h sh I102 J40 A) (C := (True ∧ True)) rfl ⟨trivial, trivial⟩ ?_
        refine gv_icmp_ge (t := 295) hD rfl rfl ⟨⟨by omega, by omega⟩, ⟨by omega, by omega⟩⟩ (fun c122 => ?_) (fun c122 => ?_)
        · show gv_X _ _ (295, [(0, .inr (.inr (some 39))), (1, .inl a1), (2, .inr (.inr (some a2)))], [], sh, gc_h sh I102 J40 A)
          refine gv_pick [0] rfl ?_
          exact L295 I102 J40 hI102 FI102 FJ40 KLT_I102 KTK_I102 KCT_I102 (by omega)
        · show gv_X _ _ (277, [(0, .inr (.inr (some 39))), (1, .inl a1), (2, .inr (.inr (some a2)))], [], sh, gc_h sh I102 J40 A)
          refine gv_run 1 true hD (pc' := 278) (lv' := [(0, .inr (.inr (some 39))), (1, .inl a1), (2, .inr (.inr (some a2)))]) (st' := [.inr (.inr (some 39))]) (h' := gc_h sh I102 J40 A) (C := (True ∧ True)) rfl ⟨trivial, trivial⟩ ?_
          refine gv_get hD rfl rfl S_39 ⟨by decide, B_39⟩ (gc_h5 (t := t) S_39 rfl (by omega)) ?_
          show gv_X _ _ (281, [(0, .inr (.inr (some 39))), (1, .inl a1), (2, .inr (.inr (some a2)))], [.inr (.inr (some t))], sh, gc_h sh I102 J40 A)
          have f123 := (show 0 ≤ I102 t 13 ∧ I102 t 13 ≤ 384 from gc_in hI102 R_t rfl rfl)
          refine gv_get hD rfl rfl S_t ⟨by decide, B_t⟩ (gc_hI S_t rfl) ?_
          show gv_X _ _ (284, [(0, .inr (.inr (some 39))), (1, .inl a1), (2, .inr (.inr (some a2)))], [.inl (I102 t 13)], sh, gc_h sh I102 J40 A)
          refine gv_run 1 true hD (pc' := 285) (lv' := [(0, .inr (.inr (some 39))), (1, .inl a1), (2, .inr (.inr (some a2)))]) (st' := [.inr (.inr (some 39)), .inl (I102 t 13)]) (h' := gc_h sh I102 J40 A) (C := (True ∧ True)) rfl ⟨trivial, trivial⟩ ?_
          refine gv_get hD rfl rfl S_39 ⟨by decide, B_39⟩ (gc_h5 (t := t) S_39 rfl (by omega)) ?_
          show gv_X _ _ (288, [(0, .inr (.inr (some 39))), (1, .inl a1), (2, .inr (.inr (some a2)))], [.inr (.inr (some t)), .inl (I102 t 13)], sh, gc_h sh I102 J40 A)
          refine gv_get hD rfl rfl S_t ⟨by decide, B_t⟩ (gc_hA S_t rfl A_t_14) ?_
          show gv_X _ _ (291, [(0, .inr (.inr (some 39))), (1, .inl a1), (2, .inr (.inr (some a2)))], [.inr (.inr (some (t + 16))), .inl (I102 t 13)], sh, gc_h sh I102 J40 A)
          refine gv_len hD rfl S_t_16 ⟨by decide, B_t_16⟩ ?_
          show gv_X _ _ (292, [(0, .inr (.inr (some 39))), (1, .inl a1), (2, .inr (.inr (some a2)))], [.inl 384, .inl (I102 t 13)], sh, gc_h sh I102 J40 A)
          refine gv_icmp_lt (t := 305) hD rfl rfl ⟨⟨by omega, by omega⟩, ⟨by omega, by omega⟩⟩ (fun c124 => ?_) (fun c124 => ?_)
          · show gv_X _ _ (305, [(0, .inr (.inr (some 39))), (1, .inl a1), (2, .inr (.inr (some a2)))], [], sh, gc_h sh I102 J40 A)
            refine gv_run 2 true hD (pc' := 307) (lv' := [(0, .inr (.inr (some 39))), (1, .inl a1), (2, .inr (.inr (some a2)))]) (st' := [.inr (.inr (some 39)), .inr (.inr (some a2))]) (h' := gc_h sh I102 J40 A) (C := ((True ∧ True) ∧ True)) rfl ⟨⟨trivial, trivial⟩, trivial⟩ ?_
            refine gv_get hD rfl rfl S_39 ⟨by decide, B_39⟩ (gc_h5 (t := t) S_39 rfl (by omega)) ?_
            show gv_X _ _ (310, [(0, .inr (.inr (some 39))), (1, .inl a1), (2, .inr (.inr (some a2)))], [.inr (.inr (some t)), .inr (.inr (some a2))], sh, gc_h sh I102 J40 A)
            have f125 := (show 0 ≤ I102 t 13 ∧ I102 t 13 ≤ 384 from gc_in hI102 R_t rfl rfl)
            refine gv_get hD rfl rfl S_t ⟨by decide, B_t⟩ (gc_hI S_t rfl) ?_
            show gv_X _ _ (313, [(0, .inr (.inr (some 39))), (1, .inl a1), (2, .inr (.inr (some a2)))], [.inl (I102 t 13), .inr (.inr (some a2))], sh, gc_h sh I102 J40 A)
            refine gv_put hD rfl rfl S_a2 ⟨by decide, B_a2⟩ rfl trivial ?_
            refine gc_st (k := 0) hI102 S_a2 rfl R_a2 (lo := 0) (hi := 384) rfl rfl (by omega) (by omega) (fun I126 hI126 q127 p127 => ?_)
            have FI126 := gc_frs (W := fun q j => (q = 39 ∧ j = 3) ∨ (q = 39 ∧ j = 4) ∨ (q = 23 ∧ j = 5) ∨ (q = 23 ∧ j = 6) ∨ (q = 23 ∧ j = 7) ∨ (q = 23 ∧ j = 8) ∨ (q = 1 ∧ j = 17) ∨ (q = 1 ∧ j = 18) ∨ q = 20 ∨ (q = a2 ∧ j = 0) ∨ (q = a2 ∧ j = 1) ∨ (q = a2 ∧ j = 2) ∨ (q = a2 ∧ j = 3) ∨ (q = a2 ∧ j = 4) ∨ (q = a2 ∧ j = 8) ∨ (q = a2 ∧ j = 12) ∨ (q = a2 ∧ j = 14) ∨ q = (a2 + 1) ∨ q = (a2 + 2) ∨ q = (a2 + 3) ∨ q = (a2 + 4) ∨ q = (a2 + 5) ∨ q = (a2 + 6) ∨ q = (a2 + 7) ∨ q = (a2 + 8) ∨ (q = 39 ∧ j = 6) ∨ (q = 39 ∧ j = 7) ∨ (q = t ∧ j = 13)) FI102 (Or.inr (Or.inr (Or.inr (Or.inr (Or.inr (Or.inr (Or.inr (Or.inr (Or.inr (Or.inl ⟨rfl, rfl⟩)))))))))) p127
            have t128 := p127 23 1 (fun h => absurd h.2 (by decide))
            have t129 := p127 23 5 (fun h => absurd h.2 (by decide))
            have t130 := p127 23 6 (fun h => absurd h.2 (by decide))
            have t131 := p127 23 7 (fun h => absurd h.2 (by decide))
            have t132 := p127 1 17 (fun h => absurd h.2 (by decide))
            have t133 := p127 a2 1 (fun h => absurd h.2 (by decide))
            have t134 := p127 a2 3 (fun h => absurd h.2 (by decide))
            have t135 := p127 a2 4 (fun h => absurd h.2 (by decide))
            have t136 := p127 a2 8 (fun h => absurd h.2 (by decide))
            have t137 := p127 a2 12 (fun h => absurd h.2 (by decide))
            have t138 := p127 a2 14 (fun h => absurd h.2 (by decide))
            have t139 := p127 4 1 (fun h => absurd h.2 (by decide))
            have t140 := p127 t 13 (fun h => absurd h.2 (by decide))
            have t141 := p127 39 2 (fun h => absurd h.2 (by decide))
            have f142 := (show 0 ≤ I126 a2 0 ∧ I126 a2 0 ≤ 384 from gc_in hI126 R_a2 rfl rfl)
            have KLT_I126 := gc_LT_fr KLT_I102 (p127 23 5 (fun h => absurd h.2 (by decide))) (p127 23 6 (fun h => absurd h.2 (by decide))) (p127 23 7 (fun h => absurd h.2 (by decide))) (fun k => p127 24 k (fun h => absurd h.1 N_24__a2))
            have KTK_I126 := gc_TK_fr KTK_I102 (p127 23 1 (fun h => absurd h.2 (by decide))) (p127 23 5 (fun h => absurd h.2 (by decide))) (p127 23 6 (fun h => absurd h.2 (by decide))) (p127 23 7 (fun h => absurd h.2 (by decide)))
            have KCT_I126 := gc_CT_fr KCT_I102 (p127 a2 8 (fun h => absurd h.2 (by decide))) (fun k => p127 (a2 + 6) k (fun h => absurd h.1 N_a2_6__a2))
            show gv_X _ _ (316, [(0, .inr (.inr (some 39))), (1, .inl a1), (2, .inr (.inr (some a2)))], [], sh, gc_h sh I126 J40 A)
            refine gv_run 1 true hD (pc' := 317) (lv' := [(0, .inr (.inr (some 39))), (1, .inl a1), (2, .inr (.inr (some a2)))]) (st' := [.inr (.inr (some 39))]) (h' := gc_h sh I126 J40 A) (C := (True ∧ True)) rfl ⟨trivial, trivial⟩ ?_
            refine gv_get hD rfl rfl S_39 ⟨by decide, B_39⟩ (gc_h5 (t := t) S_39 rfl (by omega)) ?_
            show gv_X _ _ (320, [(0, .inr (.inr (some 39))), (1, .inl a1), (2, .inr (.inr (some a2)))], [.inr (.inr (some t))], sh, gc_h sh I126 J40 A)
            refine gv_get hD rfl rfl S_t ⟨by decide, B_t⟩ (gc_hA S_t rfl A_t_14) ?_
            show gv_X _ _ (323, [(0, .inr (.inr (some 39))), (1, .inl a1), (2, .inr (.inr (some a2)))], [.inr (.inr (some (t + 16)))], sh, gc_h sh I126 J40 A)
            refine gv_run 1 true hD (pc' := 324) (lv' := [(0, .inr (.inr (some 39))), (1, .inl a1), (2, .inr (.inr (some a2)))]) (st' := [.inr (.inr (some 39)), .inr (.inr (some (t + 16)))]) (h' := gc_h sh I126 J40 A) (C := (True ∧ True)) rfl ⟨trivial, trivial⟩ ?_
            refine gv_get hD rfl rfl S_39 ⟨by decide, B_39⟩ (gc_h5 (t := t) S_39 rfl (by omega)) ?_
            show gv_X _ _ (327, [(0, .inr (.inr (some 39))), (1, .inl a1), (2, .inr (.inr (some a2)))], [.inr (.inr (some t)), .inr (.inr (some (t + 16)))], sh, gc_h sh I126 J40 A)
            refine gv_run 1 true hD (pc' := 328) (lv' := [(0, .inr (.inr (some 39))), (1, .inl a1), (2, .inr (.inr (some a2)))]) (st' := [.inr (.inr (some t)), .inr (.inr (some t)), .inr (.inr (some (t + 16)))]) (h' := gc_h sh I126 J40 A) (C := (True ∧ True)) rfl ⟨trivial, trivial⟩ ?_
            have f143 := (show 0 ≤ I126 t 13 ∧ I126 t 13 ≤ 384 from gc_in hI126 R_t rfl rfl)
            refine gv_get hD rfl rfl S_t ⟨by decide, B_t⟩ (gc_hI S_t rfl) ?_
            show gv_X _ _ (331, [(0, .inr (.inr (some 39))), (1, .inl a1), (2, .inr (.inr (some a2)))], [.inl (I126 t 13), .inr (.inr (some t)), .inr (.inr (some (t + 16)))], sh, gc_h sh I126 J40 A)
            refine gv_run 3 true hD (pc' := 334) (lv' := [(0, .inr (.inr (some 39))), (1, .inl a1), (2, .inr (.inr (some a2)))]) (st' := [.inl ((I126 t 13) + 1), .inr (.inr (some t)), .inl (I126 t 13), .inr (.inr (some (t + 16)))]) (h' := gc_h sh I126 J40 A) (C := (((True ∧ True) ∧ True) ∧ True)) rfl ⟨⟨⟨trivial, trivial⟩, trivial⟩, trivial⟩ ?_
            refine gv_put hD rfl rfl S_t ⟨by decide, B_t⟩ rfl trivial ?_
            refine gc_st (k := 13) hI126 S_t rfl R_t (lo := 0) (hi := 384) rfl rfl (by omega) (by omega) (fun I144 hI144 q145 p145 => ?_)
            have FI144 := gc_frs (W := fun q j => (q = 39 ∧ j = 3) ∨ (q = 39 ∧ j = 4) ∨ (q = 23 ∧ j = 5) ∨ (q = 23 ∧ j = 6) ∨ (q = 23 ∧ j = 7) ∨ (q = 23 ∧ j = 8) ∨ (q = 1 ∧ j = 17) ∨ (q = 1 ∧ j = 18) ∨ q = 20 ∨ (q = a2 ∧ j = 0) ∨ (q = a2 ∧ j = 1) ∨ (q = a2 ∧ j = 2) ∨ (q = a2 ∧ j = 3) ∨ (q = a2 ∧ j = 4) ∨ (q = a2 ∧ j = 8) ∨ (q = a2 ∧ j = 12) ∨ (q = a2 ∧ j = 14) ∨ q = (a2 + 1) ∨ q = (a2 + 2) ∨ q = (a2 + 3) ∨ q = (a2 + 4) ∨ q = (a2 + 5) ∨ q = (a2 + 6) ∨ q = (a2 + 7) ∨ q = (a2 + 8) ∨ (q = 39 ∧ j = 6) ∨ (q = 39 ∧ j = 7) ∨ (q = t ∧ j = 13)) FI126 (Or.inr (Or.inr (Or.inr (Or.inr (Or.inr (Or.inr (Or.inr (Or.inr (Or.inr (Or.inr (Or.inr (Or.inr (Or.inr (Or.inr (Or.inr (Or.inr (Or.inr (Or.inr (Or.inr (Or.inr (Or.inr (Or.inr (Or.inr (Or.inr (Or.inr (Or.inr (Or.inr ⟨rfl, rfl⟩))))))))))))))))))))))))))) p145
            have t146 := p145 23 1 (fun h => absurd h.2 (by decide))
            have t147 := p145 23 5 (fun h => absurd h.2 (by decide))
            have t148 := p145 23 6 (fun h => absurd h.2 (by decide))
            have t149 := p145 23 7 (fun h => absurd h.2 (by decide))
            have t150 := p145 1 17 (fun h => absurd h.2 (by decide))
            have t151 := p145 a2 0 (fun h => absurd h.2 (by decide))
            have t152 := p145 a2 1 (fun h => absurd h.2 (by decide))
            have t153 := p145 a2 3 (fun h => absurd h.2 (by decide))
            have t154 := p145 a2 4 (fun h => absurd h.2 (by decide))
            have t155 := p145 a2 8 (fun h => absurd h.2 (by decide))
            have t156 := p145 a2 12 (fun h => absurd h.2 (by decide))
            have t157 := p145 a2 14 (fun h => absurd h.2 (by decide))
            have t158 := p145 4 1 (fun h => absurd h.2 (by decide))
            have t159 := p145 39 2 (fun h => absurd h.2 (by decide))
            have f160 := (show 0 ≤ I144 t 13 ∧ I144 t 13 ≤ 384 from gc_in hI144 R_t rfl rfl)
            have KLT_I144 := gc_LT_fr KLT_I126 (p145 23 5 (fun h => absurd h.2 (by decide))) (p145 23 6 (fun h => absurd h.2 (by decide))) (p145 23 7 (fun h => absurd h.2 (by decide))) (fun k => p145 24 k (fun h => absurd h.1 N_24__t))
            have KTK_I144 := gc_TK_fr KTK_I126 (p145 23 1 (fun h => absurd h.2 (by decide))) (p145 23 5 (fun h => absurd h.2 (by decide))) (p145 23 6 (fun h => absurd h.2 (by decide))) (p145 23 7 (fun h => absurd h.2 (by decide)))
            have KCT_I144 := gc_CT_fr KCT_I126 (p145 a2 8 (fun h => absurd h.2 (by decide))) (fun k => p145 (a2 + 6) k (fun h => absurd h.1 N_a2_6__t))
            show gv_X _ _ (337, [(0, .inr (.inr (some 39))), (1, .inl a1), (2, .inr (.inr (some a2)))], [.inl (I126 t 13), .inr (.inr (some (t + 16)))], sh, gc_h sh I144 J40 A)
            have t161 := (show I144 12 (Int.toNat (I144 a2 1)) = I39 12 (Int.toNat (I39 a2 1)) from by rw [show I144 a2 1 = I39 a2 1 from by omega]; exact (((p145 12 _ (fun h => absurd h.1 (by omega))).trans (p127 12 _ (fun h => absurd h.1 (by omega)))).trans (p103 12 _ (fun h => absurd h.1 (by omega)))))
            refine gv_run 1 true hD (pc' := 338) (lv' := [(0, .inr (.inr (some 39))), (1, .inl a1), (2, .inr (.inr (some a2)))]) (st' := [.inr (.inr (some a2)), .inl (I126 t 13), .inr (.inr (some (t + 16)))]) (h' := gc_h sh I144 J40 A) (C := (True ∧ True)) rfl ⟨trivial, trivial⟩ ?_
            refine gv_pick [] rfl ?_
            exact L338 I144 J40 (I126 t 13) hI144 FI144 FJ40 KLT_I144 KTK_I144 KCT_I144 (by omega) (by rw [show I144 a2 4 = I39 a2 4 from by omega]; exact (gc_LI_fr e0_41 ((((p145 a2 1 (fun h => absurd h.1 (by omega))).trans (p127 a2 1 (fun h => absurd h.1 (by omega)))).trans (p103 a2 1 (fun h => absurd h.1 (by omega))))) ((((p145 a2 8 (fun h => absurd h.1 (by omega))).trans (p127 a2 8 (fun h => absurd h.1 (by omega)))).trans (p103 a2 8 (fun h => absurd h.1 (by omega))))) (fun k => (((p145 (a2 + 1) k (fun h => absurd h.1 (by omega))).trans (p127 (a2 + 1) k (fun h => absurd h.1 (by omega)))).trans (p103 (a2 + 1) k (fun h => absurd h.1 (by omega))))) (fun k => (((p145 (a2 + 4) k (fun h => absurd h.1 (by omega))).trans (p127 (a2 + 4) k (fun h => absurd h.1 (by omega)))).trans (p103 (a2 + 4) k (fun h => absurd h.1 (by omega))))) (fun k => (((p145 (a2 + 6) k (fun h => absurd h.1 (by omega))).trans (p127 (a2 + 6) k (fun h => absurd h.1 (by omega)))).trans (p103 (a2 + 6) k (fun h => absurd h.1 (by omega))))) (fun k => (((p145 12 k (fun h => absurd h.1 (by omega))).trans (p127 12 k (fun h => absurd h.1 (by omega)))).trans (p103 12 k (fun h => absurd h.1 (by omega))))))) (gc_UN_fr e1_41 ((((p145 a2 4 (fun h => absurd h.1 (by omega))).trans (p127 a2 4 (fun h => by have := h.2; omega))).trans (p103 a2 4 (fun h => by have := h.2; omega)))) ((((p145 a2 1 (fun h => absurd h.1 (by omega))).trans (p127 a2 1 (fun h => by have := h.2; omega))).trans (p103 a2 1 (fun h => by have := h.2; omega)))) ((((p145 (a2 + 1) 0 (fun h => absurd h.1 (by omega))).trans (p127 (a2 + 1) 0 (fun h => absurd h.1 (by omega)))).trans (p103 (a2 + 1) 0 (fun h => absurd h.1 (by omega))))) (fun k => (((p145 11 k (fun h => absurd h.1 (by omega))).trans (p127 11 k (fun h => absurd h.1 (by omega)))).trans (p103 11 k (fun h => absurd h.1 (by omega))))) (fun k => (((p145 13 k (fun h => absurd h.1 (by omega))).trans (p127 13 k (fun h => absurd h.1 (by omega)))).trans (p103 13 k (fun h => absurd h.1 (by omega))))))
          · show gv_X _ _ (295, [(0, .inr (.inr (some 39))), (1, .inl a1), (2, .inr (.inr (some a2)))], [], sh, gc_h sh I102 J40 A)
            refine gv_pick [0] rfl ?_
            exact L295 I102 J40 hI102 FI102 FJ40 KLT_I102 KTK_I102 KCT_I102 (by omega)
    · show gv_X _ _ (236, [(0, .inr (.inr (some 39))), (1, .inl a1), (2, .inr (.inr (some a2)))], [], sh, gc_h sh I39 J40 A)
      refine gv_run 3 true hD (pc' := 240) (lv' := [(0, .inr (.inr (some 39))), (1, .inl a1), (2, .inr (.inr (some a2)))]) (st' := [.inl a1, .inl 6, .inr (.inr (some 39))]) (h' := gc_h sh I39 J40 A) (C := (((True ∧ True) ∧ True) ∧ True)) rfl ⟨⟨⟨trivial, trivial⟩, trivial⟩, trivial⟩ ?_
      obtain ⟨r162, h162, E162, P162⟩ := d_X6_wrong (ws0 := ws0) (tb := tb) hws htb sh ro I39 J40 A hI39  6 a1 hb   ⟨by omega, by omega⟩ ⟨by omega, by omega⟩  
      obtain ⟨I163, J164, rfl, hI163, g162, k162, ⟨z162, rfl, q162⟩⟩ := P162
      have FI163 := gc_frc (W := fun q j => (q = 39 ∧ j = 3) ∨ (q = 39 ∧ j = 4) ∨ (q = 23 ∧ j = 5) ∨ (q = 23 ∧ j = 6) ∨ (q = 23 ∧ j = 7) ∨ (q = 23 ∧ j = 8) ∨ (q = 1 ∧ j = 17) ∨ (q = 1 ∧ j = 18) ∨ q = 20 ∨ (q = a2 ∧ j = 0) ∨ (q = a2 ∧ j = 1) ∨ (q = a2 ∧ j = 2) ∨ (q = a2 ∧ j = 3) ∨ (q = a2 ∧ j = 4) ∨ (q = a2 ∧ j = 8) ∨ (q = a2 ∧ j = 12) ∨ (q = a2 ∧ j = 14) ∨ q = (a2 + 1) ∨ q = (a2 + 2) ∨ q = (a2 + 3) ∨ q = (a2 + 4) ∨ q = (a2 + 5) ∨ q = (a2 + 6) ∨ q = (a2 + 7) ∨ q = (a2 + 8) ∨ (q = 39 ∧ j = 6) ∨ (q = 39 ∧ j = 7) ∨ (q = t ∧ j = 13)) (V := fun q j => (q = 39 ∧ j = 3) ∨ (q = 39 ∧ j = 4)) FI39 (fun q j h => (h.elim (fun h => (Or.inl h)) (fun h => (Or.inr (Or.inl h))))) g162
      have t165 := (g162 23 1).resolve_left (fun h => h.elim (fun h => absurd h.2 (by decide)) (fun h => absurd h.2 (by decide)))
      have t166 := (g162 23 5).resolve_left (fun h => h.elim (fun h => absurd h.2 (by decide)) (fun h => absurd h.2 (by decide)))
      have t167 := (g162 23 6).resolve_left (fun h => h.elim (fun h => absurd h.2 (by decide)) (fun h => absurd h.2 (by decide)))
      have t168 := (g162 23 7).resolve_left (fun h => h.elim (fun h => absurd h.2 (by decide)) (fun h => absurd h.2 (by decide)))
      have t169 := (g162 1 17).resolve_left (fun h => h.elim (fun h => absurd h.2 (by decide)) (fun h => absurd h.2 (by decide)))
      have t170 := (g162 a2 0).resolve_left (fun h => h.elim (fun h => absurd h.2 (by decide)) (fun h => absurd h.2 (by decide)))
      have t171 := (g162 a2 1).resolve_left (fun h => h.elim (fun h => absurd h.2 (by decide)) (fun h => absurd h.2 (by decide)))
      have t172 := (g162 a2 3).resolve_left (fun h => h.elim (fun h => absurd h.1 N_a2__39) (fun h => absurd h.2 (by decide)))
      have t173 := (g162 a2 4).resolve_left (fun h => h.elim (fun h => absurd h.2 (by decide)) (fun h => absurd h.1 N_a2__39))
      have t174 := (g162 a2 8).resolve_left (fun h => h.elim (fun h => absurd h.2 (by decide)) (fun h => absurd h.2 (by decide)))
      have t175 := (g162 a2 12).resolve_left (fun h => h.elim (fun h => absurd h.2 (by decide)) (fun h => absurd h.2 (by decide)))
      have t176 := (g162 a2 14).resolve_left (fun h => h.elim (fun h => absurd h.2 (by decide)) (fun h => absurd h.2 (by decide)))
      have t177 := (g162 4 1).resolve_left (fun h => h.elim (fun h => absurd h.2 (by decide)) (fun h => absurd h.2 (by decide)))
      have t178 := (g162 t 13).resolve_left (fun h => h.elim (fun h => absurd h.2 (by decide)) (fun h => absurd h.2 (by decide)))
      have t179 := (g162 39 2).resolve_left (fun h => h.elim (fun h => absurd h.2 (by decide)) (fun h => absurd h.2 (by decide)))
      obtain rfl : J40 = J164 := funext fun q => funext fun j => ((k162 q j).resolve_left id).symm
      have KLT_I163 := gc_LT_fr KLT_I39 ((g162 23 5).resolve_left (fun h => h.elim (fun h => absurd h.2 (by decide)) (fun h => absurd h.2 (by decide)))) ((g162 23 6).resolve_left (fun h => h.elim (fun h => absurd h.2 (by decide)) (fun h => absurd h.2 (by decide)))) ((g162 23 7).resolve_left (fun h => h.elim (fun h => absurd h.2 (by decide)) (fun h => absurd h.2 (by decide)))) (fun k => (g162 24 k).resolve_left (fun h => h.elim (fun h => absurd h.1 (by decide)) (fun h => absurd h.1 (by decide))))
      have KTK_I163 := gc_TK_fr KTK_I39 ((g162 23 1).resolve_left (fun h => h.elim (fun h => absurd h.2 (by decide)) (fun h => absurd h.2 (by decide)))) ((g162 23 5).resolve_left (fun h => h.elim (fun h => absurd h.2 (by decide)) (fun h => absurd h.2 (by decide)))) ((g162 23 6).resolve_left (fun h => h.elim (fun h => absurd h.2 (by decide)) (fun h => absurd h.2 (by decide)))) ((g162 23 7).resolve_left (fun h => h.elim (fun h => absurd h.2 (by decide)) (fun h => absurd h.2 (by decide))))
      have KCT_I163 := gc_CT_fr KCT_I39 ((g162 a2 8).resolve_left (fun h => h.elim (fun h => absurd h.2 (by decide)) (fun h => absurd h.2 (by decide)))) (fun k => (g162 (a2 + 6) k).resolve_left (fun h => h.elim (fun h => absurd h.1 N_a2_6__39) (fun h => absurd h.1 N_a2_6__39)))
      refine gv_callV hD rfl (As := [.inl 6, .inl a1]) (st := []) rfl B_39 S_39 rfl (gc_lV6 hws rfl) (Nat.le_of_ble_eq_true rfl) (gz_Ev_mono (d := 1) (by decide) E162) ?_
      show gv_X _ _ (243, [(0, .inr (.inr (some 39))), (1, .inl a1), (2, .inr (.inr (some a2)))], [.inl z162], sh, gc_h sh I163 J40 A)
      exact gv_Xm hQ (gv_zret hD rfl (by omega) ⟨I163, J40, rfl, hI163, FI163, FJ40, KLT_I163, KTK_I163, ⟨_, rfl, by omega⟩⟩)
  refine gv_run 2 true hD (pc' := 34) (lv' := [(0, .inr (.inr (some 39))), (1, .inl a1), (2, .inr (.inr (some a2)))]) (st' := [.inr (.inr (some 39)), .inr (.inr (some a2))]) (h' := gc_h sh I J A) (C := ((True ∧ True) ∧ True)) rfl ⟨⟨trivial, trivial⟩, trivial⟩ ?_
  refine gv_get hD rfl rfl S_39 ⟨by decide, B_39⟩ (gc_hA S_39 rfl A_39_0) ?_
  show gv_X _ _ (37, [(0, .inr (.inr (some 39))), (1, .inl a1), (2, .inr (.inr (some a2)))], [.inr (.inr (some 1)), .inr (.inr (some a2))], sh, gc_h sh I J A)
  refine gv_get hD rfl rfl S_1 ⟨by decide, B_1⟩ (gc_hA S_1 rfl A_1_1) ?_
  show gv_X _ _ (40, [(0, .inr (.inr (some 39))), (1, .inl a1), (2, .inr (.inr (some a2)))], [.inr (.inr (some 4)), .inr (.inr (some a2))], sh, gc_h sh I J A)
  refine gv_run 1 true hD (pc' := 41) (lv' := [(0, .inr (.inr (some 39))), (1, .inl a1), (2, .inr (.inr (some a2)))]) (st' := [.inr (.inr (some 39)), .inr (.inr (some 4)), .inr (.inr (some a2))]) (h' := gc_h sh I J A) (C := (True ∧ True)) rfl ⟨trivial, trivial⟩ ?_
  refine gv_get hD rfl rfl S_39 ⟨by decide, B_39⟩ (gc_hA S_39 rfl A_39_1) ?_
  show gv_X _ _ (44, [(0, .inr (.inr (some 39))), (1, .inl a1), (2, .inr (.inr (some a2)))], [.inr (.inr (some 23)), .inr (.inr (some 4)), .inr (.inr (some a2))], sh, gc_h sh I J A)
  refine gv_get hD rfl rfl S_23 ⟨by decide, B_23⟩ (gc_hJ S_23 rfl) ?_
  show gv_X _ _ (47, [(0, .inr (.inr (some 39))), (1, .inl a1), (2, .inr (.inr (some a2)))], [.inr (.inl (J 23 9)), .inr (.inr (some 4)), .inr (.inr (some a2))], sh, gc_h sh I J A)
  obtain ⟨r180, h180, E180, P180⟩ := d_X4_find (ws0 := ws0) (tb := tb) hws htb sh ro I J A hI 4 96 11 (J 23 9) (gc_b4 hb)     
  obtain ⟨rfl, ⟨z180, rfl, q180⟩⟩ := P180
  refine gv_callV hD rfl (As := [.inr (.inl (J 23 9))]) (st := [.inr (.inr (some a2))]) rfl B_4 S_4 rfl (gc_lV6 hws rfl) (Nat.le_of_ble_eq_true rfl) (gz_Ev_mono (d := 1) (by decide) E180) ?_
  show gv_X _ _ (50, [(0, .inr (.inr (some 39))), (1, .inl a1), (2, .inr (.inr (some a2)))], [.inl z180, .inr (.inr (some a2))], sh, gc_h sh I J A)
  refine gv_put hD rfl rfl S_a2 ⟨by decide, B_a2⟩ rfl trivial ?_
  refine gc_st (k := 1) hI S_a2 rfl R_a2 (lo := 0) (hi := 95) rfl rfl (by omega) (by omega) (fun I181 hI181 q182 p182 => ?_)
  have FI181 := gc_frs (W := fun q j => (q = 39 ∧ j = 3) ∨ (q = 39 ∧ j = 4) ∨ (q = 23 ∧ j = 5) ∨ (q = 23 ∧ j = 6) ∨ (q = 23 ∧ j = 7) ∨ (q = 23 ∧ j = 8) ∨ (q = 1 ∧ j = 17) ∨ (q = 1 ∧ j = 18) ∨ q = 20 ∨ (q = a2 ∧ j = 0) ∨ (q = a2 ∧ j = 1) ∨ (q = a2 ∧ j = 2) ∨ (q = a2 ∧ j = 3) ∨ (q = a2 ∧ j = 4) ∨ (q = a2 ∧ j = 8) ∨ (q = a2 ∧ j = 12) ∨ (q = a2 ∧ j = 14) ∨ q = (a2 + 1) ∨ q = (a2 + 2) ∨ q = (a2 + 3) ∨ q = (a2 + 4) ∨ q = (a2 + 5) ∨ q = (a2 + 6) ∨ q = (a2 + 7) ∨ q = (a2 + 8) ∨ (q = 39 ∧ j = 6) ∨ (q = 39 ∧ j = 7) ∨ (q = t ∧ j = 13)) FI (Or.inr (Or.inr (Or.inr (Or.inr (Or.inr (Or.inr (Or.inr (Or.inr (Or.inr (Or.inr (Or.inl ⟨rfl, rfl⟩))))))))))) p182
  have t183 := p182 23 1 (fun h => absurd h.1 N_23__a2)
  have t184 := p182 23 5 (fun h => absurd h.2 (by decide))
  have t185 := p182 23 6 (fun h => absurd h.2 (by decide))
  have t186 := p182 23 7 (fun h => absurd h.2 (by decide))
  have t187 := p182 1 17 (fun h => absurd h.2 (by decide))
  have t188 := p182 a2 0 (fun h => absurd h.2 (by decide))
  have t189 := p182 a2 3 (fun h => absurd h.2 (by decide))
  have t190 := p182 a2 4 (fun h => absurd h.2 (by decide))
  have t191 := p182 a2 8 (fun h => absurd h.2 (by decide))
  have t192 := p182 a2 12 (fun h => absurd h.2 (by decide))
  have t193 := p182 a2 14 (fun h => absurd h.2 (by decide))
  have t194 := p182 4 1 (fun h => absurd h.1 N_4__a2)
  have t195 := p182 t 13 (fun h => absurd h.2 (by decide))
  have t196 := p182 39 2 (fun h => absurd h.2 (by decide))
  have f197 := (show 0 ≤ I181 a2 1 ∧ I181 a2 1 ≤ 95 from gc_in hI181 R_a2 rfl rfl)
  have KLT_I181 := gc_LT_fr KLT_I (p182 23 5 (fun h => absurd h.2 (by decide))) (p182 23 6 (fun h => absurd h.2 (by decide))) (p182 23 7 (fun h => absurd h.2 (by decide))) (fun k => p182 24 k (fun h => absurd h.1 N_24__a2))
  have KTK_I181 := gc_TK_fr KTK_I (p182 23 1 (fun h => absurd h.1 N_23__a2)) (p182 23 5 (fun h => absurd h.2 (by decide))) (p182 23 6 (fun h => absurd h.2 (by decide))) (p182 23 7 (fun h => absurd h.2 (by decide)))
  show gv_X _ _ (53, [(0, .inr (.inr (some 39))), (1, .inl a1), (2, .inr (.inr (some a2)))], [], sh, gc_h sh I181 J A)
  refine gv_run 1 true hD (pc' := 54) (lv' := [(0, .inr (.inr (some 39))), (1, .inl a1), (2, .inr (.inr (some a2)))]) (st' := [.inr (.inr (some a2))]) (h' := gc_h sh I181 J A) (C := (True ∧ True)) rfl ⟨trivial, trivial⟩ ?_
  refine gv_get hD rfl rfl S_a2 ⟨by decide, B_a2⟩ (gc_hA S_a2 rfl A_a2_11) ?_
  show gv_X _ _ (57, [(0, .inr (.inr (some 39))), (1, .inl a1), (2, .inr (.inr (some a2)))], [.inr (.inr (some (a2 + 6)))], sh, gc_h sh I181 J A)
  refine gv_run 1 true hD (pc' := 58) (lv' := [(0, .inr (.inr (some 39))), (1, .inl a1), (2, .inr (.inr (some a2)))]) (st' := [.inl (-1), .inr (.inr (some (a2 + 6)))]) (h' := gc_h sh I181 J A) (C := (True ∧ True)) rfl ⟨trivial, trivial⟩ ?_
  obtain ⟨I199, E198, hI199, g198, q198⟩ := gj_fill (ws0 := ws0) (tb := tb) sh ro I181 J A hI181 (a2 + 6) 4 (-1) S_a2_6 B_a2_6 (by decide) ⟨by omega, by omega⟩ (fun k => by rw [R_a2_6]; exact ⟨by show (-1) ≤ _; omega, by show _ ≤ 3; omega⟩)
  refine gv_callS hD rfl (As := [.inr (.inr (some (a2 + 6))), .inl (-1)]) (st := []) rfl (gc_lS6 hws rfl) (Nat.le_of_ble_eq_true rfl) (gz_Ev_mono (d := 1) (by decide) E198) ?_
  have FI199 := gc_frc (W := fun q j => (q = 39 ∧ j = 3) ∨ (q = 39 ∧ j = 4) ∨ (q = 23 ∧ j = 5) ∨ (q = 23 ∧ j = 6) ∨ (q = 23 ∧ j = 7) ∨ (q = 23 ∧ j = 8) ∨ (q = 1 ∧ j = 17) ∨ (q = 1 ∧ j = 18) ∨ q = 20 ∨ (q = a2 ∧ j = 0) ∨ (q = a2 ∧ j = 1) ∨ (q = a2 ∧ j = 2) ∨ (q = a2 ∧ j = 3) ∨ (q = a2 ∧ j = 4) ∨ (q = a2 ∧ j = 8) ∨ (q = a2 ∧ j = 12) ∨ (q = a2 ∧ j = 14) ∨ q = (a2 + 1) ∨ q = (a2 + 2) ∨ q = (a2 + 3) ∨ q = (a2 + 4) ∨ q = (a2 + 5) ∨ q = (a2 + 6) ∨ q = (a2 + 7) ∨ q = (a2 + 8) ∨ (q = 39 ∧ j = 6) ∨ (q = 39 ∧ j = 7) ∨ (q = t ∧ j = 13)) (V := fun q j => q = (a2 + 6)) FI181 (fun q j h => (Or.inr (Or.inr (Or.inr (Or.inr (Or.inr (Or.inr (Or.inr (Or.inr (Or.inr (Or.inr (Or.inr (Or.inr (Or.inr (Or.inr (Or.inr (Or.inr (Or.inr (Or.inr (Or.inr (Or.inr (Or.inr (Or.inr (Or.inl h)))))))))))))))))))))))) g198
  have KLT_I199 := gc_LT_fr KLT_I181 ((g198 23 5).resolve_left (fun h => absurd h N_23__a2_6)) ((g198 23 6).resolve_left (fun h => absurd h N_23__a2_6)) ((g198 23 7).resolve_left (fun h => absurd h N_23__a2_6)) (fun k => (g198 24 k).resolve_left (fun h => absurd h N_24__a2_6))
  have KTK_I199 := gc_TK_fr KTK_I181 ((g198 23 1).resolve_left (fun h => absurd h N_23__a2_6)) ((g198 23 5).resolve_left (fun h => absurd h N_23__a2_6)) ((g198 23 6).resolve_left (fun h => absurd h N_23__a2_6)) ((g198 23 7).resolve_left (fun h => absurd h N_23__a2_6))
  have KCT_I199 : gc_CT a2 I199 := gc_CT_0 (((g198 a2 8).resolve_left (by omega)).trans (by omega)) q198
  have t201 := (g198 23 1).resolve_left (fun h => absurd h N_23__a2_6)
  have t202 := (g198 23 5).resolve_left (fun h => absurd h N_23__a2_6)
  have t203 := (g198 23 6).resolve_left (fun h => absurd h N_23__a2_6)
  have t204 := (g198 23 7).resolve_left (fun h => absurd h N_23__a2_6)
  have t205 := (g198 1 17).resolve_left (fun h => absurd h N_1__a2_6)
  have t206 := (g198 a2 0).resolve_left (fun h => absurd h N_a2__a2_6)
  have t207 := (g198 a2 1).resolve_left (fun h => absurd h N_a2__a2_6)
  have t208 := (g198 a2 3).resolve_left (fun h => absurd h N_a2__a2_6)
  have t209 := (g198 a2 4).resolve_left (fun h => absurd h N_a2__a2_6)
  have t210 := (g198 a2 8).resolve_left (fun h => absurd h N_a2__a2_6)
  have t211 := (g198 a2 12).resolve_left (fun h => absurd h N_a2__a2_6)
  have t212 := (g198 a2 14).resolve_left (fun h => absurd h N_a2__a2_6)
  have t213 := (g198 4 1).resolve_left (fun h => absurd h N_4__a2_6)
  have t214 := (g198 t 13).resolve_left (fun h => absurd h N_t__a2_6)
  have t215 := (g198 39 2).resolve_left (fun h => absurd h N_39__a2_6)
  have t216 := gc_TK_mo KTK_I199
  have f217 := (show 0 ≤ I199 23 1 ∧ I199 23 1 ≤ 1000 from gc_in hI199 R_23 rfl rfl)
  have f218 := (show 0 ≤ I199 23 5 ∧ I199 23 5 ≤ 1000 from gc_in hI199 R_23 rfl rfl)
  have f219 := (show 0 ≤ I199 23 6 ∧ I199 23 6 ≤ 1001 from gc_in hI199 R_23 rfl rfl)
  have f220 := (show 0 ≤ I199 23 7 ∧ I199 23 7 ≤ 125 from gc_in hI199 R_23 rfl rfl)
  have f221 := (show 0 ≤ I199 1 17 ∧ I199 1 17 ≤ 12000 from gc_in hI199 R_1 rfl rfl)
  have f222 := (show 0 ≤ I199 a2 0 ∧ I199 a2 0 ≤ 384 from gc_in hI199 R_a2 rfl rfl)
  have f223 := (show 0 ≤ I199 a2 1 ∧ I199 a2 1 ≤ 95 from gc_in hI199 R_a2 rfl rfl)
  have f224 := (show 0 ≤ I199 a2 3 ∧ I199 a2 3 ≤ 10000 from gc_in hI199 R_a2 rfl rfl)
  have f225 := (show 0 ≤ I199 a2 4 ∧ I199 a2 4 ≤ 6 from gc_in hI199 R_a2 rfl rfl)
  have f226 := (show 0 ≤ I199 a2 8 ∧ I199 a2 8 ≤ 4 from gc_in hI199 R_a2 rfl rfl)
  have f227 := (show 0 ≤ I199 a2 12 ∧ I199 a2 12 ≤ 6 from gc_in hI199 R_a2 rfl rfl)
  have f228 := (show 0 ≤ I199 a2 14 ∧ I199 a2 14 ≤ 6 from gc_in hI199 R_a2 rfl rfl)
  have f229 := (show 0 ≤ I199 4 1 ∧ I199 4 1 ≤ 96 from gc_in hI199 R_4 rfl rfl)
  have f230 := (show 0 ≤ I199 t 13 ∧ I199 t 13 ≤ 384 from gc_in hI199 R_t rfl rfl)
  have f231 := (show (-1) ≤ I199 39 2 ∧ I199 39 2 ≤ 999999 from gc_in hI199 R_39 rfl rfl)
  show gv_X _ _ (61, [(0, .inr (.inr (some 39))), (1, .inl a1), (2, .inr (.inr (some a2)))], [], sh, gc_h sh I199 J A)
  refine gv_run 1 true hD (pc' := 62) (lv' := [(0, .inr (.inr (some 39))), (1, .inl a1), (2, .inr (.inr (some a2)))]) (st' := [.inr (.inr (some 39))]) (h' := gc_h sh I199 J A) (C := (True ∧ True)) rfl ⟨trivial, trivial⟩ ?_
  refine gv_get hD rfl rfl S_39 ⟨by decide, B_39⟩ (gc_hA S_39 rfl A_39_0) ?_
  show gv_X _ _ (65, [(0, .inr (.inr (some 39))), (1, .inl a1), (2, .inr (.inr (some a2)))], [.inr (.inr (some 1))], sh, gc_h sh I199 J A)
  refine gv_get hD rfl rfl S_1 ⟨by decide, B_1⟩ (gc_hA S_1 rfl A_1_7) ?_
  show gv_X _ _ (68, [(0, .inr (.inr (some 39))), (1, .inl a1), (2, .inr (.inr (some a2)))], [.inr (.inr (some 12))], sh, gc_h sh I199 J A)
  refine gv_run 1 true hD (pc' := 69) (lv' := [(0, .inr (.inr (some 39))), (1, .inl a1), (2, .inr (.inr (some a2)))]) (st' := [.inr (.inr (some a2)), .inr (.inr (some 12))]) (h' := gc_h sh I199 J A) (C := (True ∧ True)) rfl ⟨trivial, trivial⟩ ?_
  have f232 := (show 0 ≤ I199 a2 1 ∧ I199 a2 1 ≤ 95 from gc_in hI199 R_a2 rfl rfl)
  refine gv_get hD rfl rfl S_a2 ⟨by decide, B_a2⟩ (gc_hI S_a2 rfl) ?_
  show gv_X _ _ (72, [(0, .inr (.inr (some 39))), (1, .inl a1), (2, .inr (.inr (some a2)))], [.inl (I199 a2 1), .inr (.inr (some 12))], sh, gc_h sh I199 J A)
  have f233 := (show 0 ≤ I199 12 (Int.toNat (I199 a2 1)) ∧ I199 12 (Int.toNat (I199 a2 1)) ≤ 4 from gc_in hI199 R_12 rfl rfl)
  refine gv_iald hD rfl S_12 rfl ⟨by decide, B_12⟩ ⟨by omega, by omega⟩ (gc_iI S_12 rfl) ?_
  show gv_X _ _ (73, [(0, .inr (.inr (some 39))), (1, .inl a1), (2, .inr (.inr (some a2)))], [.inl (I199 12 (Int.toNat (I199 a2 1)))], sh, gc_h sh I199 J A)
  refine gv_if_ne (t := 89) hD rfl rfl ⟨by omega, by omega⟩ (fun c234 => ?_) (fun c234 => ?_)
  · show gv_X _ _ (89, [(0, .inr (.inr (some 39))), (1, .inl a1), (2, .inr (.inr (some a2)))], [], sh, gc_h sh I199 J A)
    refine gv_run 1 true hD (pc' := 90) (lv' := [(0, .inr (.inr (some 39))), (1, .inl a1), (2, .inr (.inr (some a2)))]) (st' := [.inr (.inr (some 39))]) (h' := gc_h sh I199 J A) (C := (True ∧ True)) rfl ⟨trivial, trivial⟩ ?_
    refine gv_get hD rfl rfl S_39 ⟨by decide, B_39⟩ (gc_hA S_39 rfl A_39_1) ?_
    show gv_X _ _ (93, [(0, .inr (.inr (some 39))), (1, .inl a1), (2, .inr (.inr (some a2)))], [.inr (.inr (some 23))], sh, gc_h sh I199 J A)
    have t236 := gc_TK_nx KTK_I199 (by omega)
    have t237 := gc_TK_st KTK_I199 (by omega)
    obtain ⟨r235, h235, E235, P235⟩ := d_X9_advance (ws0 := ws0) (tb := tb) hws htb sh ro I199 J A hI199 23  (gc_b23 hb)    (by omega) 
    obtain ⟨I238, J239, rfl, hI238, g235, k235, ⟨rfl, V235_0, V235_1, V235_2, V235_3, V235_4, q235⟩⟩ := P235
    have FI238 := gc_frc (W := fun q j => (q = 39 ∧ j = 3) ∨ (q = 39 ∧ j = 4) ∨ (q = 23 ∧ j = 5) ∨ (q = 23 ∧ j = 6) ∨ (q = 23 ∧ j = 7) ∨ (q = 23 ∧ j = 8) ∨ (q = 1 ∧ j = 17) ∨ (q = 1 ∧ j = 18) ∨ q = 20 ∨ (q = a2 ∧ j = 0) ∨ (q = a2 ∧ j = 1) ∨ (q = a2 ∧ j = 2) ∨ (q = a2 ∧ j = 3) ∨ (q = a2 ∧ j = 4) ∨ (q = a2 ∧ j = 8) ∨ (q = a2 ∧ j = 12) ∨ (q = a2 ∧ j = 14) ∨ q = (a2 + 1) ∨ q = (a2 + 2) ∨ q = (a2 + 3) ∨ q = (a2 + 4) ∨ q = (a2 + 5) ∨ q = (a2 + 6) ∨ q = (a2 + 7) ∨ q = (a2 + 8) ∨ (q = 39 ∧ j = 6) ∨ (q = 39 ∧ j = 7) ∨ (q = t ∧ j = 13)) (V := fun q j => (q = 23 ∧ j = 5) ∨ (q = 23 ∧ j = 6) ∨ (q = 23 ∧ j = 7) ∨ (q = 23 ∧ j = 8)) FI199 (fun q j h => (h.elim (fun h => (Or.inr (Or.inr (Or.inl h)))) (fun h => (h.elim (fun h => (Or.inr (Or.inr (Or.inr (Or.inl h))))) (fun h => (h.elim (fun h => (Or.inr (Or.inr (Or.inr (Or.inr (Or.inl h)))))) (fun h => (Or.inr (Or.inr (Or.inr (Or.inr (Or.inr (Or.inl h))))))))))))) g235
    have FJ239 := gc_frc (W := fun q j => (q = 23 ∧ j = 9)) (V := fun q j => (q = 23 ∧ j = 9)) FJ (fun q j h => h) k235
    have t240 := (g235 23 1).resolve_left (fun h => h.elim (fun h => absurd h.2 (by decide)) (fun h => h.elim (fun h => absurd h.2 (by decide)) (fun h => h.elim (fun h => absurd h.2 (by decide)) (fun h => absurd h.2 (by decide)))))
    have t241 := (g235 1 17).resolve_left (fun h => h.elim (fun h => absurd h.2 (by decide)) (fun h => h.elim (fun h => absurd h.2 (by decide)) (fun h => h.elim (fun h => absurd h.2 (by decide)) (fun h => absurd h.2 (by decide)))))
    have t242 := (g235 a2 0).resolve_left (fun h => h.elim (fun h => absurd h.2 (by decide)) (fun h => h.elim (fun h => absurd h.2 (by decide)) (fun h => h.elim (fun h => absurd h.2 (by decide)) (fun h => absurd h.2 (by decide)))))
    have t243 := (g235 a2 1).resolve_left (fun h => h.elim (fun h => absurd h.2 (by decide)) (fun h => h.elim (fun h => absurd h.2 (by decide)) (fun h => h.elim (fun h => absurd h.2 (by decide)) (fun h => absurd h.2 (by decide)))))
    have t244 := (g235 a2 3).resolve_left (fun h => h.elim (fun h => absurd h.2 (by decide)) (fun h => h.elim (fun h => absurd h.2 (by decide)) (fun h => h.elim (fun h => absurd h.2 (by decide)) (fun h => absurd h.2 (by decide)))))
    have t245 := (g235 a2 4).resolve_left (fun h => h.elim (fun h => absurd h.2 (by decide)) (fun h => h.elim (fun h => absurd h.2 (by decide)) (fun h => h.elim (fun h => absurd h.2 (by decide)) (fun h => absurd h.2 (by decide)))))
    have t246 := (g235 a2 8).resolve_left (fun h => h.elim (fun h => absurd h.2 (by decide)) (fun h => h.elim (fun h => absurd h.2 (by decide)) (fun h => h.elim (fun h => absurd h.2 (by decide)) (fun h => absurd h.1 N_a2__23))))
    have t247 := (g235 a2 12).resolve_left (fun h => h.elim (fun h => absurd h.2 (by decide)) (fun h => h.elim (fun h => absurd h.2 (by decide)) (fun h => h.elim (fun h => absurd h.2 (by decide)) (fun h => absurd h.2 (by decide)))))
    have t248 := (g235 a2 14).resolve_left (fun h => h.elim (fun h => absurd h.2 (by decide)) (fun h => h.elim (fun h => absurd h.2 (by decide)) (fun h => h.elim (fun h => absurd h.2 (by decide)) (fun h => absurd h.2 (by decide)))))
    have t249 := (g235 4 1).resolve_left (fun h => h.elim (fun h => absurd h.2 (by decide)) (fun h => h.elim (fun h => absurd h.2 (by decide)) (fun h => h.elim (fun h => absurd h.2 (by decide)) (fun h => absurd h.2 (by decide)))))
    have t250 := (g235 t 13).resolve_left (fun h => h.elim (fun h => absurd h.2 (by decide)) (fun h => h.elim (fun h => absurd h.2 (by decide)) (fun h => h.elim (fun h => absurd h.2 (by decide)) (fun h => absurd h.2 (by decide)))))
    have t251 := (g235 39 2).resolve_left (fun h => h.elim (fun h => absurd h.2 (by decide)) (fun h => h.elim (fun h => absurd h.2 (by decide)) (fun h => h.elim (fun h => absurd h.2 (by decide)) (fun h => absurd h.2 (by decide)))))
    have f252 := (show 0 ≤ I238 23 5 ∧ I238 23 5 ≤ 1000 from gc_in hI238 R_23 rfl rfl)
    have f253 := (show 0 ≤ I238 23 6 ∧ I238 23 6 ≤ 1001 from gc_in hI238 R_23 rfl rfl)
    have f254 := (show 0 ≤ I238 23 7 ∧ I238 23 7 ≤ 125 from gc_in hI238 R_23 rfl rfl)
    have KLT_I238 : gc_LT I238 := q235.2.2
    have KCT_I238 := gc_CT_fr KCT_I199 ((g235 a2 8).resolve_left (fun h => h.elim (fun h => absurd h.2 (by decide)) (fun h => h.elim (fun h => absurd h.2 (by decide)) (fun h => h.elim (fun h => absurd h.2 (by decide)) (fun h => absurd h.1 N_a2__23))))) (fun k => (g235 (a2 + 6) k).resolve_left (fun h => h.elim (fun h => absurd h.1 N_a2_6__23) (fun h => h.elim (fun h => absurd h.1 N_a2_6__23) (fun h => h.elim (fun h => absurd h.1 N_a2_6__23) (fun h => absurd h.1 N_a2_6__23)))))
    have KTK_I238 : gc_TK I238 := And.intro V235_0 (And.intro V235_1 (And.intro V235_2 (And.intro V235_3 V235_4)))
    have t255 := gc_TK_mo KTK_I238
    clear V235_0 V235_1 V235_2 V235_3 V235_4
    refine gv_callV hD rfl (As := []) (st := []) rfl B_23 S_23 rfl (gc_lV6 hws rfl) (Nat.le_of_ble_eq_true rfl) (gz_Ev_mono (d := 2) (by decide) E235) ?_
    show gv_X _ _ (96, [(0, .inr (.inr (some 39))), (1, .inl a1), (2, .inr (.inr (some a2)))], [], sh, gc_h sh I238 J239 A)
    refine gv_run 2 true hD (pc' := 99) (lv' := [(0, .inr (.inr (some 39))), (1, .inl a1), (2, .inr (.inr (some a2)))]) (st' := [.inl 61, .inr (.inr (some 39))]) (h' := gc_h sh I238 J239 A) (C := ((True ∧ True) ∧ True)) rfl ⟨⟨trivial, trivial⟩, trivial⟩ ?_
    obtain ⟨r256, h256, E256, P256⟩ := d_X6_take (ws0 := ws0) (tb := tb) hws htb sh ro I238 J239 A hI238  61 hb   ⟨by omega, by omega⟩ (by omega) KLT_I238 KTK_I238
    obtain ⟨I257, J258, rfl, hI257, g256, k256, KLT_I257, KTK_I257, ⟨z256, rfl, q256⟩⟩ := P256
    have FI257 := gc_frc (W := fun q j => (q = 39 ∧ j = 3) ∨ (q = 39 ∧ j = 4) ∨ (q = 23 ∧ j = 5) ∨ (q = 23 ∧ j = 6) ∨ (q = 23 ∧ j = 7) ∨ (q = 23 ∧ j = 8) ∨ (q = 1 ∧ j = 17) ∨ (q = 1 ∧ j = 18) ∨ q = 20 ∨ (q = a2 ∧ j = 0) ∨ (q = a2 ∧ j = 1) ∨ (q = a2 ∧ j = 2) ∨ (q = a2 ∧ j = 3) ∨ (q = a2 ∧ j = 4) ∨ (q = a2 ∧ j = 8) ∨ (q = a2 ∧ j = 12) ∨ (q = a2 ∧ j = 14) ∨ q = (a2 + 1) ∨ q = (a2 + 2) ∨ q = (a2 + 3) ∨ q = (a2 + 4) ∨ q = (a2 + 5) ∨ q = (a2 + 6) ∨ q = (a2 + 7) ∨ q = (a2 + 8) ∨ (q = 39 ∧ j = 6) ∨ (q = 39 ∧ j = 7) ∨ (q = t ∧ j = 13)) (V := fun q j => (q = 39 ∧ j = 3) ∨ (q = 39 ∧ j = 4) ∨ (q = 23 ∧ j = 5) ∨ (q = 23 ∧ j = 6) ∨ (q = 23 ∧ j = 7) ∨ (q = 23 ∧ j = 8)) FI238 (fun q j h => (h.elim (fun h => (Or.inl h)) (fun h => (h.elim (fun h => (Or.inr (Or.inl h))) (fun h => (h.elim (fun h => (Or.inr (Or.inr (Or.inl h)))) (fun h => (h.elim (fun h => (Or.inr (Or.inr (Or.inr (Or.inl h))))) (fun h => (h.elim (fun h => (Or.inr (Or.inr (Or.inr (Or.inr (Or.inl h)))))) (fun h => (Or.inr (Or.inr (Or.inr (Or.inr (Or.inr (Or.inl h))))))))))))))))) g256
    have FJ258 := gc_frc (W := fun q j => (q = 23 ∧ j = 9)) (V := fun q j => (q = 23 ∧ j = 9)) FJ239 (fun q j h => h) k256
    have t259 := (g256 23 1).resolve_left (fun h => h.elim (fun h => absurd h.2 (by decide)) (fun h => h.elim (fun h => absurd h.2 (by decide)) (fun h => h.elim (fun h => absurd h.2 (by decide)) (fun h => h.elim (fun h => absurd h.2 (by decide)) (fun h => h.elim (fun h => absurd h.2 (by decide)) (fun h => absurd h.2 (by decide)))))))
    have t260 := (g256 1 17).resolve_left (fun h => h.elim (fun h => absurd h.2 (by decide)) (fun h => h.elim (fun h => absurd h.2 (by decide)) (fun h => h.elim (fun h => absurd h.2 (by decide)) (fun h => h.elim (fun h => absurd h.2 (by decide)) (fun h => h.elim (fun h => absurd h.2 (by decide)) (fun h => absurd h.2 (by decide)))))))
    have t261 := (g256 a2 0).resolve_left (fun h => h.elim (fun h => absurd h.2 (by decide)) (fun h => h.elim (fun h => absurd h.2 (by decide)) (fun h => h.elim (fun h => absurd h.2 (by decide)) (fun h => h.elim (fun h => absurd h.2 (by decide)) (fun h => h.elim (fun h => absurd h.2 (by decide)) (fun h => absurd h.2 (by decide)))))))
    have t262 := (g256 a2 1).resolve_left (fun h => h.elim (fun h => absurd h.2 (by decide)) (fun h => h.elim (fun h => absurd h.2 (by decide)) (fun h => h.elim (fun h => absurd h.2 (by decide)) (fun h => h.elim (fun h => absurd h.2 (by decide)) (fun h => h.elim (fun h => absurd h.2 (by decide)) (fun h => absurd h.2 (by decide)))))))
    have t263 := (g256 a2 3).resolve_left (fun h => h.elim (fun h => absurd h.1 N_a2__39) (fun h => h.elim (fun h => absurd h.2 (by decide)) (fun h => h.elim (fun h => absurd h.2 (by decide)) (fun h => h.elim (fun h => absurd h.2 (by decide)) (fun h => h.elim (fun h => absurd h.2 (by decide)) (fun h => absurd h.2 (by decide)))))))
    have t264 := (g256 a2 4).resolve_left (fun h => h.elim (fun h => absurd h.2 (by decide)) (fun h => h.elim (fun h => absurd h.1 N_a2__39) (fun h => h.elim (fun h => absurd h.2 (by decide)) (fun h => h.elim (fun h => absurd h.2 (by decide)) (fun h => h.elim (fun h => absurd h.2 (by decide)) (fun h => absurd h.2 (by decide)))))))
    have t265 := (g256 a2 8).resolve_left (fun h => h.elim (fun h => absurd h.2 (by decide)) (fun h => h.elim (fun h => absurd h.2 (by decide)) (fun h => h.elim (fun h => absurd h.2 (by decide)) (fun h => h.elim (fun h => absurd h.2 (by decide)) (fun h => h.elim (fun h => absurd h.2 (by decide)) (fun h => absurd h.1 N_a2__23))))))
    have t266 := (g256 a2 12).resolve_left (fun h => h.elim (fun h => absurd h.2 (by decide)) (fun h => h.elim (fun h => absurd h.2 (by decide)) (fun h => h.elim (fun h => absurd h.2 (by decide)) (fun h => h.elim (fun h => absurd h.2 (by decide)) (fun h => h.elim (fun h => absurd h.2 (by decide)) (fun h => absurd h.2 (by decide)))))))
    have t267 := (g256 a2 14).resolve_left (fun h => h.elim (fun h => absurd h.2 (by decide)) (fun h => h.elim (fun h => absurd h.2 (by decide)) (fun h => h.elim (fun h => absurd h.2 (by decide)) (fun h => h.elim (fun h => absurd h.2 (by decide)) (fun h => h.elim (fun h => absurd h.2 (by decide)) (fun h => absurd h.2 (by decide)))))))
    have t268 := (g256 4 1).resolve_left (fun h => h.elim (fun h => absurd h.2 (by decide)) (fun h => h.elim (fun h => absurd h.2 (by decide)) (fun h => h.elim (fun h => absurd h.2 (by decide)) (fun h => h.elim (fun h => absurd h.2 (by decide)) (fun h => h.elim (fun h => absurd h.2 (by decide)) (fun h => absurd h.2 (by decide)))))))
    have t269 := (g256 t 13).resolve_left (fun h => h.elim (fun h => absurd h.2 (by decide)) (fun h => h.elim (fun h => absurd h.2 (by decide)) (fun h => h.elim (fun h => absurd h.2 (by decide)) (fun h => h.elim (fun h => absurd h.2 (by decide)) (fun h => h.elim (fun h => absurd h.2 (by decide)) (fun h => absurd h.2 (by decide)))))))
    have t270 := (g256 39 2).resolve_left (fun h => h.elim (fun h => absurd h.2 (by decide)) (fun h => h.elim (fun h => absurd h.2 (by decide)) (fun h => h.elim (fun h => absurd h.2 (by decide)) (fun h => h.elim (fun h => absurd h.2 (by decide)) (fun h => h.elim (fun h => absurd h.2 (by decide)) (fun h => absurd h.2 (by decide)))))))
    have f271 := (show 0 ≤ I257 23 5 ∧ I257 23 5 ≤ 1000 from gc_in hI257 R_23 rfl rfl)
    have f272 := (show 0 ≤ I257 23 6 ∧ I257 23 6 ≤ 1001 from gc_in hI257 R_23 rfl rfl)
    have f273 := (show 0 ≤ I257 23 7 ∧ I257 23 7 ≤ 125 from gc_in hI257 R_23 rfl rfl)
    have t274 := gc_TK_mo KTK_I257
    have KCT_I257 := gc_CT_fr KCT_I238 ((g256 a2 8).resolve_left (fun h => h.elim (fun h => absurd h.2 (by decide)) (fun h => h.elim (fun h => absurd h.2 (by decide)) (fun h => h.elim (fun h => absurd h.2 (by decide)) (fun h => h.elim (fun h => absurd h.2 (by decide)) (fun h => h.elim (fun h => absurd h.2 (by decide)) (fun h => absurd h.1 N_a2__23))))))) (fun k => (g256 (a2 + 6) k).resolve_left (fun h => h.elim (fun h => absurd h.1 N_a2_6__39) (fun h => h.elim (fun h => absurd h.1 N_a2_6__39) (fun h => h.elim (fun h => absurd h.1 N_a2_6__23) (fun h => h.elim (fun h => absurd h.1 N_a2_6__23) (fun h => h.elim (fun h => absurd h.1 N_a2_6__23) (fun h => absurd h.1 N_a2_6__23)))))))
    refine gv_callV hD rfl (As := [.inl 61]) (st := []) rfl B_39 S_39 rfl (gc_lV6 hws rfl) (Nat.le_of_ble_eq_true rfl) (gz_Ev_mono (d := 3) (by decide) E256) ?_
    show gv_X _ _ (102, [(0, .inr (.inr (some 39))), (1, .inl a1), (2, .inr (.inr (some a2)))], [.inl z256], sh, gc_h sh I257 J258 A)
    refine gv_if_ne (t := 107) hD rfl rfl ⟨by omega, by omega⟩ (fun c275 => ?_) (fun c275 => ?_)
    · show gv_X _ _ (107, [(0, .inr (.inr (some 39))), (1, .inl a1), (2, .inr (.inr (some a2)))], [], sh, gc_h sh I257 J258 A)
      refine gv_run 1 true hD (pc' := 108) (lv' := [(0, .inr (.inr (some 39))), (1, .inl a1), (2, .inr (.inr (some a2)))]) (st' := [.inr (.inr (some 39))]) (h' := gc_h sh I257 J258 A) (C := (True ∧ True)) rfl ⟨trivial, trivial⟩ ?_
      refine gv_get hD rfl rfl S_39 ⟨by decide, B_39⟩ (gc_hA S_39 rfl A_39_1) ?_
      show gv_X _ _ (111, [(0, .inr (.inr (some 39))), (1, .inl a1), (2, .inr (.inr (some a2)))], [.inr (.inr (some 23))], sh, gc_h sh I257 J258 A)
      have f276 := (show 0 ≤ I257 23 5 ∧ I257 23 5 ≤ 1000 from gc_in hI257 R_23 rfl rfl)
      refine gv_get hD rfl rfl S_23 ⟨by decide, B_23⟩ (gc_hI S_23 rfl) ?_
      show gv_X _ _ (114, [(0, .inr (.inr (some 39))), (1, .inl a1), (2, .inr (.inr (some a2)))], [.inl (I257 23 5)], sh, gc_h sh I257 J258 A)
      refine gv_run 3 true hD (pc' := 117) (lv' := [(3, .inl (I257 23 5)), (0, .inr (.inr (some 39))), (1, .inl a1), (2, .inr (.inr (some a2)))]) (st' := [.inr (.inr (some a2)), .inr (.inr (some 39))]) (h' := gc_h sh I257 J258 A) (C := (((True ∧ True) ∧ True) ∧ True)) rfl ⟨⟨⟨trivial, trivial⟩, trivial⟩, trivial⟩ ?_
      obtain ⟨r277, h277, E277, P277⟩ := d_X6_readItems_l (ws0 := ws0) (tb := tb) hws htb sh ro I257 J258 A hI257  t B a2 hb h_a2 G_a2 h_t G_t   (by omega) (by rw [show I257 a2 4 = 0 from by omega]; exact gc_LI_0 (by omega) (fun a ha => ((((g256 (a2 + 6) a).resolve_left (by omega)).trans ((g235 (a2 + 6) a).resolve_left (by omega)))).trans (q198 a ha))) (by omega) KLT_I257 KTK_I257 KCT_I257
      obtain ⟨I278, J279, rfl, hI278, g277, k277, KLT_I278, KTK_I278, KCT_I278, ⟨z277, rfl, q277⟩⟩ := P277
      have FI278 := gc_frc (W := fun q j => (q = 39 ∧ j = 3) ∨ (q = 39 ∧ j = 4) ∨ (q = 23 ∧ j = 5) ∨ (q = 23 ∧ j = 6) ∨ (q = 23 ∧ j = 7) ∨ (q = 23 ∧ j = 8) ∨ (q = 1 ∧ j = 17) ∨ (q = 1 ∧ j = 18) ∨ q = 20 ∨ (q = a2 ∧ j = 0) ∨ (q = a2 ∧ j = 1) ∨ (q = a2 ∧ j = 2) ∨ (q = a2 ∧ j = 3) ∨ (q = a2 ∧ j = 4) ∨ (q = a2 ∧ j = 8) ∨ (q = a2 ∧ j = 12) ∨ (q = a2 ∧ j = 14) ∨ q = (a2 + 1) ∨ q = (a2 + 2) ∨ q = (a2 + 3) ∨ q = (a2 + 4) ∨ q = (a2 + 5) ∨ q = (a2 + 6) ∨ q = (a2 + 7) ∨ q = (a2 + 8) ∨ (q = 39 ∧ j = 6) ∨ (q = 39 ∧ j = 7) ∨ (q = t ∧ j = 13)) (V := fun q j => (q = 39 ∧ j = 3) ∨ (q = 39 ∧ j = 4) ∨ (q = 23 ∧ j = 5) ∨ (q = 23 ∧ j = 6) ∨ (q = 23 ∧ j = 7) ∨ (q = 23 ∧ j = 8) ∨ (q = 1 ∧ j = 17) ∨ (q = 1 ∧ j = 18) ∨ q = 20 ∨ (q = 39 ∧ j = 6) ∨ q = (a2 + 1) ∨ q = (a2 + 6) ∨ q = (a2 + 4) ∨ q = (a2 + 5) ∨ (q = a2 ∧ j = 8) ∨ q = (a2 + 2) ∨ q = (a2 + 3) ∨ (q = a2 ∧ j = 4)) FI257 (fun q j h => (h.elim (fun h => (Or.inl h)) (fun h => (h.elim (fun h => (Or.inr (Or.inl h))) (fun h => (h.elim (fun h => (Or.inr (Or.inr (Or.inl h)))) (fun h => (h.elim (fun h => (Or.inr (Or.inr (Or.inr (Or.inl h))))) (fun h => (h.elim (fun h => (Or.inr (Or.inr (Or.inr (Or.inr (Or.inl h)))))) (fun h => (h.elim (fun h => (Or.inr (Or.inr (Or.inr (Or.inr (Or.inr (Or.inl h))))))) (fun h => (h.elim (fun h => (Or.inr (Or.inr (Or.inr (Or.inr (Or.inr (Or.inr (Or.inl h)))))))) (fun h => (h.elim (fun h => (Or.inr (Or.inr (Or.inr (Or.inr (Or.inr (Or.inr (Or.inr (Or.inl h))))))))) (fun h => (h.elim (fun h => (Or.inr (Or.inr (Or.inr (Or.inr (Or.inr (Or.inr (Or.inr (Or.inr (Or.inl h)))))))))) (fun h => (h.elim (fun h => (Or.inr (Or.inr (Or.inr (Or.inr (Or.inr (Or.inr (Or.inr (Or.inr (Or.inr (Or.inr (Or.inr (Or.inr (Or.inr (Or.inr (Or.inr (Or.inr (Or.inr (Or.inr (Or.inr (Or.inr (Or.inr (Or.inr (Or.inr (Or.inr (Or.inr (Or.inl h))))))))))))))))))))))))))) (fun h => (h.elim (fun h => (Or.inr (Or.inr (Or.inr (Or.inr (Or.inr (Or.inr (Or.inr (Or.inr (Or.inr (Or.inr (Or.inr (Or.inr (Or.inr (Or.inr (Or.inr (Or.inr (Or.inr (Or.inl h))))))))))))))))))) (fun h => (h.elim (fun h => (Or.inr (Or.inr (Or.inr (Or.inr (Or.inr (Or.inr (Or.inr (Or.inr (Or.inr (Or.inr (Or.inr (Or.inr (Or.inr (Or.inr (Or.inr (Or.inr (Or.inr (Or.inr (Or.inr (Or.inr (Or.inr (Or.inr (Or.inl h)))))))))))))))))))))))) (fun h => (h.elim (fun h => (Or.inr (Or.inr (Or.inr (Or.inr (Or.inr (Or.inr (Or.inr (Or.inr (Or.inr (Or.inr (Or.inr (Or.inr (Or.inr (Or.inr (Or.inr (Or.inr (Or.inr (Or.inr (Or.inr (Or.inr (Or.inl h)))))))))))))))))))))) (fun h => (h.elim (fun h => (Or.inr (Or.inr (Or.inr (Or.inr (Or.inr (Or.inr (Or.inr (Or.inr (Or.inr (Or.inr (Or.inr (Or.inr (Or.inr (Or.inr (Or.inr (Or.inr (Or.inr (Or.inr (Or.inr (Or.inr (Or.inr (Or.inl h))))))))))))))))))))))) (fun h => (h.elim (fun h => (Or.inr (Or.inr (Or.inr (Or.inr (Or.inr (Or.inr (Or.inr (Or.inr (Or.inr (Or.inr (Or.inr (Or.inr (Or.inr (Or.inr (Or.inl h)))))))))))))))) (fun h => (h.elim (fun h => (Or.inr (Or.inr (Or.inr (Or.inr (Or.inr (Or.inr (Or.inr (Or.inr (Or.inr (Or.inr (Or.inr (Or.inr (Or.inr (Or.inr (Or.inr (Or.inr (Or.inr (Or.inr (Or.inl h)))))))))))))))))))) (fun h => (h.elim (fun h => (Or.inr (Or.inr (Or.inr (Or.inr (Or.inr (Or.inr (Or.inr (Or.inr (Or.inr (Or.inr (Or.inr (Or.inr (Or.inr (Or.inr (Or.inr (Or.inr (Or.inr (Or.inr (Or.inr (Or.inl h))))))))))))))))))))) (fun h => (Or.inr (Or.inr (Or.inr (Or.inr (Or.inr (Or.inr (Or.inr (Or.inr (Or.inr (Or.inr (Or.inr (Or.inr (Or.inr (Or.inl h))))))))))))))))))))))))))))))))))))))))))))))))) g277
      have FJ279 := gc_frc (W := fun q j => (q = 23 ∧ j = 9)) (V := fun q j => (q = 23 ∧ j = 9)) FJ258 (fun q j h => h) k277
      have t280 := (g277 23 1).resolve_left (fun h => h.elim (fun h => absurd h.2 (by decide)) (fun h => h.elim (fun h => absurd h.2 (by decide)) (fun h => h.elim (fun h => absurd h.2 (by decide)) (fun h => h.elim (fun h => absurd h.2 (by decide)) (fun h => h.elim (fun h => absurd h.2 (by decide)) (fun h => h.elim (fun h => absurd h.2 (by decide)) (fun h => h.elim (fun h => absurd h.2 (by decide)) (fun h => h.elim (fun h => absurd h.2 (by decide)) (fun h => h.elim (fun h => absurd h (by decide)) (fun h => h.elim (fun h => absurd h.2 (by decide)) (fun h => h.elim (fun h => absurd h N_23__a2_1) (fun h => h.elim (fun h => absurd h N_23__a2_6) (fun h => h.elim (fun h => absurd h N_23__a2_4) (fun h => h.elim (fun h => absurd h N_23__a2_5) (fun h => h.elim (fun h => absurd h.2 (by decide)) (fun h => h.elim (fun h => absurd h N_23__a2_2) (fun h => h.elim (fun h => absurd h N_23__a2_3) (fun h => absurd h.2 (by decide)))))))))))))))))))
      have t281 := (g277 a2 0).resolve_left (fun h => h.elim (fun h => absurd h.2 (by decide)) (fun h => h.elim (fun h => absurd h.2 (by decide)) (fun h => h.elim (fun h => absurd h.2 (by decide)) (fun h => h.elim (fun h => absurd h.2 (by decide)) (fun h => h.elim (fun h => absurd h.2 (by decide)) (fun h => h.elim (fun h => absurd h.2 (by decide)) (fun h => h.elim (fun h => absurd h.2 (by decide)) (fun h => h.elim (fun h => absurd h.2 (by decide)) (fun h => h.elim (fun h => absurd h N_a2__20) (fun h => h.elim (fun h => absurd h.2 (by decide)) (fun h => h.elim (fun h => absurd h N_a2__a2_1) (fun h => h.elim (fun h => absurd h N_a2__a2_6) (fun h => h.elim (fun h => absurd h N_a2__a2_4) (fun h => h.elim (fun h => absurd h N_a2__a2_5) (fun h => h.elim (fun h => absurd h.2 (by decide)) (fun h => h.elim (fun h => absurd h N_a2__a2_2) (fun h => h.elim (fun h => absurd h N_a2__a2_3) (fun h => absurd h.2 (by decide)))))))))))))))))))
      have t282 := (g277 a2 1).resolve_left (fun h => h.elim (fun h => absurd h.2 (by decide)) (fun h => h.elim (fun h => absurd h.2 (by decide)) (fun h => h.elim (fun h => absurd h.2 (by decide)) (fun h => h.elim (fun h => absurd h.2 (by decide)) (fun h => h.elim (fun h => absurd h.2 (by decide)) (fun h => h.elim (fun h => absurd h.2 (by decide)) (fun h => h.elim (fun h => absurd h.2 (by decide)) (fun h => h.elim (fun h => absurd h.2 (by decide)) (fun h => h.elim (fun h => absurd h N_a2__20) (fun h => h.elim (fun h => absurd h.2 (by decide)) (fun h => h.elim (fun h => absurd h N_a2__a2_1) (fun h => h.elim (fun h => absurd h N_a2__a2_6) (fun h => h.elim (fun h => absurd h N_a2__a2_4) (fun h => h.elim (fun h => absurd h N_a2__a2_5) (fun h => h.elim (fun h => absurd h.2 (by decide)) (fun h => h.elim (fun h => absurd h N_a2__a2_2) (fun h => h.elim (fun h => absurd h N_a2__a2_3) (fun h => absurd h.2 (by decide)))))))))))))))))))
      have t283 := (g277 a2 3).resolve_left (fun h => h.elim (fun h => absurd h.1 N_a2__39) (fun h => h.elim (fun h => absurd h.2 (by decide)) (fun h => h.elim (fun h => absurd h.2 (by decide)) (fun h => h.elim (fun h => absurd h.2 (by decide)) (fun h => h.elim (fun h => absurd h.2 (by decide)) (fun h => h.elim (fun h => absurd h.2 (by decide)) (fun h => h.elim (fun h => absurd h.2 (by decide)) (fun h => h.elim (fun h => absurd h.2 (by decide)) (fun h => h.elim (fun h => absurd h N_a2__20) (fun h => h.elim (fun h => absurd h.2 (by decide)) (fun h => h.elim (fun h => absurd h N_a2__a2_1) (fun h => h.elim (fun h => absurd h N_a2__a2_6) (fun h => h.elim (fun h => absurd h N_a2__a2_4) (fun h => h.elim (fun h => absurd h N_a2__a2_5) (fun h => h.elim (fun h => absurd h.2 (by decide)) (fun h => h.elim (fun h => absurd h N_a2__a2_2) (fun h => h.elim (fun h => absurd h N_a2__a2_3) (fun h => absurd h.2 (by decide)))))))))))))))))))
      have t284 := (g277 a2 12).resolve_left (fun h => h.elim (fun h => absurd h.2 (by decide)) (fun h => h.elim (fun h => absurd h.2 (by decide)) (fun h => h.elim (fun h => absurd h.2 (by decide)) (fun h => h.elim (fun h => absurd h.2 (by decide)) (fun h => h.elim (fun h => absurd h.2 (by decide)) (fun h => h.elim (fun h => absurd h.2 (by decide)) (fun h => h.elim (fun h => absurd h.2 (by decide)) (fun h => h.elim (fun h => absurd h.2 (by decide)) (fun h => h.elim (fun h => absurd h N_a2__20) (fun h => h.elim (fun h => absurd h.2 (by decide)) (fun h => h.elim (fun h => absurd h N_a2__a2_1) (fun h => h.elim (fun h => absurd h N_a2__a2_6) (fun h => h.elim (fun h => absurd h N_a2__a2_4) (fun h => h.elim (fun h => absurd h N_a2__a2_5) (fun h => h.elim (fun h => absurd h.2 (by decide)) (fun h => h.elim (fun h => absurd h N_a2__a2_2) (fun h => h.elim (fun h => absurd h N_a2__a2_3) (fun h => absurd h.2 (by decide)))))))))))))))))))
      have t285 := (g277 a2 14).resolve_left (fun h => h.elim (fun h => absurd h.2 (by decide)) (fun h => h.elim (fun h => absurd h.2 (by decide)) (fun h => h.elim (fun h => absurd h.2 (by decide)) (fun h => h.elim (fun h => absurd h.2 (by decide)) (fun h => h.elim (fun h => absurd h.2 (by decide)) (fun h => h.elim (fun h => absurd h.2 (by decide)) (fun h => h.elim (fun h => absurd h.2 (by decide)) (fun h => h.elim (fun h => absurd h.2 (by decide)) (fun h => h.elim (fun h => absurd h N_a2__20) (fun h => h.elim (fun h => absurd h.2 (by decide)) (fun h => h.elim (fun h => absurd h N_a2__a2_1) (fun h => h.elim (fun h => absurd h N_a2__a2_6) (fun h => h.elim (fun h => absurd h N_a2__a2_4) (fun h => h.elim (fun h => absurd h N_a2__a2_5) (fun h => h.elim (fun h => absurd h.2 (by decide)) (fun h => h.elim (fun h => absurd h N_a2__a2_2) (fun h => h.elim (fun h => absurd h N_a2__a2_3) (fun h => absurd h.2 (by decide)))))))))))))))))))
      have t286 := (g277 4 1).resolve_left (fun h => h.elim (fun h => absurd h.2 (by decide)) (fun h => h.elim (fun h => absurd h.2 (by decide)) (fun h => h.elim (fun h => absurd h.2 (by decide)) (fun h => h.elim (fun h => absurd h.2 (by decide)) (fun h => h.elim (fun h => absurd h.2 (by decide)) (fun h => h.elim (fun h => absurd h.2 (by decide)) (fun h => h.elim (fun h => absurd h.2 (by decide)) (fun h => h.elim (fun h => absurd h.2 (by decide)) (fun h => h.elim (fun h => absurd h (by decide)) (fun h => h.elim (fun h => absurd h.2 (by decide)) (fun h => h.elim (fun h => absurd h N_4__a2_1) (fun h => h.elim (fun h => absurd h N_4__a2_6) (fun h => h.elim (fun h => absurd h N_4__a2_4) (fun h => h.elim (fun h => absurd h N_4__a2_5) (fun h => h.elim (fun h => absurd h.2 (by decide)) (fun h => h.elim (fun h => absurd h N_4__a2_2) (fun h => h.elim (fun h => absurd h N_4__a2_3) (fun h => absurd h.2 (by decide)))))))))))))))))))
      have t287 := (g277 t 13).resolve_left (fun h => h.elim (fun h => absurd h.2 (by decide)) (fun h => h.elim (fun h => absurd h.2 (by decide)) (fun h => h.elim (fun h => absurd h.2 (by decide)) (fun h => h.elim (fun h => absurd h.2 (by decide)) (fun h => h.elim (fun h => absurd h.2 (by decide)) (fun h => h.elim (fun h => absurd h.2 (by decide)) (fun h => h.elim (fun h => absurd h.2 (by decide)) (fun h => h.elim (fun h => absurd h.2 (by decide)) (fun h => h.elim (fun h => absurd h N_t__20) (fun h => h.elim (fun h => absurd h.2 (by decide)) (fun h => h.elim (fun h => absurd h N_t__a2_1) (fun h => h.elim (fun h => absurd h N_t__a2_6) (fun h => h.elim (fun h => absurd h N_t__a2_4) (fun h => h.elim (fun h => absurd h N_t__a2_5) (fun h => h.elim (fun h => absurd h.2 (by decide)) (fun h => h.elim (fun h => absurd h N_t__a2_2) (fun h => h.elim (fun h => absurd h N_t__a2_3) (fun h => absurd h.2 (by decide)))))))))))))))))))
      have t288 := (g277 39 2).resolve_left (fun h => h.elim (fun h => absurd h.2 (by decide)) (fun h => h.elim (fun h => absurd h.2 (by decide)) (fun h => h.elim (fun h => absurd h.2 (by decide)) (fun h => h.elim (fun h => absurd h.2 (by decide)) (fun h => h.elim (fun h => absurd h.2 (by decide)) (fun h => h.elim (fun h => absurd h.2 (by decide)) (fun h => h.elim (fun h => absurd h.2 (by decide)) (fun h => h.elim (fun h => absurd h.2 (by decide)) (fun h => h.elim (fun h => absurd h (by decide)) (fun h => h.elim (fun h => absurd h.2 (by decide)) (fun h => h.elim (fun h => absurd h N_39__a2_1) (fun h => h.elim (fun h => absurd h N_39__a2_6) (fun h => h.elim (fun h => absurd h N_39__a2_4) (fun h => h.elim (fun h => absurd h N_39__a2_5) (fun h => h.elim (fun h => absurd h.2 (by decide)) (fun h => h.elim (fun h => absurd h N_39__a2_2) (fun h => h.elim (fun h => absurd h N_39__a2_3) (fun h => absurd h.2 (by decide)))))))))))))))))))
      have f289 := (show 0 ≤ I278 23 5 ∧ I278 23 5 ≤ 1000 from gc_in hI278 R_23 rfl rfl)
      have f290 := (show 0 ≤ I278 23 6 ∧ I278 23 6 ≤ 1001 from gc_in hI278 R_23 rfl rfl)
      have f291 := (show 0 ≤ I278 23 7 ∧ I278 23 7 ≤ 125 from gc_in hI278 R_23 rfl rfl)
      have f292 := (show 0 ≤ I278 1 17 ∧ I278 1 17 ≤ 12000 from gc_in hI278 R_1 rfl rfl)
      have f293 := (show 0 ≤ I278 a2 4 ∧ I278 a2 4 ≤ 6 from gc_in hI278 R_a2 rfl rfl)
      have f294 := (show 0 ≤ I278 a2 8 ∧ I278 a2 8 ≤ 4 from gc_in hI278 R_a2 rfl rfl)
      have t295 := gc_TK_mo KTK_I278
      refine gv_callV hD rfl (As := [.inr (.inr (some a2))]) (st := []) rfl B_39 S_39 rfl (gc_lV6 hws rfl) (Nat.le_of_ble_eq_true rfl) (gz_Ev_mono (d := 5) (by decide) E277) ?_
      show gv_X _ _ (120, [(3, .inl (I257 23 5)), (0, .inr (.inr (some 39))), (1, .inl a1), (2, .inr (.inr (some a2)))], [.inl z277], sh, gc_h sh I278 J279 A)
      refine gv_if_eq (t := 147) hD rfl rfl ⟨by omega, by omega⟩ (fun c296 => ?_) (fun c296 => ?_)
      · show gv_X _ _ (147, [(3, .inl (I257 23 5)), (0, .inr (.inr (some 39))), (1, .inl a1), (2, .inr (.inr (some a2)))], [], sh, gc_h sh I278 J279 A)
        refine gv_pick [] rfl ?_
        exact L147 I278 J279 hI278 FI278 FJ279 KLT_I278 KTK_I278 (by omega)
      · show gv_X _ _ (123, [(3, .inl (I257 23 5)), (0, .inr (.inr (some 39))), (1, .inl a1), (2, .inr (.inr (some a2)))], [], sh, gc_h sh I278 J279 A)
        refine gv_run 2 true hD (pc' := 125) (lv' := [(3, .inl (I257 23 5)), (0, .inr (.inr (some 39))), (1, .inl a1), (2, .inr (.inr (some a2)))]) (st' := [.inr (.inr (some a2)), .inr (.inr (some 39))]) (h' := gc_h sh I278 J279 A) (C := ((True ∧ True) ∧ True)) rfl ⟨⟨trivial, trivial⟩, trivial⟩ ?_
        obtain ⟨r297, h297, E297, P297⟩ := d_X6_readSaids (ws0 := ws0) (tb := tb) hws htb sh ro I278 J279 A hI278  t a2 hb h_a2 G_a2 h_t G_t   (by omega) (by omega) KLT_I278 KTK_I278
        obtain ⟨I298, J299, rfl, hI298, g297, k297, KLT_I298, KTK_I298, ⟨z297, rfl, q297⟩⟩ := P297
        have FI298 := gc_frc (W := fun q j => (q = 39 ∧ j = 3) ∨ (q = 39 ∧ j = 4) ∨ (q = 23 ∧ j = 5) ∨ (q = 23 ∧ j = 6) ∨ (q = 23 ∧ j = 7) ∨ (q = 23 ∧ j = 8) ∨ (q = 1 ∧ j = 17) ∨ (q = 1 ∧ j = 18) ∨ q = 20 ∨ (q = a2 ∧ j = 0) ∨ (q = a2 ∧ j = 1) ∨ (q = a2 ∧ j = 2) ∨ (q = a2 ∧ j = 3) ∨ (q = a2 ∧ j = 4) ∨ (q = a2 ∧ j = 8) ∨ (q = a2 ∧ j = 12) ∨ (q = a2 ∧ j = 14) ∨ q = (a2 + 1) ∨ q = (a2 + 2) ∨ q = (a2 + 3) ∨ q = (a2 + 4) ∨ q = (a2 + 5) ∨ q = (a2 + 6) ∨ q = (a2 + 7) ∨ q = (a2 + 8) ∨ (q = 39 ∧ j = 6) ∨ (q = 39 ∧ j = 7) ∨ (q = t ∧ j = 13)) (V := fun q j => (q = 39 ∧ j = 3) ∨ (q = 39 ∧ j = 4) ∨ (q = 23 ∧ j = 5) ∨ (q = 23 ∧ j = 6) ∨ (q = 23 ∧ j = 7) ∨ (q = 23 ∧ j = 8) ∨ q = (a2 + 7) ∨ (q = a2 ∧ j = 12) ∨ q = (a2 + 8) ∨ (q = a2 ∧ j = 14)) FI278 (fun q j h => (h.elim (fun h => (Or.inl h)) (fun h => (h.elim (fun h => (Or.inr (Or.inl h))) (fun h => (h.elim (fun h => (Or.inr (Or.inr (Or.inl h)))) (fun h => (h.elim (fun h => (Or.inr (Or.inr (Or.inr (Or.inl h))))) (fun h => (h.elim (fun h => (Or.inr (Or.inr (Or.inr (Or.inr (Or.inl h)))))) (fun h => (h.elim (fun h => (Or.inr (Or.inr (Or.inr (Or.inr (Or.inr (Or.inl h))))))) (fun h => (h.elim (fun h => (Or.inr (Or.inr (Or.inr (Or.inr (Or.inr (Or.inr (Or.inr (Or.inr (Or.inr (Or.inr (Or.inr (Or.inr (Or.inr (Or.inr (Or.inr (Or.inr (Or.inr (Or.inr (Or.inr (Or.inr (Or.inr (Or.inr (Or.inr (Or.inl h))))))))))))))))))))))))) (fun h => (h.elim (fun h => (Or.inr (Or.inr (Or.inr (Or.inr (Or.inr (Or.inr (Or.inr (Or.inr (Or.inr (Or.inr (Or.inr (Or.inr (Or.inr (Or.inr (Or.inr (Or.inl h))))))))))))))))) (fun h => (h.elim (fun h => (Or.inr (Or.inr (Or.inr (Or.inr (Or.inr (Or.inr (Or.inr (Or.inr (Or.inr (Or.inr (Or.inr (Or.inr (Or.inr (Or.inr (Or.inr (Or.inr (Or.inr (Or.inr (Or.inr (Or.inr (Or.inr (Or.inr (Or.inr (Or.inr (Or.inl h)))))))))))))))))))))))))) (fun h => (Or.inr (Or.inr (Or.inr (Or.inr (Or.inr (Or.inr (Or.inr (Or.inr (Or.inr (Or.inr (Or.inr (Or.inr (Or.inr (Or.inr (Or.inr (Or.inr (Or.inl h)))))))))))))))))))))))))))))))))))) g297
        have FJ299 := gc_frc (W := fun q j => (q = 23 ∧ j = 9)) (V := fun q j => (q = 23 ∧ j = 9)) FJ279 (fun q j h => h) k297
        have t300 := (g297 23 1).resolve_left (fun h => h.elim (fun h => absurd h.2 (by decide)) (fun h => h.elim (fun h => absurd h.2 (by decide)) (fun h => h.elim (fun h => absurd h.2 (by decide)) (fun h => h.elim (fun h => absurd h.2 (by decide)) (fun h => h.elim (fun h => absurd h.2 (by decide)) (fun h => h.elim (fun h => absurd h.2 (by decide)) (fun h => h.elim (fun h => absurd h N_23__a2_7) (fun h => h.elim (fun h => absurd h.2 (by decide)) (fun h => h.elim (fun h => absurd h N_23__a2_8) (fun h => absurd h.2 (by decide)))))))))))
        have t301 := (g297 1 17).resolve_left (fun h => h.elim (fun h => absurd h.2 (by decide)) (fun h => h.elim (fun h => absurd h.2 (by decide)) (fun h => h.elim (fun h => absurd h.2 (by decide)) (fun h => h.elim (fun h => absurd h.2 (by decide)) (fun h => h.elim (fun h => absurd h.2 (by decide)) (fun h => h.elim (fun h => absurd h.2 (by decide)) (fun h => h.elim (fun h => absurd h N_1__a2_7) (fun h => h.elim (fun h => absurd h.2 (by decide)) (fun h => h.elim (fun h => absurd h N_1__a2_8) (fun h => absurd h.2 (by decide)))))))))))
        have t302 := (g297 a2 0).resolve_left (fun h => h.elim (fun h => absurd h.2 (by decide)) (fun h => h.elim (fun h => absurd h.2 (by decide)) (fun h => h.elim (fun h => absurd h.2 (by decide)) (fun h => h.elim (fun h => absurd h.2 (by decide)) (fun h => h.elim (fun h => absurd h.2 (by decide)) (fun h => h.elim (fun h => absurd h.2 (by decide)) (fun h => h.elim (fun h => absurd h N_a2__a2_7) (fun h => h.elim (fun h => absurd h.2 (by decide)) (fun h => h.elim (fun h => absurd h N_a2__a2_8) (fun h => absurd h.2 (by decide)))))))))))
        have t303 := (g297 a2 1).resolve_left (fun h => h.elim (fun h => absurd h.2 (by decide)) (fun h => h.elim (fun h => absurd h.2 (by decide)) (fun h => h.elim (fun h => absurd h.2 (by decide)) (fun h => h.elim (fun h => absurd h.2 (by decide)) (fun h => h.elim (fun h => absurd h.2 (by decide)) (fun h => h.elim (fun h => absurd h.2 (by decide)) (fun h => h.elim (fun h => absurd h N_a2__a2_7) (fun h => h.elim (fun h => absurd h.2 (by decide)) (fun h => h.elim (fun h => absurd h N_a2__a2_8) (fun h => absurd h.2 (by decide)))))))))))
        have t304 := (g297 a2 3).resolve_left (fun h => h.elim (fun h => absurd h.1 N_a2__39) (fun h => h.elim (fun h => absurd h.2 (by decide)) (fun h => h.elim (fun h => absurd h.2 (by decide)) (fun h => h.elim (fun h => absurd h.2 (by decide)) (fun h => h.elim (fun h => absurd h.2 (by decide)) (fun h => h.elim (fun h => absurd h.2 (by decide)) (fun h => h.elim (fun h => absurd h N_a2__a2_7) (fun h => h.elim (fun h => absurd h.2 (by decide)) (fun h => h.elim (fun h => absurd h N_a2__a2_8) (fun h => absurd h.2 (by decide)))))))))))
        have t305 := (g297 a2 4).resolve_left (fun h => h.elim (fun h => absurd h.2 (by decide)) (fun h => h.elim (fun h => absurd h.1 N_a2__39) (fun h => h.elim (fun h => absurd h.2 (by decide)) (fun h => h.elim (fun h => absurd h.2 (by decide)) (fun h => h.elim (fun h => absurd h.2 (by decide)) (fun h => h.elim (fun h => absurd h.2 (by decide)) (fun h => h.elim (fun h => absurd h N_a2__a2_7) (fun h => h.elim (fun h => absurd h.2 (by decide)) (fun h => h.elim (fun h => absurd h N_a2__a2_8) (fun h => absurd h.2 (by decide)))))))))))
        have t306 := (g297 a2 8).resolve_left (fun h => h.elim (fun h => absurd h.2 (by decide)) (fun h => h.elim (fun h => absurd h.2 (by decide)) (fun h => h.elim (fun h => absurd h.2 (by decide)) (fun h => h.elim (fun h => absurd h.2 (by decide)) (fun h => h.elim (fun h => absurd h.2 (by decide)) (fun h => h.elim (fun h => absurd h.1 N_a2__23) (fun h => h.elim (fun h => absurd h N_a2__a2_7) (fun h => h.elim (fun h => absurd h.2 (by decide)) (fun h => h.elim (fun h => absurd h N_a2__a2_8) (fun h => absurd h.2 (by decide)))))))))))
        have t307 := (g297 4 1).resolve_left (fun h => h.elim (fun h => absurd h.2 (by decide)) (fun h => h.elim (fun h => absurd h.2 (by decide)) (fun h => h.elim (fun h => absurd h.2 (by decide)) (fun h => h.elim (fun h => absurd h.2 (by decide)) (fun h => h.elim (fun h => absurd h.2 (by decide)) (fun h => h.elim (fun h => absurd h.2 (by decide)) (fun h => h.elim (fun h => absurd h N_4__a2_7) (fun h => h.elim (fun h => absurd h.2 (by decide)) (fun h => h.elim (fun h => absurd h N_4__a2_8) (fun h => absurd h.2 (by decide)))))))))))
        have t308 := (g297 t 13).resolve_left (fun h => h.elim (fun h => absurd h.2 (by decide)) (fun h => h.elim (fun h => absurd h.2 (by decide)) (fun h => h.elim (fun h => absurd h.2 (by decide)) (fun h => h.elim (fun h => absurd h.2 (by decide)) (fun h => h.elim (fun h => absurd h.2 (by decide)) (fun h => h.elim (fun h => absurd h.2 (by decide)) (fun h => h.elim (fun h => absurd h N_t__a2_7) (fun h => h.elim (fun h => absurd h.2 (by decide)) (fun h => h.elim (fun h => absurd h N_t__a2_8) (fun h => absurd h.2 (by decide)))))))))))
        have t309 := (g297 39 2).resolve_left (fun h => h.elim (fun h => absurd h.2 (by decide)) (fun h => h.elim (fun h => absurd h.2 (by decide)) (fun h => h.elim (fun h => absurd h.2 (by decide)) (fun h => h.elim (fun h => absurd h.2 (by decide)) (fun h => h.elim (fun h => absurd h.2 (by decide)) (fun h => h.elim (fun h => absurd h.2 (by decide)) (fun h => h.elim (fun h => absurd h N_39__a2_7) (fun h => h.elim (fun h => absurd h.2 (by decide)) (fun h => h.elim (fun h => absurd h N_39__a2_8) (fun h => absurd h.2 (by decide)))))))))))
        have f310 := (show 0 ≤ I298 23 5 ∧ I298 23 5 ≤ 1000 from gc_in hI298 R_23 rfl rfl)
        have f311 := (show 0 ≤ I298 23 6 ∧ I298 23 6 ≤ 1001 from gc_in hI298 R_23 rfl rfl)
        have f312 := (show 0 ≤ I298 23 7 ∧ I298 23 7 ≤ 125 from gc_in hI298 R_23 rfl rfl)
        have f313 := (show 0 ≤ I298 a2 12 ∧ I298 a2 12 ≤ 6 from gc_in hI298 R_a2 rfl rfl)
        have f314 := (show 0 ≤ I298 a2 14 ∧ I298 a2 14 ≤ 6 from gc_in hI298 R_a2 rfl rfl)
        have t315 := gc_TK_mo KTK_I298
        have KCT_I298 := gc_CT_fr KCT_I278 ((g297 a2 8).resolve_left (fun h => h.elim (fun h => absurd h.2 (by decide)) (fun h => h.elim (fun h => absurd h.2 (by decide)) (fun h => h.elim (fun h => absurd h.2 (by decide)) (fun h => h.elim (fun h => absurd h.2 (by decide)) (fun h => h.elim (fun h => absurd h.2 (by decide)) (fun h => h.elim (fun h => absurd h.1 N_a2__23) (fun h => h.elim (fun h => absurd h N_a2__a2_7) (fun h => h.elim (fun h => absurd h.2 (by decide)) (fun h => h.elim (fun h => absurd h N_a2__a2_8) (fun h => absurd h.2 (by decide)))))))))))) (fun k => (g297 (a2 + 6) k).resolve_left (fun h => h.elim (fun h => absurd h.1 N_a2_6__39) (fun h => h.elim (fun h => absurd h.1 N_a2_6__39) (fun h => h.elim (fun h => absurd h.1 N_a2_6__23) (fun h => h.elim (fun h => absurd h.1 N_a2_6__23) (fun h => h.elim (fun h => absurd h.1 N_a2_6__23) (fun h => h.elim (fun h => absurd h.1 N_a2_6__23) (fun h => h.elim (fun h => absurd h N_a2_6__a2_7) (fun h => h.elim (fun h => absurd h.1 N_a2_6__a2) (fun h => h.elim (fun h => absurd h N_a2_6__a2_8) (fun h => absurd h.1 N_a2_6__a2)))))))))))
        refine gv_callV hD rfl (As := [.inr (.inr (some a2))]) (st := []) rfl B_39 S_39 rfl (gc_lV6 hws rfl) (Nat.le_of_ble_eq_true rfl) (gz_Ev_mono (d := 5) (by decide) E297) ?_
        show gv_X _ _ (128, [(3, .inl (I257 23 5)), (0, .inr (.inr (some 39))), (1, .inl a1), (2, .inr (.inr (some a2)))], [.inl z297], sh, gc_h sh I298 J299 A)
        refine gv_if_eq (t := 147) hD rfl rfl ⟨by omega, by omega⟩ (fun c316 => ?_) (fun c316 => ?_)
        · show gv_X _ _ (147, [(3, .inl (I257 23 5)), (0, .inr (.inr (some 39))), (1, .inl a1), (2, .inr (.inr (some a2)))], [], sh, gc_h sh I298 J299 A)
          refine gv_pick [] rfl ?_
          exact L147 I298 J299 hI298 FI298 FJ299 KLT_I298 KTK_I298 (by omega)
        · show gv_X _ _ (131, [(3, .inl (I257 23 5)), (0, .inr (.inr (some 39))), (1, .inl a1), (2, .inr (.inr (some a2)))], [], sh, gc_h sh I298 J299 A)
          refine gv_run 1 true hD (pc' := 132) (lv' := [(3, .inl (I257 23 5)), (0, .inr (.inr (some 39))), (1, .inl a1), (2, .inr (.inr (some a2)))]) (st' := [.inr (.inr (some 39))]) (h' := gc_h sh I298 J299 A) (C := (True ∧ True)) rfl ⟨trivial, trivial⟩ ?_
          obtain ⟨r317, h317, E317, P317⟩ := d_X6_readCost (ws0 := ws0) (tb := tb) hws htb sh ro I298 J299 A hI298   hb     KLT_I298 KTK_I298
          obtain ⟨I318, J319, rfl, hI318, g317, k317, KLT_I318, KTK_I318, ⟨z317, rfl, q317⟩⟩ := P317
          have FI318 := gc_frc (W := fun q j => (q = 39 ∧ j = 3) ∨ (q = 39 ∧ j = 4) ∨ (q = 23 ∧ j = 5) ∨ (q = 23 ∧ j = 6) ∨ (q = 23 ∧ j = 7) ∨ (q = 23 ∧ j = 8) ∨ (q = 1 ∧ j = 17) ∨ (q = 1 ∧ j = 18) ∨ q = 20 ∨ (q = a2 ∧ j = 0) ∨ (q = a2 ∧ j = 1) ∨ (q = a2 ∧ j = 2) ∨ (q = a2 ∧ j = 3) ∨ (q = a2 ∧ j = 4) ∨ (q = a2 ∧ j = 8) ∨ (q = a2 ∧ j = 12) ∨ (q = a2 ∧ j = 14) ∨ q = (a2 + 1) ∨ q = (a2 + 2) ∨ q = (a2 + 3) ∨ q = (a2 + 4) ∨ q = (a2 + 5) ∨ q = (a2 + 6) ∨ q = (a2 + 7) ∨ q = (a2 + 8) ∨ (q = 39 ∧ j = 6) ∨ (q = 39 ∧ j = 7) ∨ (q = t ∧ j = 13)) (V := fun q j => (q = 39 ∧ j = 3) ∨ (q = 39 ∧ j = 4) ∨ (q = 23 ∧ j = 5) ∨ (q = 23 ∧ j = 6) ∨ (q = 23 ∧ j = 7) ∨ (q = 23 ∧ j = 8) ∨ (q = 39 ∧ j = 7)) FI298 (fun q j h => (h.elim (fun h => (Or.inl h)) (fun h => (h.elim (fun h => (Or.inr (Or.inl h))) (fun h => (h.elim (fun h => (Or.inr (Or.inr (Or.inl h)))) (fun h => (h.elim (fun h => (Or.inr (Or.inr (Or.inr (Or.inl h))))) (fun h => (h.elim (fun h => (Or.inr (Or.inr (Or.inr (Or.inr (Or.inl h)))))) (fun h => (h.elim (fun h => (Or.inr (Or.inr (Or.inr (Or.inr (Or.inr (Or.inl h))))))) (fun h => (Or.inr (Or.inr (Or.inr (Or.inr (Or.inr (Or.inr (Or.inr (Or.inr (Or.inr (Or.inr (Or.inr (Or.inr (Or.inr (Or.inr (Or.inr (Or.inr (Or.inr (Or.inr (Or.inr (Or.inr (Or.inr (Or.inr (Or.inr (Or.inr (Or.inr (Or.inr (Or.inl h)))))))))))))))))))))))))))))))))))))))) g317
          have FJ319 := gc_frc (W := fun q j => (q = 23 ∧ j = 9)) (V := fun q j => (q = 23 ∧ j = 9)) FJ299 (fun q j h => h) k317
          have t320 := (g317 23 1).resolve_left (fun h => h.elim (fun h => absurd h.2 (by decide)) (fun h => h.elim (fun h => absurd h.2 (by decide)) (fun h => h.elim (fun h => absurd h.2 (by decide)) (fun h => h.elim (fun h => absurd h.2 (by decide)) (fun h => h.elim (fun h => absurd h.2 (by decide)) (fun h => h.elim (fun h => absurd h.2 (by decide)) (fun h => absurd h.2 (by decide))))))))
          have t321 := (g317 1 17).resolve_left (fun h => h.elim (fun h => absurd h.2 (by decide)) (fun h => h.elim (fun h => absurd h.2 (by decide)) (fun h => h.elim (fun h => absurd h.2 (by decide)) (fun h => h.elim (fun h => absurd h.2 (by decide)) (fun h => h.elim (fun h => absurd h.2 (by decide)) (fun h => h.elim (fun h => absurd h.2 (by decide)) (fun h => absurd h.2 (by decide))))))))
          have t322 := (g317 a2 0).resolve_left (fun h => h.elim (fun h => absurd h.2 (by decide)) (fun h => h.elim (fun h => absurd h.2 (by decide)) (fun h => h.elim (fun h => absurd h.2 (by decide)) (fun h => h.elim (fun h => absurd h.2 (by decide)) (fun h => h.elim (fun h => absurd h.2 (by decide)) (fun h => h.elim (fun h => absurd h.2 (by decide)) (fun h => absurd h.2 (by decide))))))))
          have t323 := (g317 a2 1).resolve_left (fun h => h.elim (fun h => absurd h.2 (by decide)) (fun h => h.elim (fun h => absurd h.2 (by decide)) (fun h => h.elim (fun h => absurd h.2 (by decide)) (fun h => h.elim (fun h => absurd h.2 (by decide)) (fun h => h.elim (fun h => absurd h.2 (by decide)) (fun h => h.elim (fun h => absurd h.2 (by decide)) (fun h => absurd h.2 (by decide))))))))
          have t324 := (g317 a2 3).resolve_left (fun h => h.elim (fun h => absurd h.1 N_a2__39) (fun h => h.elim (fun h => absurd h.2 (by decide)) (fun h => h.elim (fun h => absurd h.2 (by decide)) (fun h => h.elim (fun h => absurd h.2 (by decide)) (fun h => h.elim (fun h => absurd h.2 (by decide)) (fun h => h.elim (fun h => absurd h.2 (by decide)) (fun h => absurd h.2 (by decide))))))))
          have t325 := (g317 a2 4).resolve_left (fun h => h.elim (fun h => absurd h.2 (by decide)) (fun h => h.elim (fun h => absurd h.1 N_a2__39) (fun h => h.elim (fun h => absurd h.2 (by decide)) (fun h => h.elim (fun h => absurd h.2 (by decide)) (fun h => h.elim (fun h => absurd h.2 (by decide)) (fun h => h.elim (fun h => absurd h.2 (by decide)) (fun h => absurd h.2 (by decide))))))))
          have t326 := (g317 a2 8).resolve_left (fun h => h.elim (fun h => absurd h.2 (by decide)) (fun h => h.elim (fun h => absurd h.2 (by decide)) (fun h => h.elim (fun h => absurd h.2 (by decide)) (fun h => h.elim (fun h => absurd h.2 (by decide)) (fun h => h.elim (fun h => absurd h.2 (by decide)) (fun h => h.elim (fun h => absurd h.1 N_a2__23) (fun h => absurd h.2 (by decide))))))))
          have t327 := (g317 a2 12).resolve_left (fun h => h.elim (fun h => absurd h.2 (by decide)) (fun h => h.elim (fun h => absurd h.2 (by decide)) (fun h => h.elim (fun h => absurd h.2 (by decide)) (fun h => h.elim (fun h => absurd h.2 (by decide)) (fun h => h.elim (fun h => absurd h.2 (by decide)) (fun h => h.elim (fun h => absurd h.2 (by decide)) (fun h => absurd h.2 (by decide))))))))
          have t328 := (g317 a2 14).resolve_left (fun h => h.elim (fun h => absurd h.2 (by decide)) (fun h => h.elim (fun h => absurd h.2 (by decide)) (fun h => h.elim (fun h => absurd h.2 (by decide)) (fun h => h.elim (fun h => absurd h.2 (by decide)) (fun h => h.elim (fun h => absurd h.2 (by decide)) (fun h => h.elim (fun h => absurd h.2 (by decide)) (fun h => absurd h.2 (by decide))))))))
          have t329 := (g317 4 1).resolve_left (fun h => h.elim (fun h => absurd h.2 (by decide)) (fun h => h.elim (fun h => absurd h.2 (by decide)) (fun h => h.elim (fun h => absurd h.2 (by decide)) (fun h => h.elim (fun h => absurd h.2 (by decide)) (fun h => h.elim (fun h => absurd h.2 (by decide)) (fun h => h.elim (fun h => absurd h.2 (by decide)) (fun h => absurd h.2 (by decide))))))))
          have t330 := (g317 t 13).resolve_left (fun h => h.elim (fun h => absurd h.2 (by decide)) (fun h => h.elim (fun h => absurd h.2 (by decide)) (fun h => h.elim (fun h => absurd h.2 (by decide)) (fun h => h.elim (fun h => absurd h.2 (by decide)) (fun h => h.elim (fun h => absurd h.2 (by decide)) (fun h => h.elim (fun h => absurd h.2 (by decide)) (fun h => absurd h.2 (by decide))))))))
          have t331 := (g317 39 2).resolve_left (fun h => h.elim (fun h => absurd h.2 (by decide)) (fun h => h.elim (fun h => absurd h.2 (by decide)) (fun h => h.elim (fun h => absurd h.2 (by decide)) (fun h => h.elim (fun h => absurd h.2 (by decide)) (fun h => h.elim (fun h => absurd h.2 (by decide)) (fun h => h.elim (fun h => absurd h.2 (by decide)) (fun h => absurd h.2 (by decide))))))))
          have f332 := (show 0 ≤ I318 23 5 ∧ I318 23 5 ≤ 1000 from gc_in hI318 R_23 rfl rfl)
          have f333 := (show 0 ≤ I318 23 6 ∧ I318 23 6 ≤ 1001 from gc_in hI318 R_23 rfl rfl)
          have f334 := (show 0 ≤ I318 23 7 ∧ I318 23 7 ≤ 125 from gc_in hI318 R_23 rfl rfl)
          have t335 := gc_TK_mo KTK_I318
          have KCT_I318 := gc_CT_fr KCT_I298 ((g317 a2 8).resolve_left (fun h => h.elim (fun h => absurd h.2 (by decide)) (fun h => h.elim (fun h => absurd h.2 (by decide)) (fun h => h.elim (fun h => absurd h.2 (by decide)) (fun h => h.elim (fun h => absurd h.2 (by decide)) (fun h => h.elim (fun h => absurd h.2 (by decide)) (fun h => h.elim (fun h => absurd h.1 N_a2__23) (fun h => absurd h.2 (by decide))))))))) (fun k => (g317 (a2 + 6) k).resolve_left (fun h => h.elim (fun h => absurd h.1 N_a2_6__39) (fun h => h.elim (fun h => absurd h.1 N_a2_6__39) (fun h => h.elim (fun h => absurd h.1 N_a2_6__23) (fun h => h.elim (fun h => absurd h.1 N_a2_6__23) (fun h => h.elim (fun h => absurd h.1 N_a2_6__23) (fun h => h.elim (fun h => absurd h.1 N_a2_6__23) (fun h => absurd h.1 N_a2_6__39))))))))
          refine gv_callV hD rfl (As := []) (st := []) rfl B_39 S_39 rfl (gc_lV6 hws rfl) (Nat.le_of_ble_eq_true rfl) (gz_Ev_mono (d := 3) (by decide) E317) ?_
          show gv_X _ _ (135, [(3, .inl (I257 23 5)), (0, .inr (.inr (some 39))), (1, .inl a1), (2, .inr (.inr (some a2)))], [.inl z317], sh, gc_h sh I318 J319 A)
          refine gv_if_eq (t := 147) hD rfl rfl ⟨by omega, by omega⟩ (fun c336 => ?_) (fun c336 => ?_)
          · show gv_X _ _ (147, [(3, .inl (I257 23 5)), (0, .inr (.inr (some 39))), (1, .inl a1), (2, .inr (.inr (some a2)))], [], sh, gc_h sh I318 J319 A)
            refine gv_pick [] rfl ?_
            exact L147 I318 J319 hI318 FI318 FJ319 KLT_I318 KTK_I318 (by omega)
          · show gv_X _ _ (138, [(3, .inl (I257 23 5)), (0, .inr (.inr (some 39))), (1, .inl a1), (2, .inr (.inr (some a2)))], [], sh, gc_h sh I318 J319 A)
            refine gv_run 2 true hD (pc' := 141) (lv' := [(3, .inl (I257 23 5)), (0, .inr (.inr (some 39))), (1, .inl a1), (2, .inr (.inr (some a2)))]) (st' := [.inl 59, .inr (.inr (some 39))]) (h' := gc_h sh I318 J319 A) (C := ((True ∧ True) ∧ True)) rfl ⟨⟨trivial, trivial⟩, trivial⟩ ?_
            obtain ⟨r337, h337, E337, P337⟩ := d_X6_take (ws0 := ws0) (tb := tb) hws htb sh ro I318 J319 A hI318  59 hb   ⟨by omega, by omega⟩ (by omega) KLT_I318 KTK_I318
            obtain ⟨I338, J339, rfl, hI338, g337, k337, KLT_I338, KTK_I338, ⟨z337, rfl, q337⟩⟩ := P337
            have FI338 := gc_frc (W := fun q j => (q = 39 ∧ j = 3) ∨ (q = 39 ∧ j = 4) ∨ (q = 23 ∧ j = 5) ∨ (q = 23 ∧ j = 6) ∨ (q = 23 ∧ j = 7) ∨ (q = 23 ∧ j = 8) ∨ (q = 1 ∧ j = 17) ∨ (q = 1 ∧ j = 18) ∨ q = 20 ∨ (q = a2 ∧ j = 0) ∨ (q = a2 ∧ j = 1) ∨ (q = a2 ∧ j = 2) ∨ (q = a2 ∧ j = 3) ∨ (q = a2 ∧ j = 4) ∨ (q = a2 ∧ j = 8) ∨ (q = a2 ∧ j = 12) ∨ (q = a2 ∧ j = 14) ∨ q = (a2 + 1) ∨ q = (a2 + 2) ∨ q = (a2 + 3) ∨ q = (a2 + 4) ∨ q = (a2 + 5) ∨ q = (a2 + 6) ∨ q = (a2 + 7) ∨ q = (a2 + 8) ∨ (q = 39 ∧ j = 6) ∨ (q = 39 ∧ j = 7) ∨ (q = t ∧ j = 13)) (V := fun q j => (q = 39 ∧ j = 3) ∨ (q = 39 ∧ j = 4) ∨ (q = 23 ∧ j = 5) ∨ (q = 23 ∧ j = 6) ∨ (q = 23 ∧ j = 7) ∨ (q = 23 ∧ j = 8)) FI318 (fun q j h => (h.elim (fun h => (Or.inl h)) (fun h => (h.elim (fun h => (Or.inr (Or.inl h))) (fun h => (h.elim (fun h => (Or.inr (Or.inr (Or.inl h)))) (fun h => (h.elim (fun h => (Or.inr (Or.inr (Or.inr (Or.inl h))))) (fun h => (h.elim (fun h => (Or.inr (Or.inr (Or.inr (Or.inr (Or.inl h)))))) (fun h => (Or.inr (Or.inr (Or.inr (Or.inr (Or.inr (Or.inl h))))))))))))))))) g337
            have FJ339 := gc_frc (W := fun q j => (q = 23 ∧ j = 9)) (V := fun q j => (q = 23 ∧ j = 9)) FJ319 (fun q j h => h) k337
            have t340 := (g337 23 1).resolve_left (fun h => h.elim (fun h => absurd h.2 (by decide)) (fun h => h.elim (fun h => absurd h.2 (by decide)) (fun h => h.elim (fun h => absurd h.2 (by decide)) (fun h => h.elim (fun h => absurd h.2 (by decide)) (fun h => h.elim (fun h => absurd h.2 (by decide)) (fun h => absurd h.2 (by decide)))))))
            have t341 := (g337 1 17).resolve_left (fun h => h.elim (fun h => absurd h.2 (by decide)) (fun h => h.elim (fun h => absurd h.2 (by decide)) (fun h => h.elim (fun h => absurd h.2 (by decide)) (fun h => h.elim (fun h => absurd h.2 (by decide)) (fun h => h.elim (fun h => absurd h.2 (by decide)) (fun h => absurd h.2 (by decide)))))))
            have t342 := (g337 a2 0).resolve_left (fun h => h.elim (fun h => absurd h.2 (by decide)) (fun h => h.elim (fun h => absurd h.2 (by decide)) (fun h => h.elim (fun h => absurd h.2 (by decide)) (fun h => h.elim (fun h => absurd h.2 (by decide)) (fun h => h.elim (fun h => absurd h.2 (by decide)) (fun h => absurd h.2 (by decide)))))))
            have t343 := (g337 a2 1).resolve_left (fun h => h.elim (fun h => absurd h.2 (by decide)) (fun h => h.elim (fun h => absurd h.2 (by decide)) (fun h => h.elim (fun h => absurd h.2 (by decide)) (fun h => h.elim (fun h => absurd h.2 (by decide)) (fun h => h.elim (fun h => absurd h.2 (by decide)) (fun h => absurd h.2 (by decide)))))))
            have t344 := (g337 a2 3).resolve_left (fun h => h.elim (fun h => absurd h.1 N_a2__39) (fun h => h.elim (fun h => absurd h.2 (by decide)) (fun h => h.elim (fun h => absurd h.2 (by decide)) (fun h => h.elim (fun h => absurd h.2 (by decide)) (fun h => h.elim (fun h => absurd h.2 (by decide)) (fun h => absurd h.2 (by decide)))))))
            have t345 := (g337 a2 4).resolve_left (fun h => h.elim (fun h => absurd h.2 (by decide)) (fun h => h.elim (fun h => absurd h.1 N_a2__39) (fun h => h.elim (fun h => absurd h.2 (by decide)) (fun h => h.elim (fun h => absurd h.2 (by decide)) (fun h => h.elim (fun h => absurd h.2 (by decide)) (fun h => absurd h.2 (by decide)))))))
            have t346 := (g337 a2 8).resolve_left (fun h => h.elim (fun h => absurd h.2 (by decide)) (fun h => h.elim (fun h => absurd h.2 (by decide)) (fun h => h.elim (fun h => absurd h.2 (by decide)) (fun h => h.elim (fun h => absurd h.2 (by decide)) (fun h => h.elim (fun h => absurd h.2 (by decide)) (fun h => absurd h.1 N_a2__23))))))
            have t347 := (g337 a2 12).resolve_left (fun h => h.elim (fun h => absurd h.2 (by decide)) (fun h => h.elim (fun h => absurd h.2 (by decide)) (fun h => h.elim (fun h => absurd h.2 (by decide)) (fun h => h.elim (fun h => absurd h.2 (by decide)) (fun h => h.elim (fun h => absurd h.2 (by decide)) (fun h => absurd h.2 (by decide)))))))
            have t348 := (g337 a2 14).resolve_left (fun h => h.elim (fun h => absurd h.2 (by decide)) (fun h => h.elim (fun h => absurd h.2 (by decide)) (fun h => h.elim (fun h => absurd h.2 (by decide)) (fun h => h.elim (fun h => absurd h.2 (by decide)) (fun h => h.elim (fun h => absurd h.2 (by decide)) (fun h => absurd h.2 (by decide)))))))
            have t349 := (g337 4 1).resolve_left (fun h => h.elim (fun h => absurd h.2 (by decide)) (fun h => h.elim (fun h => absurd h.2 (by decide)) (fun h => h.elim (fun h => absurd h.2 (by decide)) (fun h => h.elim (fun h => absurd h.2 (by decide)) (fun h => h.elim (fun h => absurd h.2 (by decide)) (fun h => absurd h.2 (by decide)))))))
            have t350 := (g337 t 13).resolve_left (fun h => h.elim (fun h => absurd h.2 (by decide)) (fun h => h.elim (fun h => absurd h.2 (by decide)) (fun h => h.elim (fun h => absurd h.2 (by decide)) (fun h => h.elim (fun h => absurd h.2 (by decide)) (fun h => h.elim (fun h => absurd h.2 (by decide)) (fun h => absurd h.2 (by decide)))))))
            have t351 := (g337 39 2).resolve_left (fun h => h.elim (fun h => absurd h.2 (by decide)) (fun h => h.elim (fun h => absurd h.2 (by decide)) (fun h => h.elim (fun h => absurd h.2 (by decide)) (fun h => h.elim (fun h => absurd h.2 (by decide)) (fun h => h.elim (fun h => absurd h.2 (by decide)) (fun h => absurd h.2 (by decide)))))))
            have f352 := (show 0 ≤ I338 23 5 ∧ I338 23 5 ≤ 1000 from gc_in hI338 R_23 rfl rfl)
            have f353 := (show 0 ≤ I338 23 6 ∧ I338 23 6 ≤ 1001 from gc_in hI338 R_23 rfl rfl)
            have f354 := (show 0 ≤ I338 23 7 ∧ I338 23 7 ≤ 125 from gc_in hI338 R_23 rfl rfl)
            have t355 := gc_TK_mo KTK_I338
            have KCT_I338 := gc_CT_fr KCT_I318 ((g337 a2 8).resolve_left (fun h => h.elim (fun h => absurd h.2 (by decide)) (fun h => h.elim (fun h => absurd h.2 (by decide)) (fun h => h.elim (fun h => absurd h.2 (by decide)) (fun h => h.elim (fun h => absurd h.2 (by decide)) (fun h => h.elim (fun h => absurd h.2 (by decide)) (fun h => absurd h.1 N_a2__23))))))) (fun k => (g337 (a2 + 6) k).resolve_left (fun h => h.elim (fun h => absurd h.1 N_a2_6__39) (fun h => h.elim (fun h => absurd h.1 N_a2_6__39) (fun h => h.elim (fun h => absurd h.1 N_a2_6__23) (fun h => h.elim (fun h => absurd h.1 N_a2_6__23) (fun h => h.elim (fun h => absurd h.1 N_a2_6__23) (fun h => absurd h.1 N_a2_6__23)))))))
            refine gv_callV hD rfl (As := [.inl 59]) (st := []) rfl B_39 S_39 rfl (gc_lV6 hws rfl) (Nat.le_of_ble_eq_true rfl) (gz_Ev_mono (d := 3) (by decide) E337) ?_
            show gv_X _ _ (144, [(3, .inl (I257 23 5)), (0, .inr (.inr (some 39))), (1, .inl a1), (2, .inr (.inr (some a2)))], [.inl z337], sh, gc_h sh I338 J339 A)
            refine gv_if_ne (t := 149) hD rfl rfl ⟨by omega, by omega⟩ (fun c356 => ?_) (fun c356 => ?_)
            · show gv_X _ _ (149, [(3, .inl (I257 23 5)), (0, .inr (.inr (some 39))), (1, .inl a1), (2, .inr (.inr (some a2)))], [], sh, gc_h sh I338 J339 A)
              refine gv_run 2 true hD (pc' := 151) (lv' := [(3, .inl (I257 23 5)), (0, .inr (.inr (some 39))), (1, .inl a1), (2, .inr (.inr (some a2)))]) (st' := [.inr (.inr (some 39)), .inr (.inr (some a2))]) (h' := gc_h sh I338 J339 A) (C := ((True ∧ True) ∧ True)) rfl ⟨⟨trivial, trivial⟩, trivial⟩ ?_
              have f357 := (show 0 ≤ I338 39 7 ∧ I338 39 7 ≤ 10000 from gc_in hI338 R_39 rfl rfl)
              refine gv_get hD rfl rfl S_39 ⟨by decide, B_39⟩ (gc_hI S_39 rfl) ?_
              show gv_X _ _ (154, [(3, .inl (I257 23 5)), (0, .inr (.inr (some 39))), (1, .inl a1), (2, .inr (.inr (some a2)))], [.inl (I338 39 7), .inr (.inr (some a2))], sh, gc_h sh I338 J339 A)
              refine gv_put hD rfl rfl S_a2 ⟨by decide, B_a2⟩ rfl trivial ?_
              refine gc_st (k := 3) hI338 S_a2 rfl R_a2 (lo := 0) (hi := 10000) rfl rfl (by omega) (by omega) (fun I358 hI358 q359 p359 => ?_)
              have FI358 := gc_frs (W := fun q j => (q = 39 ∧ j = 3) ∨ (q = 39 ∧ j = 4) ∨ (q = 23 ∧ j = 5) ∨ (q = 23 ∧ j = 6) ∨ (q = 23 ∧ j = 7) ∨ (q = 23 ∧ j = 8) ∨ (q = 1 ∧ j = 17) ∨ (q = 1 ∧ j = 18) ∨ q = 20 ∨ (q = a2 ∧ j = 0) ∨ (q = a2 ∧ j = 1) ∨ (q = a2 ∧ j = 2) ∨ (q = a2 ∧ j = 3) ∨ (q = a2 ∧ j = 4) ∨ (q = a2 ∧ j = 8) ∨ (q = a2 ∧ j = 12) ∨ (q = a2 ∧ j = 14) ∨ q = (a2 + 1) ∨ q = (a2 + 2) ∨ q = (a2 + 3) ∨ q = (a2 + 4) ∨ q = (a2 + 5) ∨ q = (a2 + 6) ∨ q = (a2 + 7) ∨ q = (a2 + 8) ∨ (q = 39 ∧ j = 6) ∨ (q = 39 ∧ j = 7) ∨ (q = t ∧ j = 13)) FI338 (Or.inr (Or.inr (Or.inr (Or.inr (Or.inr (Or.inr (Or.inr (Or.inr (Or.inr (Or.inr (Or.inr (Or.inr (Or.inl ⟨rfl, rfl⟩))))))))))))) p359
              have t360 := p359 23 1 (fun h => absurd h.2 (by decide))
              have t361 := p359 23 5 (fun h => absurd h.2 (by decide))
              have t362 := p359 23 6 (fun h => absurd h.2 (by decide))
              have t363 := p359 23 7 (fun h => absurd h.2 (by decide))
              have t364 := p359 1 17 (fun h => absurd h.2 (by decide))
              have t365 := p359 a2 0 (fun h => absurd h.2 (by decide))
              have t366 := p359 a2 1 (fun h => absurd h.2 (by decide))
              have t367 := p359 a2 4 (fun h => absurd h.2 (by decide))
              have t368 := p359 a2 8 (fun h => absurd h.2 (by decide))
              have t369 := p359 a2 12 (fun h => absurd h.2 (by decide))
              have t370 := p359 a2 14 (fun h => absurd h.2 (by decide))
              have t371 := p359 4 1 (fun h => absurd h.2 (by decide))
              have t372 := p359 t 13 (fun h => absurd h.2 (by decide))
              have t373 := p359 39 2 (fun h => absurd h.2 (by decide))
              have f374 := (show 0 ≤ I358 a2 3 ∧ I358 a2 3 ≤ 10000 from gc_in hI358 R_a2 rfl rfl)
              have KLT_I358 := gc_LT_fr KLT_I338 (p359 23 5 (fun h => absurd h.2 (by decide))) (p359 23 6 (fun h => absurd h.2 (by decide))) (p359 23 7 (fun h => absurd h.2 (by decide))) (fun k => p359 24 k (fun h => absurd h.1 N_24__a2))
              have KTK_I358 := gc_TK_fr KTK_I338 (p359 23 1 (fun h => absurd h.2 (by decide))) (p359 23 5 (fun h => absurd h.2 (by decide))) (p359 23 6 (fun h => absurd h.2 (by decide))) (p359 23 7 (fun h => absurd h.2 (by decide)))
              have KCT_I358 := gc_CT_fr KCT_I338 (p359 a2 8 (fun h => absurd h.2 (by decide))) (fun k => p359 (a2 + 6) k (fun h => absurd h.1 N_a2_6__a2))
              show gv_X _ _ (157, [(3, .inl (I257 23 5)), (0, .inr (.inr (some 39))), (1, .inl a1), (2, .inr (.inr (some a2)))], [], sh, gc_h sh I358 J339 A)
              refine gv_run 1 true hD (pc' := 158) (lv' := [(3, .inl (I257 23 5)), (0, .inr (.inr (some 39))), (1, .inl a1), (2, .inr (.inr (some a2)))]) (st' := [.inr (.inr (some a2))]) (h' := gc_h sh I358 J339 A) (C := (True ∧ True)) rfl ⟨trivial, trivial⟩ ?_
              have f375 := (show 0 ≤ I358 a2 4 ∧ I358 a2 4 ≤ 6 from gc_in hI358 R_a2 rfl rfl)
              refine gv_get hD rfl rfl S_a2 ⟨by decide, B_a2⟩ (gc_hI S_a2 rfl) ?_
              show gv_X _ _ (161, [(3, .inl (I257 23 5)), (0, .inr (.inr (some 39))), (1, .inl a1), (2, .inr (.inr (some a2)))], [.inl (I358 a2 4)], sh, gc_h sh I358 J339 A)
              refine gv_run 1 true hD (pc' := 162) (lv' := [(3, .inl (I257 23 5)), (0, .inr (.inr (some 39))), (1, .inl a1), (2, .inr (.inr (some a2)))]) (st' := [.inl 1, .inl (I358 a2 4)]) (h' := gc_h sh I358 J339 A) (C := (True ∧ True)) rfl ⟨trivial, trivial⟩ ?_
              refine gv_icmp_ne (t := 217) hD rfl rfl ⟨⟨by omega, by omega⟩, ⟨by omega, by omega⟩⟩ (fun c376 => ?_) (fun c376 => ?_)
              · show gv_X _ _ (217, [(3, .inl (I257 23 5)), (0, .inr (.inr (some 39))), (1, .inl a1), (2, .inr (.inr (some a2)))], [], sh, gc_h sh I358 J339 A)
                refine gv_pick [1, 2, 3] rfl ?_
                exact L217 I358 J339 hI358 FI358 FJ339 KLT_I358 KTK_I358 KCT_I358 (by omega) (by rw [show I358 a2 4 = I278 a2 4 from by omega]; exact (gc_LI_fr (q277.2.2.2.2.2.2.resolve_left (by omega)) (((((p359 a2 1 (fun h => absurd h.1 (by omega))).trans ((g337 a2 1).resolve_left (by omega))).trans ((g317 a2 1).resolve_left (by omega))).trans ((g297 a2 1).resolve_left (by omega)))) (((((p359 a2 8 (fun h => absurd h.1 (by omega))).trans ((g337 a2 8).resolve_left (by omega))).trans ((g317 a2 8).resolve_left (by omega))).trans ((g297 a2 8).resolve_left (by omega)))) (fun k => ((((p359 (a2 + 1) k (fun h => absurd h.1 (by omega))).trans ((g337 (a2 + 1) k).resolve_left (by omega))).trans ((g317 (a2 + 1) k).resolve_left (by omega))).trans ((g297 (a2 + 1) k).resolve_left (by omega)))) (fun k => ((((p359 (a2 + 4) k (fun h => absurd h.1 (by omega))).trans ((g337 (a2 + 4) k).resolve_left (by omega))).trans ((g317 (a2 + 4) k).resolve_left (by omega))).trans ((g297 (a2 + 4) k).resolve_left (by omega)))) (fun k => ((((p359 (a2 + 6) k (fun h => absurd h.1 (by omega))).trans ((g337 (a2 + 6) k).resolve_left (by omega))).trans ((g317 (a2 + 6) k).resolve_left (by omega))).trans ((g297 (a2 + 6) k).resolve_left (by omega)))) (fun k => ((((p359 12 k (fun h => absurd h.1 (by omega))).trans ((g337 12 k).resolve_left (by omega))).trans ((g317 12 k).resolve_left (by omega))).trans ((g297 12 k).resolve_left (by omega)))))) (fun h1 h2 => by have h8 := gc_LI_1 (q277.2.2.2.2.2.2.resolve_left (by omega)) (by omega); have h7 : I358 (a2 + 1) 0 = I278 (a2 + 1) 0 := ((((p359 (a2 + 1) 0 (fun h => absurd h.1 (by omega))).trans ((g337 (a2 + 1) 0).resolve_left (by omega))).trans ((g317 (a2 + 1) 0).resolve_left (by omega))).trans ((g297 (a2 + 1) 0).resolve_left (by omega))); omega)
              · show gv_X _ _ (165, [(3, .inl (I257 23 5)), (0, .inr (.inr (some 39))), (1, .inl a1), (2, .inr (.inr (some a2)))], [], sh, gc_h sh I358 J339 A)
                refine gv_run 1 true hD (pc' := 166) (lv' := [(3, .inl (I257 23 5)), (0, .inr (.inr (some 39))), (1, .inl a1), (2, .inr (.inr (some a2)))]) (st' := [.inr (.inr (some a2))]) (h' := gc_h sh I358 J339 A) (C := (True ∧ True)) rfl ⟨trivial, trivial⟩ ?_
                have f377 := (show 0 ≤ I358 a2 8 ∧ I358 a2 8 ≤ 4 from gc_in hI358 R_a2 rfl rfl)
                refine gv_get hD rfl rfl S_a2 ⟨by decide, B_a2⟩ (gc_hI S_a2 rfl) ?_
                show gv_X _ _ (169, [(3, .inl (I257 23 5)), (0, .inr (.inr (some 39))), (1, .inl a1), (2, .inr (.inr (some a2)))], [.inl (I358 a2 8)], sh, gc_h sh I358 J339 A)
                refine gv_run 1 true hD (pc' := 170) (lv' := [(3, .inl (I257 23 5)), (0, .inr (.inr (some 39))), (1, .inl a1), (2, .inr (.inr (some a2)))]) (st' := [.inl 1, .inl (I358 a2 8)]) (h' := gc_h sh I358 J339 A) (C := (True ∧ True)) rfl ⟨trivial, trivial⟩ ?_
                refine gv_icmp_ne (t := 217) hD rfl rfl ⟨⟨by omega, by omega⟩, ⟨by omega, by omega⟩⟩ (fun c378 => ?_) (fun c378 => ?_)
                · show gv_X _ _ (217, [(3, .inl (I257 23 5)), (0, .inr (.inr (some 39))), (1, .inl a1), (2, .inr (.inr (some a2)))], [], sh, gc_h sh I358 J339 A)
                  refine gv_pick [1, 2, 3] rfl ?_
                  exact L217 I358 J339 hI358 FI358 FJ339 KLT_I358 KTK_I358 KCT_I358 (by omega) (by rw [show I358 a2 4 = I278 a2 4 from by omega]; exact (gc_LI_fr (q277.2.2.2.2.2.2.resolve_left (by omega)) (((((p359 a2 1 (fun h => absurd h.1 (by omega))).trans ((g337 a2 1).resolve_left (by omega))).trans ((g317 a2 1).resolve_left (by omega))).trans ((g297 a2 1).resolve_left (by omega)))) (((((p359 a2 8 (fun h => absurd h.1 (by omega))).trans ((g337 a2 8).resolve_left (by omega))).trans ((g317 a2 8).resolve_left (by omega))).trans ((g297 a2 8).resolve_left (by omega)))) (fun k => ((((p359 (a2 + 1) k (fun h => absurd h.1 (by omega))).trans ((g337 (a2 + 1) k).resolve_left (by omega))).trans ((g317 (a2 + 1) k).resolve_left (by omega))).trans ((g297 (a2 + 1) k).resolve_left (by omega)))) (fun k => ((((p359 (a2 + 4) k (fun h => absurd h.1 (by omega))).trans ((g337 (a2 + 4) k).resolve_left (by omega))).trans ((g317 (a2 + 4) k).resolve_left (by omega))).trans ((g297 (a2 + 4) k).resolve_left (by omega)))) (fun k => ((((p359 (a2 + 6) k (fun h => absurd h.1 (by omega))).trans ((g337 (a2 + 6) k).resolve_left (by omega))).trans ((g317 (a2 + 6) k).resolve_left (by omega))).trans ((g297 (a2 + 6) k).resolve_left (by omega)))) (fun k => ((((p359 12 k (fun h => absurd h.1 (by omega))).trans ((g337 12 k).resolve_left (by omega))).trans ((g317 12 k).resolve_left (by omega))).trans ((g297 12 k).resolve_left (by omega)))))) (fun h1 h2 => by have h8 := gc_LI_1 (q277.2.2.2.2.2.2.resolve_left (by omega)) (by omega); have h7 : I358 (a2 + 1) 0 = I278 (a2 + 1) 0 := ((((p359 (a2 + 1) 0 (fun h => absurd h.1 (by omega))).trans ((g337 (a2 + 1) 0).resolve_left (by omega))).trans ((g317 (a2 + 1) 0).resolve_left (by omega))).trans ((g297 (a2 + 1) 0).resolve_left (by omega))); omega)
                · show gv_X _ _ (173, [(3, .inl (I257 23 5)), (0, .inr (.inr (some 39))), (1, .inl a1), (2, .inr (.inr (some a2)))], [], sh, gc_h sh I358 J339 A)
                  refine gv_run 1 true hD (pc' := 174) (lv' := [(3, .inl (I257 23 5)), (0, .inr (.inr (some 39))), (1, .inl a1), (2, .inr (.inr (some a2)))]) (st' := [.inr (.inr (some 39))]) (h' := gc_h sh I358 J339 A) (C := (True ∧ True)) rfl ⟨trivial, trivial⟩ ?_
                  refine gv_get hD rfl rfl S_39 ⟨by decide, B_39⟩ (gc_hA S_39 rfl A_39_0) ?_
                  show gv_X _ _ (177, [(3, .inl (I257 23 5)), (0, .inr (.inr (some 39))), (1, .inl a1), (2, .inr (.inr (some a2)))], [.inr (.inr (some 1))], sh, gc_h sh I358 J339 A)
                  refine gv_get hD rfl rfl S_1 ⟨by decide, B_1⟩ (gc_hA S_1 rfl A_1_8) ?_
                  show gv_X _ _ (180, [(3, .inl (I257 23 5)), (0, .inr (.inr (some 39))), (1, .inl a1), (2, .inr (.inr (some a2)))], [.inr (.inr (some 13))], sh, gc_h sh I358 J339 A)
                  refine gv_run 1 true hD (pc' := 181) (lv' := [(3, .inl (I257 23 5)), (0, .inr (.inr (some 39))), (1, .inl a1), (2, .inr (.inr (some a2)))]) (st' := [.inr (.inr (some a2)), .inr (.inr (some 13))]) (h' := gc_h sh I358 J339 A) (C := (True ∧ True)) rfl ⟨trivial, trivial⟩ ?_
                  have f379 := (show 0 ≤ I358 a2 1 ∧ I358 a2 1 ≤ 95 from gc_in hI358 R_a2 rfl rfl)
                  refine gv_get hD rfl rfl S_a2 ⟨by decide, B_a2⟩ (gc_hI S_a2 rfl) ?_
                  show gv_X _ _ (184, [(3, .inl (I257 23 5)), (0, .inr (.inr (some 39))), (1, .inl a1), (2, .inr (.inr (some a2)))], [.inl (I358 a2 1), .inr (.inr (some 13))], sh, gc_h sh I358 J339 A)
                  refine gv_run 3 true hD (pc' := 187) (lv' := [(3, .inl (I257 23 5)), (0, .inr (.inr (some 39))), (1, .inl a1), (2, .inr (.inr (some a2)))]) (st' := [.inr (.inr (some a2)), .inl ((I358 a2 1) * 4), .inr (.inr (some 13))]) (h' := gc_h sh I358 J339 A) (C := (((True ∧ True) ∧ True) ∧ True)) rfl ⟨⟨⟨trivial, trivial⟩, trivial⟩, trivial⟩ ?_
                  refine gv_get hD rfl rfl S_a2 ⟨by decide, B_a2⟩ (gc_hA S_a2 rfl A_a2_5) ?_
                  show gv_X _ _ (190, [(3, .inl (I257 23 5)), (0, .inr (.inr (some 39))), (1, .inl a1), (2, .inr (.inr (some a2)))], [.inr (.inr (some (a2 + 1))), .inl ((I358 a2 1) * 4), .inr (.inr (some 13))], sh, gc_h sh I358 J339 A)
                  refine gv_run 1 true hD (pc' := 191) (lv' := [(3, .inl (I257 23 5)), (0, .inr (.inr (some 39))), (1, .inl a1), (2, .inr (.inr (some a2)))]) (st' := [.inl 0, .inr (.inr (some (a2 + 1))), .inl ((I358 a2 1) * 4), .inr (.inr (some 13))]) (h' := gc_h sh I358 J339 A) (C := (True ∧ True)) rfl ⟨trivial, trivial⟩ ?_
                  have f380 := (show (-1) ≤ I358 (a2 + 1) 0 ∧ I358 (a2 + 1) 0 ≤ 3 from gc_in hI358 R_a2_1 rfl rfl)
                  refine gv_iald hD rfl S_a2_1 rfl ⟨by decide, B_a2_1⟩ ⟨by omega, by omega⟩ (gc_iI S_a2_1 rfl) ?_
                  show gv_X _ _ (192, [(3, .inl (I257 23 5)), (0, .inr (.inr (some 39))), (1, .inl a1), (2, .inr (.inr (some a2)))], [.inl (I358 (a2 + 1) 0), .inl ((I358 a2 1) * 4), .inr (.inr (some 13))], sh, gc_h sh I358 J339 A)
                  refine gv_run 1 true hD (pc' := 193) (lv' := [(3, .inl (I257 23 5)), (0, .inr (.inr (some 39))), (1, .inl a1), (2, .inr (.inr (some a2)))]) (st' := [.inl (((I358 a2 1) * 4) + (I358 (a2 + 1) 0)), .inr (.inr (some 13))]) (h' := gc_h sh I358 J339 A) (C := (True ∧ True)) rfl ⟨trivial, trivial⟩ ?_
                  have t381 := gc_LI_1 (q277.2.2.2.2.2.2.resolve_left (by omega)) (by omega)
                  have t382 := ((((p359 (a2 + 1) 0 (fun h => absurd h.1 (by omega))).trans ((g337 (a2 + 1) 0).resolve_left (by omega))).trans ((g317 (a2 + 1) 0).resolve_left (by omega))).trans ((g297 (a2 + 1) 0).resolve_left (by omega)))
                  have f383 := (show 0 ≤ I358 13 (Int.toNat ((((I358 a2 1) * 4) + (I358 (a2 + 1) 0)))) ∧ I358 13 (Int.toNat ((((I358 a2 1) * 4) + (I358 (a2 + 1) 0)))) ≤ 31 from gc_in hI358 R_13 rfl rfl)
                  refine gv_iald hD rfl S_13 rfl ⟨by decide, B_13⟩ ⟨by omega, by omega⟩ (gc_iI S_13 rfl) ?_
                  show gv_X _ _ (194, [(3, .inl (I257 23 5)), (0, .inr (.inr (some 39))), (1, .inl a1), (2, .inr (.inr (some a2)))], [.inl (I358 13 (Int.toNat ((((I358 a2 1) * 4) + (I358 (a2 + 1) 0)))))], sh, gc_h sh I358 J339 A)
                  refine gv_run 1 true hD (pc' := 195) (lv' := [(3, .inl (I257 23 5)), (0, .inr (.inr (some 39))), (1, .inl a1), (2, .inr (.inr (some a2)))]) (st' := [.inr (.inr (some 39)), .inl (I358 13 (Int.toNat ((((I358 a2 1) * 4) + (I358 (a2 + 1) 0)))))]) (h' := gc_h sh I358 J339 A) (C := (True ∧ True)) rfl ⟨trivial, trivial⟩ ?_
                  refine gv_get hD rfl rfl S_39 ⟨by decide, B_39⟩ (gc_hA S_39 rfl A_39_0) ?_
                  show gv_X _ _ (198, [(3, .inl (I257 23 5)), (0, .inr (.inr (some 39))), (1, .inl a1), (2, .inr (.inr (some a2)))], [.inr (.inr (some 1)), .inl (I358 13 (Int.toNat ((((I358 a2 1) * 4) + (I358 (a2 + 1) 0)))))], sh, gc_h sh I358 J339 A)
                  refine gv_get hD rfl rfl S_1 ⟨by decide, B_1⟩ (gc_hA S_1 rfl A_1_6) ?_
                  show gv_X _ _ (201, [(3, .inl (I257 23 5)), (0, .inr (.inr (some 39))), (1, .inl a1), (2, .inr (.inr (some a2)))], [.inr (.inr (some 11)), .inl (I358 13 (Int.toNat ((((I358 a2 1) * 4) + (I358 (a2 + 1) 0)))))], sh, gc_h sh I358 J339 A)
                  refine gv_run 1 true hD (pc' := 202) (lv' := [(3, .inl (I257 23 5)), (0, .inr (.inr (some 39))), (1, .inl a1), (2, .inr (.inr (some a2)))]) (st' := [.inr (.inr (some a2)), .inr (.inr (some 11)), .inl (I358 13 (Int.toNat ((((I358 a2 1) * 4) + (I358 (a2 + 1) 0)))))]) (h' := gc_h sh I358 J339 A) (C := (True ∧ True)) rfl ⟨trivial, trivial⟩ ?_
                  have f384 := (show 0 ≤ I358 a2 1 ∧ I358 a2 1 ≤ 95 from gc_in hI358 R_a2 rfl rfl)
                  refine gv_get hD rfl rfl S_a2 ⟨by decide, B_a2⟩ (gc_hI S_a2 rfl) ?_
                  show gv_X _ _ (205, [(3, .inl (I257 23 5)), (0, .inr (.inr (some 39))), (1, .inl a1), (2, .inr (.inr (some a2)))], [.inl (I358 a2 1), .inr (.inr (some 11)), .inl (I358 13 (Int.toNat ((((I358 a2 1) * 4) + (I358 (a2 + 1) 0)))))], sh, gc_h sh I358 J339 A)
                  have f385 := (show 0 ≤ I358 11 (Int.toNat (I358 a2 1)) ∧ I358 11 (Int.toNat (I358 a2 1)) ≤ 31 from gc_in hI358 R_11 rfl rfl)
                  refine gv_iald hD rfl S_11 rfl ⟨by decide, B_11⟩ ⟨by omega, by omega⟩ (gc_iI S_11 rfl) ?_
                  show gv_X _ _ (206, [(3, .inl (I257 23 5)), (0, .inr (.inr (some 39))), (1, .inl a1), (2, .inr (.inr (some a2)))], [.inl (I358 11 (Int.toNat (I358 a2 1))), .inl (I358 13 (Int.toNat ((((I358 a2 1) * 4) + (I358 (a2 + 1) 0)))))], sh, gc_h sh I358 J339 A)
                  refine gv_icmp_lt (t := 217) hD rfl rfl ⟨⟨by omega, by omega⟩, ⟨by omega, by omega⟩⟩ (fun c386 => ?_) (fun c386 => ?_)
                  · show gv_X _ _ (217, [(3, .inl (I257 23 5)), (0, .inr (.inr (some 39))), (1, .inl a1), (2, .inr (.inr (some a2)))], [], sh, gc_h sh I358 J339 A)
                    refine gv_pick [1, 2, 3] rfl ?_
                    exact L217 I358 J339 hI358 FI358 FJ339 KLT_I358 KTK_I358 KCT_I358 (by omega) (by rw [show I358 a2 4 = I278 a2 4 from by omega]; exact (gc_LI_fr (q277.2.2.2.2.2.2.resolve_left (by omega)) (((((p359 a2 1 (fun h => absurd h.1 (by omega))).trans ((g337 a2 1).resolve_left (by omega))).trans ((g317 a2 1).resolve_left (by omega))).trans ((g297 a2 1).resolve_left (by omega)))) (((((p359 a2 8 (fun h => absurd h.1 (by omega))).trans ((g337 a2 8).resolve_left (by omega))).trans ((g317 a2 8).resolve_left (by omega))).trans ((g297 a2 8).resolve_left (by omega)))) (fun k => ((((p359 (a2 + 1) k (fun h => absurd h.1 (by omega))).trans ((g337 (a2 + 1) k).resolve_left (by omega))).trans ((g317 (a2 + 1) k).resolve_left (by omega))).trans ((g297 (a2 + 1) k).resolve_left (by omega)))) (fun k => ((((p359 (a2 + 4) k (fun h => absurd h.1 (by omega))).trans ((g337 (a2 + 4) k).resolve_left (by omega))).trans ((g317 (a2 + 4) k).resolve_left (by omega))).trans ((g297 (a2 + 4) k).resolve_left (by omega)))) (fun k => ((((p359 (a2 + 6) k (fun h => absurd h.1 (by omega))).trans ((g337 (a2 + 6) k).resolve_left (by omega))).trans ((g317 (a2 + 6) k).resolve_left (by omega))).trans ((g297 (a2 + 6) k).resolve_left (by omega)))) (fun k => ((((p359 12 k (fun h => absurd h.1 (by omega))).trans ((g337 12 k).resolve_left (by omega))).trans ((g317 12 k).resolve_left (by omega))).trans ((g297 12 k).resolve_left (by omega)))))) (fun h1 h2 => by have h8 := gc_LI_1 (q277.2.2.2.2.2.2.resolve_left (by omega)) (by omega); have h7 : I358 (a2 + 1) 0 = I278 (a2 + 1) 0 := ((((p359 (a2 + 1) 0 (fun h => absurd h.1 (by omega))).trans ((g337 (a2 + 1) 0).resolve_left (by omega))).trans ((g317 (a2 + 1) 0).resolve_left (by omega))).trans ((g297 (a2 + 1) 0).resolve_left (by omega))); omega)
                  · show gv_X _ _ (209, [(3, .inl (I257 23 5)), (0, .inr (.inr (some 39))), (1, .inl a1), (2, .inr (.inr (some a2)))], [], sh, gc_h sh I358 J339 A)
                    refine gv_run 3 true hD (pc' := 213) (lv' := [(3, .inl (I257 23 5)), (0, .inr (.inr (some 39))), (1, .inl a1), (2, .inr (.inr (some a2)))]) (st' := [.inl (I257 23 5), .inl 6, .inr (.inr (some 39))]) (h' := gc_h sh I358 J339 A) (C := (((True ∧ True) ∧ True) ∧ True)) rfl ⟨⟨⟨trivial, trivial⟩, trivial⟩, trivial⟩ ?_
                    obtain ⟨r387, h387, E387, P387⟩ := d_X6_wrong (ws0 := ws0) (tb := tb) hws htb sh ro I358 J339 A hI358  6 (I257 23 5) hb   ⟨by omega, by omega⟩ ⟨by omega, by omega⟩  
                    obtain ⟨I388, J389, rfl, hI388, g387, k387, ⟨z387, rfl, q387⟩⟩ := P387
                    have FI388 := gc_frc (W := fun q j => (q = 39 ∧ j = 3) ∨ (q = 39 ∧ j = 4) ∨ (q = 23 ∧ j = 5) ∨ (q = 23 ∧ j = 6) ∨ (q = 23 ∧ j = 7) ∨ (q = 23 ∧ j = 8) ∨ (q = 1 ∧ j = 17) ∨ (q = 1 ∧ j = 18) ∨ q = 20 ∨ (q = a2 ∧ j = 0) ∨ (q = a2 ∧ j = 1) ∨ (q = a2 ∧ j = 2) ∨ (q = a2 ∧ j = 3) ∨ (q = a2 ∧ j = 4) ∨ (q = a2 ∧ j = 8) ∨ (q = a2 ∧ j = 12) ∨ (q = a2 ∧ j = 14) ∨ q = (a2 + 1) ∨ q = (a2 + 2) ∨ q = (a2 + 3) ∨ q = (a2 + 4) ∨ q = (a2 + 5) ∨ q = (a2 + 6) ∨ q = (a2 + 7) ∨ q = (a2 + 8) ∨ (q = 39 ∧ j = 6) ∨ (q = 39 ∧ j = 7) ∨ (q = t ∧ j = 13)) (V := fun q j => (q = 39 ∧ j = 3) ∨ (q = 39 ∧ j = 4)) FI358 (fun q j h => (h.elim (fun h => (Or.inl h)) (fun h => (Or.inr (Or.inl h))))) g387
                    have t390 := (g387 23 1).resolve_left (fun h => h.elim (fun h => absurd h.2 (by decide)) (fun h => absurd h.2 (by decide)))
                    have t391 := (g387 23 5).resolve_left (fun h => h.elim (fun h => absurd h.2 (by decide)) (fun h => absurd h.2 (by decide)))
                    have t392 := (g387 23 6).resolve_left (fun h => h.elim (fun h => absurd h.2 (by decide)) (fun h => absurd h.2 (by decide)))
                    have t393 := (g387 23 7).resolve_left (fun h => h.elim (fun h => absurd h.2 (by decide)) (fun h => absurd h.2 (by decide)))
                    have t394 := (g387 1 17).resolve_left (fun h => h.elim (fun h => absurd h.2 (by decide)) (fun h => absurd h.2 (by decide)))
                    have t395 := (g387 a2 0).resolve_left (fun h => h.elim (fun h => absurd h.2 (by decide)) (fun h => absurd h.2 (by decide)))
                    have t396 := (g387 a2 1).resolve_left (fun h => h.elim (fun h => absurd h.2 (by decide)) (fun h => absurd h.2 (by decide)))
                    have t397 := (g387 a2 3).resolve_left (fun h => h.elim (fun h => absurd h.1 N_a2__39) (fun h => absurd h.2 (by decide)))
                    have t398 := (g387 a2 4).resolve_left (fun h => h.elim (fun h => absurd h.2 (by decide)) (fun h => absurd h.1 N_a2__39))
                    have t399 := (g387 a2 8).resolve_left (fun h => h.elim (fun h => absurd h.2 (by decide)) (fun h => absurd h.2 (by decide)))
                    have t400 := (g387 a2 12).resolve_left (fun h => h.elim (fun h => absurd h.2 (by decide)) (fun h => absurd h.2 (by decide)))
                    have t401 := (g387 a2 14).resolve_left (fun h => h.elim (fun h => absurd h.2 (by decide)) (fun h => absurd h.2 (by decide)))
                    have t402 := (g387 4 1).resolve_left (fun h => h.elim (fun h => absurd h.2 (by decide)) (fun h => absurd h.2 (by decide)))
                    have t403 := (g387 t 13).resolve_left (fun h => h.elim (fun h => absurd h.2 (by decide)) (fun h => absurd h.2 (by decide)))
                    have t404 := (g387 39 2).resolve_left (fun h => h.elim (fun h => absurd h.2 (by decide)) (fun h => absurd h.2 (by decide)))
                    obtain rfl : J339 = J389 := funext fun q => funext fun j => ((k387 q j).resolve_left id).symm
                    have KLT_I388 := gc_LT_fr KLT_I358 ((g387 23 5).resolve_left (fun h => h.elim (fun h => absurd h.2 (by decide)) (fun h => absurd h.2 (by decide)))) ((g387 23 6).resolve_left (fun h => h.elim (fun h => absurd h.2 (by decide)) (fun h => absurd h.2 (by decide)))) ((g387 23 7).resolve_left (fun h => h.elim (fun h => absurd h.2 (by decide)) (fun h => absurd h.2 (by decide)))) (fun k => (g387 24 k).resolve_left (fun h => h.elim (fun h => absurd h.1 (by decide)) (fun h => absurd h.1 (by decide))))
                    have KTK_I388 := gc_TK_fr KTK_I358 ((g387 23 1).resolve_left (fun h => h.elim (fun h => absurd h.2 (by decide)) (fun h => absurd h.2 (by decide)))) ((g387 23 5).resolve_left (fun h => h.elim (fun h => absurd h.2 (by decide)) (fun h => absurd h.2 (by decide)))) ((g387 23 6).resolve_left (fun h => h.elim (fun h => absurd h.2 (by decide)) (fun h => absurd h.2 (by decide)))) ((g387 23 7).resolve_left (fun h => h.elim (fun h => absurd h.2 (by decide)) (fun h => absurd h.2 (by decide))))
                    have KCT_I388 := gc_CT_fr KCT_I358 ((g387 a2 8).resolve_left (fun h => h.elim (fun h => absurd h.2 (by decide)) (fun h => absurd h.2 (by decide)))) (fun k => (g387 (a2 + 6) k).resolve_left (fun h => h.elim (fun h => absurd h.1 N_a2_6__39) (fun h => absurd h.1 N_a2_6__39)))
                    refine gv_callV hD rfl (As := [.inl 6, .inl (I257 23 5)]) (st := []) rfl B_39 S_39 rfl (gc_lV6 hws rfl) (Nat.le_of_ble_eq_true rfl) (gz_Ev_mono (d := 1) (by decide) E387) ?_
                    show gv_X _ _ (216, [(3, .inl (I257 23 5)), (0, .inr (.inr (some 39))), (1, .inl a1), (2, .inr (.inr (some a2)))], [.inl z387], sh, gc_h sh I388 J339 A)
                    exact gv_Xm hQ (gv_zret hD rfl (by omega) ⟨I388, J339, rfl, hI388, FI388, FJ339, KLT_I388, KTK_I388, ⟨_, rfl, by omega⟩⟩)
            · show gv_X _ _ (147, [(3, .inl (I257 23 5)), (0, .inr (.inr (some 39))), (1, .inl a1), (2, .inr (.inr (some a2)))], [], sh, gc_h sh I338 J339 A)
              refine gv_pick [] rfl ?_
              exact L147 I338 J339 hI338 FI338 FJ339 KLT_I338 KTK_I338 (by omega)
    · show gv_X _ _ (105, [(0, .inr (.inr (some 39))), (1, .inl a1), (2, .inr (.inr (some a2)))], [], sh, gc_h sh I257 J258 A)
      refine gv_run 1 true hD (pc' := 106) (lv' := [(0, .inr (.inr (some 39))), (1, .inl a1), (2, .inr (.inr (some a2)))]) (st' := [.inl 0]) (h' := gc_h sh I257 J258 A) (C := (True ∧ True)) rfl ⟨trivial, trivial⟩ ?_
      exact gv_Xm hQ (gv_zret hD rfl (by omega) ⟨I257, J258, rfl, hI257, FI257, FJ258, KLT_I257, KTK_I257, ⟨_, rfl, by omega⟩⟩)
  · show gv_X _ _ (76, [(0, .inr (.inr (some 39))), (1, .inl a1), (2, .inr (.inr (some a2)))], [], sh, gc_h sh I199 J A)
    refine gv_run 3 true hD (pc' := 79) (lv' := [(0, .inr (.inr (some 39))), (1, .inl a1), (2, .inr (.inr (some a2)))]) (st' := [.inr (.inr (some 39)), .inl 5, .inr (.inr (some 39))]) (h' := gc_h sh I199 J A) (C := (((True ∧ True) ∧ True) ∧ True)) rfl ⟨⟨⟨trivial, trivial⟩, trivial⟩, trivial⟩ ?_
    refine gv_get hD rfl rfl S_39 ⟨by decide, B_39⟩ (gc_hA S_39 rfl A_39_1) ?_
    show gv_X _ _ (82, [(0, .inr (.inr (some 39))), (1, .inl a1), (2, .inr (.inr (some a2)))], [.inr (.inr (some 23)), .inl 5, .inr (.inr (some 39))], sh, gc_h sh I199 J A)
    have f405 := (show 0 ≤ I199 23 5 ∧ I199 23 5 ≤ 1000 from gc_in hI199 R_23 rfl rfl)
    refine gv_get hD rfl rfl S_23 ⟨by decide, B_23⟩ (gc_hI S_23 rfl) ?_
    show gv_X _ _ (85, [(0, .inr (.inr (some 39))), (1, .inl a1), (2, .inr (.inr (some a2)))], [.inl (I199 23 5), .inl 5, .inr (.inr (some 39))], sh, gc_h sh I199 J A)
    obtain ⟨r406, h406, E406, P406⟩ := d_X6_wrong (ws0 := ws0) (tb := tb) hws htb sh ro I199 J A hI199  5 (I199 23 5) hb   ⟨by omega, by omega⟩ ⟨by omega, by omega⟩  
    obtain ⟨I407, J408, rfl, hI407, g406, k406, ⟨z406, rfl, q406⟩⟩ := P406
    have FI407 := gc_frc (W := fun q j => (q = 39 ∧ j = 3) ∨ (q = 39 ∧ j = 4) ∨ (q = 23 ∧ j = 5) ∨ (q = 23 ∧ j = 6) ∨ (q = 23 ∧ j = 7) ∨ (q = 23 ∧ j = 8) ∨ (q = 1 ∧ j = 17) ∨ (q = 1 ∧ j = 18) ∨ q = 20 ∨ (q = a2 ∧ j = 0) ∨ (q = a2 ∧ j = 1) ∨ (q = a2 ∧ j = 2) ∨ (q = a2 ∧ j = 3) ∨ (q = a2 ∧ j = 4) ∨ (q = a2 ∧ j = 8) ∨ (q = a2 ∧ j = 12) ∨ (q = a2 ∧ j = 14) ∨ q = (a2 + 1) ∨ q = (a2 + 2) ∨ q = (a2 + 3) ∨ q = (a2 + 4) ∨ q = (a2 + 5) ∨ q = (a2 + 6) ∨ q = (a2 + 7) ∨ q = (a2 + 8) ∨ (q = 39 ∧ j = 6) ∨ (q = 39 ∧ j = 7) ∨ (q = t ∧ j = 13)) (V := fun q j => (q = 39 ∧ j = 3) ∨ (q = 39 ∧ j = 4)) FI199 (fun q j h => (h.elim (fun h => (Or.inl h)) (fun h => (Or.inr (Or.inl h))))) g406
    have t409 := (g406 23 1).resolve_left (fun h => h.elim (fun h => absurd h.2 (by decide)) (fun h => absurd h.2 (by decide)))
    have t410 := (g406 23 5).resolve_left (fun h => h.elim (fun h => absurd h.2 (by decide)) (fun h => absurd h.2 (by decide)))
    have t411 := (g406 23 6).resolve_left (fun h => h.elim (fun h => absurd h.2 (by decide)) (fun h => absurd h.2 (by decide)))
    have t412 := (g406 23 7).resolve_left (fun h => h.elim (fun h => absurd h.2 (by decide)) (fun h => absurd h.2 (by decide)))
    have t413 := (g406 1 17).resolve_left (fun h => h.elim (fun h => absurd h.2 (by decide)) (fun h => absurd h.2 (by decide)))
    have t414 := (g406 a2 0).resolve_left (fun h => h.elim (fun h => absurd h.2 (by decide)) (fun h => absurd h.2 (by decide)))
    have t415 := (g406 a2 1).resolve_left (fun h => h.elim (fun h => absurd h.2 (by decide)) (fun h => absurd h.2 (by decide)))
    have t416 := (g406 a2 3).resolve_left (fun h => h.elim (fun h => absurd h.1 N_a2__39) (fun h => absurd h.2 (by decide)))
    have t417 := (g406 a2 4).resolve_left (fun h => h.elim (fun h => absurd h.2 (by decide)) (fun h => absurd h.1 N_a2__39))
    have t418 := (g406 a2 8).resolve_left (fun h => h.elim (fun h => absurd h.2 (by decide)) (fun h => absurd h.2 (by decide)))
    have t419 := (g406 a2 12).resolve_left (fun h => h.elim (fun h => absurd h.2 (by decide)) (fun h => absurd h.2 (by decide)))
    have t420 := (g406 a2 14).resolve_left (fun h => h.elim (fun h => absurd h.2 (by decide)) (fun h => absurd h.2 (by decide)))
    have t421 := (g406 4 1).resolve_left (fun h => h.elim (fun h => absurd h.2 (by decide)) (fun h => absurd h.2 (by decide)))
    have t422 := (g406 t 13).resolve_left (fun h => h.elim (fun h => absurd h.2 (by decide)) (fun h => absurd h.2 (by decide)))
    have t423 := (g406 39 2).resolve_left (fun h => h.elim (fun h => absurd h.2 (by decide)) (fun h => absurd h.2 (by decide)))
    obtain rfl : J = J408 := funext fun q => funext fun j => ((k406 q j).resolve_left id).symm
    have KLT_I407 := gc_LT_fr KLT_I199 ((g406 23 5).resolve_left (fun h => h.elim (fun h => absurd h.2 (by decide)) (fun h => absurd h.2 (by decide)))) ((g406 23 6).resolve_left (fun h => h.elim (fun h => absurd h.2 (by decide)) (fun h => absurd h.2 (by decide)))) ((g406 23 7).resolve_left (fun h => h.elim (fun h => absurd h.2 (by decide)) (fun h => absurd h.2 (by decide)))) (fun k => (g406 24 k).resolve_left (fun h => h.elim (fun h => absurd h.1 (by decide)) (fun h => absurd h.1 (by decide))))
    have KTK_I407 := gc_TK_fr KTK_I199 ((g406 23 1).resolve_left (fun h => h.elim (fun h => absurd h.2 (by decide)) (fun h => absurd h.2 (by decide)))) ((g406 23 5).resolve_left (fun h => h.elim (fun h => absurd h.2 (by decide)) (fun h => absurd h.2 (by decide)))) ((g406 23 6).resolve_left (fun h => h.elim (fun h => absurd h.2 (by decide)) (fun h => absurd h.2 (by decide)))) ((g406 23 7).resolve_left (fun h => h.elim (fun h => absurd h.2 (by decide)) (fun h => absurd h.2 (by decide))))
    have KCT_I407 := gc_CT_fr KCT_I199 ((g406 a2 8).resolve_left (fun h => h.elim (fun h => absurd h.2 (by decide)) (fun h => absurd h.2 (by decide)))) (fun k => (g406 (a2 + 6) k).resolve_left (fun h => h.elim (fun h => absurd h.1 N_a2_6__39) (fun h => absurd h.1 N_a2_6__39)))
    refine gv_callV hD rfl (As := [.inl 5, .inl (I199 23 5)]) (st := []) rfl B_39 S_39 rfl (gc_lV6 hws rfl) (Nat.le_of_ble_eq_true rfl) (gz_Ev_mono (d := 1) (by decide) E406) ?_
    show gv_X _ _ (88, [(0, .inr (.inr (some 39))), (1, .inl a1), (2, .inr (.inr (some a2)))], [.inl z406], sh, gc_h sh I407 J A)
    exact gv_Xm hQ (gv_zret hD rfl (by omega) ⟨I407, J, rfl, hI407, FI407, FJ, KLT_I407, KTK_I407, ⟨_, rfl, by omega⟩⟩)
