/-! PARITY, the class's side: the pieces of a LIN -/
theorem gs_SO_put {I I' : gr_I} {a1 : Nat} {β : Int → Int} {N nf : Int} {a : Nat → Int} {p : Int} (h : gs_SO I a1 nf a) (hT : gs_T β N p = 2) (hA : 0 ≤ gs_A β N p) (hv : 0 ≤ gs_V β N p - 1 ∧ gs_V β N p - 1 < nf ∧ nf ≤ 4) (w : 0 ≤ I' (a1 + 6) (Int.toNat (gs_V β N p - 1))) (o : ∀ k, ¬ k = Int.toNat (gs_V β N p - 1) → I' (a1 + 6) k = I (a1 + 6) k) : gs_SO I' a1 nf (gs_ua β N p a) := fun j hj => by
  by_cases c : j = Int.toNat (gs_V β N p - 1)
  · have e : gs_ua β N p a j = gs_A β N p := if_pos ⟨hT, c⟩
    rw [e]
    rw [← c] at w
    exact ⟨fun _ => ⟨by omega, hA⟩, fun _ => w⟩
  · have e : gs_ua β N p a j = a j := if_neg (fun h => c h.2)
    rw [e, o j c]
    exact h j hj
theorem gs_SO_ua {I : gr_I} {a1 : Nat} {β : Int → Int} {N nf : Int} {a : Nat → Int} {p : Int} (hT : ¬ gs_T β N p = 2) (h : gs_SO I a1 nf a) : gs_SO I a1 nf (gs_ua β N p a) := fun j hj => by
  have e : gs_ua β N p a j = a j := if_neg (fun h => hT h.1)
  rw [e]
  exact h j hj
theorem gs_li_c {β : Int → Int} {N : Int} {I : gr_I} {J : gr_J} {nf : Int} {m : Nat} {n i : Int} {a : Nat → Int} {q : Int} (h : gs_T β N q = 3 ∨ gs_T β N q = 2) (u : ¬ gs_it β N I J nf n a q < 0) : gs_li β N I J nf (m + 1) n i a q = gs_li β N I J nf m (n + 1) (if n = 0 then (if gs_T β N q = 2 then -gs_V β N q else 0) else i) (gs_ua β N q a) (gs_it β N I J nf n a q) := (if_pos h).trans (if_neg u)
theorem gs_li_f {β : Int → Int} {N : Int} {I : gr_I} {J : gr_J} {nf : Int} {m : Nat} {n i : Int} {a : Nat → Int} {q : Int} (h : gs_T β N q = 3 ∨ gs_T β N q = 2) (u : gs_it β N I J nf n a q < 0) : gs_li β N I J nf (m + 1) n i a q = (gs_it β N I J nf n a q, n, i, a) := (if_pos h).trans (if_pos u)
def gs_itm (β : Int → Int) (N : Int) (I : gr_I) (J : gr_J) (nf p : Int) : Int := if gs_T β N p = 3 ∨ gs_T β N p = 2 then (gs_li β N I J nf 1002 0 0 (fun _ => -1) p).1 else -1 - gs_A β N p
/-- the first piece, on both sides -/
def gs_FF (n i : Int) (a : Nat → Int) (A0 : Int) (a1 : Nat) (I : gr_I) : Prop := n = 0 ∨ (I (a1 + 1) 0 < 0 ∧ 0 ≤ i) ∨ (0 ≤ I (a1 + 1) 0 ∧ i = -1 - I (a1 + 1) 0 ∧ (n = 1 → a (Int.toNat (I (a1 + 1) 0)) = A0))
set_option maxHeartbeats 8000000 in
theorem gs_FF_n {β : Int → Int} {N q : Int} {n i : Int} {a : Nat → Int} {A0 : Int} {a1 : Nat} {I I' : gr_I} (h : gs_FF n i a A0 a1 I) (hn : 0 < n) (o : I' (a1 + 1) 0 = I (a1 + 1) 0) : gs_FF (n + 1) (if n = 0 then (if gs_T β N q = 2 then -gs_V β N q else 0) else i) (gs_ua β N q a) A0 a1 I' := by
  rw [if_neg (by exact gz_m 0 (by omega))]
  unfold gs_FF
  rw [o]
  rcases h with h | h | ⟨h1, h2, _⟩
  · exact gz_m 1 (by omega)
  · exact Or.inr (Or.inl h)
  · exact Or.inr (Or.inr ⟨h1, h2, fun e => absurd e (by exact gz_m 2 (by omega))⟩)
theorem gs_FF_a {β : Int → Int} {N q : Int} {n i : Int} {a : Nat → Int} {A0 : Int} {a1 : Nat} {I I' : gr_I} (h : gs_FF n i a A0 a1 I) (hn : 0 ≤ n) (hT : gs_T β N q = 2) (hV : 1 ≤ gs_V β N q) (w : I' (a1 + 1) (Int.toNat n) = gs_V β N q - 1) (o : ∀ k, ¬ k = Int.toNat n → I' (a1 + 1) k = I (a1 + 1) k) (hp : n = 0 → gs_A β N q = A0) : gs_FF (n + 1) (if n = 0 then (if gs_T β N q = 2 then -gs_V β N q else 0) else i) (gs_ua β N q a) A0 a1 I' := by
  by_cases c : n = 0
  · rw [if_pos c, if_pos hT]
    rw [c] at w
    have w0 : I' (a1 + 1) 0 = gs_V β N q - 1 := w
    refine Or.inr (Or.inr ⟨by exact gz_m 0 (by omega), by exact gz_m 1 (by omega), fun _ => ?_⟩)
    rw [w0]
    exact (if_pos ⟨hT, rfl⟩).trans (hp c)
  · exact gs_FF_n h (by exact gz_m 2 (by omega)) (o 0 (by exact gz_m 3 (by omega)))
theorem gs_FF_t {β : Int → Int} {N q : Int} {n i : Int} {a : Nat → Int} {A0 : Int} {a1 : Nat} {I I' : gr_I} (h : gs_FF n i a A0 a1 I) (hn : 0 ≤ n) (hT : ¬ gs_T β N q = 2) (w : I' (a1 + 1) (Int.toNat n) = -1) (o : ∀ k, ¬ k = Int.toNat n → I' (a1 + 1) k = I (a1 + 1) k) : gs_FF (n + 1) (if n = 0 then (if gs_T β N q = 2 then -gs_V β N q else 0) else i) (gs_ua β N q a) A0 a1 I' := by
  by_cases c : n = 0
  · rw [if_pos c, if_neg hT]
    rw [c] at w
    have w0 : I' (a1 + 1) 0 = -1 := w
    exact Or.inr (Or.inl ⟨by exact gz_m 0 (by omega), by exact gz_m 1 (by omega)⟩)
  · exact gs_FF_n h (by exact gz_m 2 (by omega)) (o 0 (by exact gz_m 3 (by omega)))
/-- what the pieces leave behind -/
def gs_LX (w : Int × Int × Int × (Nat → Int)) (nf A0 : Int) (a1 : Nat) (I : gr_I) : Prop := I a1 4 = w.2.1 ∧ gs_SO I a1 nf w.2.2.2 ∧ gs_FF w.2.1 w.2.2.1 w.2.2.2 A0 a1 I
set_option maxHeartbeats 8000000 in
set_option maxRecDepth 100000 in
theorem d_X6_readArgument_l_p_L110 {ws0 : List Cond} {tb : String → gz_T} (hws : gc_Ws ws0) (htb : gc_tbs tb) (sh : gz_Sh) (ro : Nat → Nat) (I : gr_I) (J : gr_J) (A : gc_A) (hI : gc_Inv ro I) (t : Nat) (β : Int → Int) (η : Int) (p9 : Int) (Ir : gr_I) (Jr : gr_J) (nf9 : Int) (a9 : Nat → Int) (a1 : Nat) (hb : gc_Base sh ro A) (h_a1 : gc_isLin sh ro A a1) (G_a1 : 144 ≤ a1) (h_t : gc_isTongue sh ro A t) (G_t : 144 ≤ t)  (x0 : I a1 4 ≤ 5) (x1 : I 23 7 = 2) (x2 : gc_LI a1 (I a1 4) I) (x3 : gc_AT β η p9 23 I J) (x4 : 0 ≤ p9) (x5 : gs_SO I a1 nf9 a9) (x6 : nf9 ≤ 4) (x7 : nf9 = I 12 (Int.toNat (I a1 1))) (x8 : I (t + 3) 1 = Ir 14 (Int.toNat (Ir 0 6))) (x9 : gs_NA (I (t + 3) 1) (J (t + 4)) (fun k => Jr 21 (Int.toNat (48 * Ir 0 6 + (k : Int))))) (x10 : gs_VR Ir I t) (x11 : I 39 2 = (t : Int)) (KLT_I : gc_LT I) (KTK_I : gc_TK I) (KCT_I : gc_CT a1 I) : ∀ (I10 : gr_I) (J11 : gr_J) (v2_12 : Int) (p_12 : Int), gc_Inv ro I10 → (∀ q j : Nat, ((q = 39 ∧ j = 3) ∨ (q = 39 ∧ j = 4) ∨ (q = 23 ∧ j = 5) ∨ (q = 23 ∧ j = 6) ∨ (q = 23 ∧ j = 7) ∨ (q = 23 ∧ j = 8) ∨ (q = 39 ∧ j = 6) ∨ q = (a1 + 1) ∨ q = (a1 + 6) ∨ q = (a1 + 4) ∨ q = (a1 + 5) ∨ (q = a1 ∧ j = 8)) ∨ I10 q j = I q j) → (∀ q j : Nat, ((q = 23 ∧ j = 9)) ∨ J11 q j = J q j) → gc_LT I10 → gc_TK I10 → gc_CT a1 I10 → ((0 ≤ v2_12 ∧ v2_12 ≤ 3) ∧ (I10 (a1 + 6) (Int.toNat v2_12) < 0) ∧ (I10 a1 4 ≤ 5) ∧ (v2_12 < I 12 (Int.toNat (I a1 1))) ∧ (I10 a1 4 = I a1 4) ∧ (0 ≤ p_12) ∧ (I10 23 1 = I 23 1) ∧ (I 23 5 ≤ I10 23 5) ∧ (I10 39 2 = (t : Int))) → (gc_LI a1 (I10 a1 4) I10) → (gc_AT β η p_12 23 I10 J11) → ((gs_it2 β η Ir Jr nf9 a9 p9) = p_12) → (v2_12 = gs_V β η p9 - 1) → (gs_T β η p9 = 2) → ((∀ k, I10 (a1 + 6) k = I (a1 + 6) k) ∧ (∀ k, I10 (a1 + 1) k = I (a1 + 1) k)) → gv_X (gc_E6 ws0 tb 3 (yX6_readArgument, cX6_readArgument, 3, (some .boolean)) kX6_readArgument) (gv_Q cX6_readArgument (some .boolean) sh (fun r h' => (∃ (I' : gr_I) (J' : gr_J), h' = gc_h sh I' J' A ∧ gc_Inv ro I' ∧ (∀ q j : Nat, ((q = 39 ∧ j = 3) ∨ (q = 39 ∧ j = 4) ∨ (q = 23 ∧ j = 5) ∨ (q = 23 ∧ j = 6) ∨ (q = 23 ∧ j = 7) ∨ (q = 23 ∧ j = 8) ∨ (q = 39 ∧ j = 6) ∨ q = (a1 + 1) ∨ q = (a1 + 6) ∨ q = (a1 + 4) ∨ q = (a1 + 5) ∨ (q = a1 ∧ j = 8)) ∨ I' q j = I q j) ∧ (∀ q j : Nat, ((q = 23 ∧ j = 9)) ∨ J' q j = J q j) ∧ gc_LT I' ∧ gc_TK I' ∧ gc_CT a1 I' ∧ (∃ z : Int, r = some (.inl z) ∧ 0 ≤ z ∧ z ≤ 1 ∧ (I' 23 1 = I 23 1) ∧ (I 23 5 ≤ I' 23 5) ∧ (gc_LE z a1 (I a1 4 + 1) I') ∧ (gs_Or z (0 ≤ (gs_it2 β η Ir Jr nf9 a9 p9) ∧ gc_AT β η (gs_it2 β η Ir Jr nf9 a9 p9) 23 I' J' ∧ (1 ≤ gs_V β η p9 ∧ gs_SO I' a1 nf9 (gs_ua β η p9 a9) ∧ I' (a1 + 1) (Int.toNat (I a1 4)) = gs_V β η p9 - 1 ∧ ∀ k, ¬ k = Int.toNat (I a1 4) → I' (a1 + 1) k = I (a1 + 1) k)) ((gs_it2 β η Ir Jr nf9 a9 p9) < 0 ∧ I' 39 4 = -1 - (gs_it2 β η Ir Jr nf9 a9 p9))))))) (110, [(0, .inr (.inr (some 39))), (1, .inr (.inr (some a1))), (2, .inl v2_12)], [], sh, gc_h sh I10 J11 A) := by
  have FI : ∀ q j : Nat, ((q = 39 ∧ j = 3) ∨ (q = 39 ∧ j = 4) ∨ (q = 23 ∧ j = 5) ∨ (q = 23 ∧ j = 6) ∨ (q = 23 ∧ j = 7) ∨ (q = 23 ∧ j = 8) ∨ (q = 39 ∧ j = 6) ∨ q = (a1 + 1) ∨ q = (a1 + 6) ∨ q = (a1 + 4) ∨ q = (a1 + 5) ∨ (q = a1 ∧ j = 8)) ∨ I q j = I q j := fun _ _ => Or.inr rfl
  have FJ : ∀ q j : Nat, ((q = 23 ∧ j = 9)) ∨ J q j = J q j := fun _ _ => Or.inr rfl
  have A_1_7 : A 1 7 = some 12 := gc_bA_1_7 hb
  have A_39_0 : A 39 0 = some 1 := gc_bA_39_0 hb
  have A_39_1 : A 39 1 = some 23 := gc_bA_39_1 hb
  have B_1 : 1 < 1000000 := by decide
  have B_12 : 12 < 1000000 := by decide
  have B_23 : 23 < 1000000 := by decide
  have B_39 : 39 < 1000000 := by decide
  have R_12 : ro 12 = 26 := gc_bR_12 hb
  have R_23 : ro 23 = 3 := gc_bR_23 hb
  have R_39 : ro 39 = 42 := gc_bR_39 hb
  have S_1 : sh[1]? = some (false, 8, 21) := gc_bS_1 hb
  have S_12 : sh[12]? = some (true, 1, 96) := gc_bS_12 hb
  have S_23 : sh[23]? = some (false, 9, 10) := gc_bS_23 hb
  have S_39 : sh[39]? = some (false, 6, 19) := gc_bS_39 hb
  obtain ⟨S_a1, R_a1, B_a1, A_a1_5, S_a1_1, R_a1_1, B_a1_1, A_a1_6, S_a1_2, R_a1_2, B_a1_2, A_a1_7, S_a1_3, R_a1_3, B_a1_3, A_a1_9, S_a1_4, R_a1_4, B_a1_4, A_a1_10, S_a1_5, R_a1_5, B_a1_5, A_a1_11, S_a1_6, R_a1_6, B_a1_6, A_a1_13, S_a1_7, R_a1_7, B_a1_7, A_a1_15, S_a1_8, R_a1_8, B_a1_8⟩ := id h_a1
  obtain ⟨S_t, R_t, B_t, A_t_0, h_t_1, A_t_1, h_t_3, A_t_2, S_t_5, R_t_5, B_t_5, A_t_3, S_t_6, R_t_6, B_t_6, A_t_4, h_t_7, A_t_5, S_t_9, R_t_9, B_t_9, A_t_7, S_t_10, R_t_10, B_t_10, A_t_8, h_t_11, A_t_9, S_t_13, R_t_13, B_t_13, A_t_10, S_t_14, R_t_14, B_t_14, A_t_12, S_t_15, R_t_15, B_t_15, A_t_14, S_t_16, R_t_16, B_t_16, A_t_15, h_t_17⟩ := id h_t
  obtain ⟨S_t_1, R_t_1, B_t_1, A_t_1_0, S_t_1_1, R_t_1_1, B_t_1_1, Q0_t_1, Q1_t_1, Q2_t_1⟩ := id h_t_1
  obtain ⟨S_t_3, R_t_3, B_t_3, A_t_3_0, S_t_3_1, R_t_3_1, B_t_3_1, Q0_t_3, Q1_t_3, Q2_t_3⟩ := id h_t_3
  obtain ⟨S_t_7, R_t_7, B_t_7, A_t_7_0, S_t_7_1, R_t_7_1, B_t_7_1, Q0_t_7, Q1_t_7, Q2_t_7⟩ := id h_t_7
  obtain ⟨S_t_11, R_t_11, B_t_11, A_t_11_0, S_t_11_1, R_t_11_1, B_t_11_1, Q0_t_11, Q1_t_11, Q2_t_11⟩ := id h_t_11
  obtain ⟨S_t_17, R_t_17, B_t_17, A_t_17_0, S_20, R_20, B_20, A_t_17_1, S_t_17_1, R_t_17_1, B_t_17_1, A_t_17_2, S_t_17_2, R_t_17_2, B_t_17_2, A_t_17_3, S_t_17_3, R_t_17_3, B_t_17_3, A_t_17_4, S_t_17_4, R_t_17_4, B_t_17_4, A_t_17_5, S_t_17_5, R_t_17_5, B_t_17_5, S_t_17_6, R_t_17_6, B_t_17_6, S_t_17_7, R_t_17_7, B_t_17_7⟩ := id h_t_17
  have N1 := gc_dj_LT h_a1 h_t
  have hD : gv_D (gc_E6 ws0 tb 3 (yX6_readArgument, cX6_readArgument, 3, (some .boolean)) kX6_readArgument) := gq_of oX6_readArgument
  have N_23__a1_1 : ¬ (23 = (a1 + 1)) := by exact gz_m 0 (by omega)
  have N_a1__a1_1 : ¬ (a1 = (a1 + 1)) := by exact gz_m 1 (by omega)
  have N_39__a1_1 : ¬ (39 = (a1 + 1)) := by exact gz_m 2 (by omega)
  have N_a1_6__a1_1 : ¬ ((a1 + 6) = (a1 + 1)) := by exact gz_m 3 (by omega)
  have N_24__a1_1 : ¬ (24 = (a1 + 1)) := by exact gz_m 4 (by omega)
  have N_23__a1_6 : ¬ (23 = (a1 + 6)) := by exact gz_m 5 (by omega)
  have N_a1__a1_6 : ¬ (a1 = (a1 + 6)) := by exact gz_m 6 (by omega)
  have N_39__a1_6 : ¬ (39 = (a1 + 6)) := by exact gz_m 7 (by omega)
  have N_24__a1_6 : ¬ (24 = (a1 + 6)) := by exact gz_m 8 (by omega)
  have N_23__a1_4 : ¬ (23 = (a1 + 4)) := by exact gz_m 9 (by omega)
  have N_a1__a1_4 : ¬ (a1 = (a1 + 4)) := by exact gz_m 10 (by omega)
  have N_39__a1_4 : ¬ (39 = (a1 + 4)) := by exact gz_m 11 (by omega)
  have N_a1_6__a1_4 : ¬ ((a1 + 6) = (a1 + 4)) := by exact gz_m 12 (by omega)
  have N_24__a1_4 : ¬ (24 = (a1 + 4)) := by exact gz_m 13 (by omega)
  have N_23__a1_5 : ¬ (23 = (a1 + 5)) := by exact gz_m 14 (by omega)
  have N_a1__a1_5 : ¬ (a1 = (a1 + 5)) := by exact gz_m 15 (by omega)
  have N_39__a1_5 : ¬ (39 = (a1 + 5)) := by exact gz_m 16 (by omega)
  have N_a1_6__a1_5 : ¬ ((a1 + 6) = (a1 + 5)) := by exact gz_m 17 (by omega)
  have N_24__a1_5 : ¬ (24 = (a1 + 5)) := by exact gz_m 18 (by omega)
  have N_23__a1 : ¬ (23 = a1) := by exact gz_m 19 (by omega)
  have N_a1_6__a1 : ¬ ((a1 + 6) = a1) := by exact gz_m 20 (by omega)
  have N_24__a1 : ¬ (24 = a1) := by exact gz_m 21 (by omega)
  have N_a1__39 : ¬ (a1 = 39) := by exact gz_m 22 (by omega)
  have N_a1_6__39 : ¬ ((a1 + 6) = 39) := by exact gz_m 23 (by omega)
  have N_a1__23 : ¬ (a1 = 23) := by exact gz_m 24 (by omega)
  have N_a1_6__23 : ¬ ((a1 + 6) = 23) := by exact gz_m 25 (by omega)
  have t1 := gc_TK_mo KTK_I
  have f2 := (gc_b_3_1 hI R_23)
  have f3 := (gc_b_3_5 hI R_23)
  have f4 := (gc_b_3_6 hI R_23)
  have f5 := (gc_b_3_7 hI R_23)
  have f6 := (show 0 ≤ I a1 4 ∧ I a1 4 ≤ 6 from gc_in2 hI R_a1 rfl rfl rfl)
  have f7 := (show 0 ≤ I a1 8 ∧ I a1 8 ≤ 4 from gc_in2 hI R_a1 rfl rfl rfl)
  have f8 := (gc_b_3_8 hI R_23)
  have f9 := (gc_b_42_2 hI R_39)
  have tAT := gc_AT_l x3
  intro I10 J11 v2_12 p_12 hI10 FI10 FJ11 KLT_I10 KTK_I10 KCT_I10 m_12 e0_12 e6_12 e7_12 e8_12 e9_12 e10_12
  obtain ⟨hv2_12, e1_12, e2_12, e3_12, e4_12, e5_12, e11_12, e12_12, e13_12⟩ := m_12
  have t13 := gc_TK_mo KTK_I10
  have f14 := (gc_b_3_1 hI10 R_23)
  have f15 := (gc_b_3_5 hI10 R_23)
  have f16 := (gc_b_3_6 hI10 R_23)
  have f17 := (gc_b_3_7 hI10 R_23)
  have f18 := (show 0 ≤ I10 a1 4 ∧ I10 a1 4 ≤ 6 from gc_in2 hI10 R_a1 rfl rfl rfl)
  have f19 := (show 0 ≤ I10 a1 8 ∧ I10 a1 8 ≤ 4 from gc_in2 hI10 R_a1 rfl rfl rfl)
  have f20 := (gc_b_3_8 hI10 R_23)
  have f21 := (gc_b_42_2 hI10 R_39)
  have t22 := gc_AT_l e6_12
  have t23 := gc_CT_lt (a := v2_12) KCT_I10 (by exact gz_m 26 (by omega)) (by exact gz_m 27 (by omega))
  refine gv_run 1 true hD (pc' := 111) (lv' := [(0, .inr (.inr (some 39))), (1, .inr (.inr (some a1))), (2, .inl v2_12)]) (st' := [.inr (.inr (some a1))]) (h' := gc_h sh I10 J11 A) (C := (True ∧ True)) rfl ⟨trivial, trivial⟩ ?_
  refine gv_get hD rfl rfl S_a1 ⟨by decide, B_a1⟩ (gc_hA S_a1 rfl A_a1_5) ?_
  show gv_X _ _ (114, [(0, .inr (.inr (some 39))), (1, .inr (.inr (some a1))), (2, .inl v2_12)], [.inr (.inr (some (a1 + 1)))], sh, gc_h sh I10 J11 A)
  refine gv_run 1 true hD (pc' := 115) (lv' := [(0, .inr (.inr (some 39))), (1, .inr (.inr (some a1))), (2, .inl v2_12)]) (st' := [.inr (.inr (some a1)), .inr (.inr (some (a1 + 1)))]) (h' := gc_h sh I10 J11 A) (C := (True ∧ True)) rfl ⟨trivial, trivial⟩ ?_
  have f24 := (show 0 ≤ I10 a1 4 ∧ I10 a1 4 ≤ 6 from gc_in2 hI10 R_a1 rfl rfl rfl)
  refine gv_get hD rfl rfl S_a1 ⟨by decide, B_a1⟩ (gc_hI S_a1 rfl) ?_
  show gv_X _ _ (118, [(0, .inr (.inr (some 39))), (1, .inr (.inr (some a1))), (2, .inl v2_12)], [.inl (I10 a1 4), .inr (.inr (some (a1 + 1)))], sh, gc_h sh I10 J11 A)
  refine gv_run 1 true hD (pc' := 119) (lv' := [(0, .inr (.inr (some 39))), (1, .inr (.inr (some a1))), (2, .inl v2_12)]) (st' := [.inl v2_12, .inl (I10 a1 4), .inr (.inr (some (a1 + 1)))]) (h' := gc_h sh I10 J11 A) (C := (True ∧ True)) rfl ⟨trivial, trivial⟩ ?_
  refine gv_iast hD rfl S_a1_1 ⟨by decide, B_a1_1⟩ ⟨by exact gz_m 28 (by omega), by exact gz_m 29 (by omega)⟩ ?_
  refine gc_st hI10 S_a1_1 rfl R_a1_1 (lo := (-1)) (hi := 3) rfl rfl (by exact gz_m 30 (by omega)) (by exact gz_m 31 (by omega)) (fun I25 hI25 q26 p26 => ?_)
  have FI25 := gc_frs (W := fun q j => (q = 39 ∧ j = 3) ∨ (q = 39 ∧ j = 4) ∨ (q = 23 ∧ j = 5) ∨ (q = 23 ∧ j = 6) ∨ (q = 23 ∧ j = 7) ∨ (q = 23 ∧ j = 8) ∨ (q = 39 ∧ j = 6) ∨ q = (a1 + 1) ∨ q = (a1 + 6) ∨ q = (a1 + 4) ∨ q = (a1 + 5) ∨ (q = a1 ∧ j = 8)) FI10 (Or.inr (Or.inr (Or.inr (Or.inr (Or.inr (Or.inr (Or.inr (Or.inl rfl)))))))) p26
  have t27 := p26 23 1 (fun h => absurd h.1 N_23__a1_1)
  have t28 := p26 23 5 (fun h => absurd h.1 N_23__a1_1)
  have t29 := p26 23 6 (fun h => absurd h.1 N_23__a1_1)
  have t30 := p26 23 7 (fun h => absurd h.1 N_23__a1_1)
  have t31 := p26 a1 4 (fun h => absurd h.1 N_a1__a1_1)
  have t32 := p26 a1 8 (fun h => absurd h.1 N_a1__a1_1)
  have t33 := p26 23 8 (fun h => absurd h.1 N_23__a1_1)
  have t34 := p26 39 2 (fun h => absurd h.1 N_39__a1_1)
  have t35 := p26 (a1 + 6) (Int.toNat v2_12) (fun h => absurd h.1 N_a1_6__a1_1)
  have KLT_I25 := gc_LT_fr KLT_I10 (p26 23 5 (fun h => absurd h.1 N_23__a1_1)) (p26 23 6 (fun h => absurd h.1 N_23__a1_1)) (p26 23 7 (fun h => absurd h.1 N_23__a1_1)) (fun k => p26 24 k (fun h => absurd h.1 N_24__a1_1))
  have KTK_I25 := gc_TK_fr KTK_I10 (p26 23 1 (fun h => absurd h.1 N_23__a1_1)) (p26 23 5 (fun h => absurd h.1 N_23__a1_1)) (p26 23 6 (fun h => absurd h.1 N_23__a1_1)) (p26 23 7 (fun h => absurd h.1 N_23__a1_1))
  have KCT_I25 := gc_CT_fr KCT_I10 (p26 a1 8 (fun h => absurd h.1 N_a1__a1_1)) (fun k => p26 (a1 + 6) k (fun h => absurd h.1 N_a1_6__a1_1))
  have A36 := gc_AT_I e6_12 (p26 23 1 (fun h => absurd h.1 N_23__a1_1)) (p26 23 5 (fun h => absurd h.1 N_23__a1_1)) (p26 23 6 (fun h => absurd h.1 N_23__a1_1)) (p26 23 7 (fun h => absurd h.1 N_23__a1_1)) (p26 23 8 (fun h => absurd h.1 N_23__a1_1)) (fun k => p26 24 k (fun h => absurd h.1 N_24__a1_1))
  show gv_X _ _ (120, [(0, .inr (.inr (some 39))), (1, .inr (.inr (some a1))), (2, .inl v2_12)], [], sh, gc_h sh I25 J11 A)
  refine gv_run 1 true hD (pc' := 121) (lv' := [(0, .inr (.inr (some 39))), (1, .inr (.inr (some a1))), (2, .inl v2_12)]) (st' := [.inr (.inr (some a1))]) (h' := gc_h sh I25 J11 A) (C := (True ∧ True)) rfl ⟨trivial, trivial⟩ ?_
  refine gv_get hD rfl rfl S_a1 ⟨by decide, B_a1⟩ (gc_hA S_a1 rfl A_a1_11) ?_
  show gv_X _ _ (124, [(0, .inr (.inr (some 39))), (1, .inr (.inr (some a1))), (2, .inl v2_12)], [.inr (.inr (some (a1 + 6)))], sh, gc_h sh I25 J11 A)
  refine gv_run 2 true hD (pc' := 126) (lv' := [(0, .inr (.inr (some 39))), (1, .inr (.inr (some a1))), (2, .inl v2_12)]) (st' := [.inr (.inr (some a1)), .inl v2_12, .inr (.inr (some (a1 + 6)))]) (h' := gc_h sh I25 J11 A) (C := ((True ∧ True) ∧ True)) rfl ⟨⟨trivial, trivial⟩, trivial⟩ ?_
  have f37 := (show 0 ≤ I25 a1 8 ∧ I25 a1 8 ≤ 4 from gc_in2 hI25 R_a1 rfl rfl rfl)
  refine gv_get hD rfl rfl S_a1 ⟨by decide, B_a1⟩ (gc_hI S_a1 rfl) ?_
  show gv_X _ _ (129, [(0, .inr (.inr (some 39))), (1, .inr (.inr (some a1))), (2, .inl v2_12)], [.inl (I25 a1 8), .inl v2_12, .inr (.inr (some (a1 + 6)))], sh, gc_h sh I25 J11 A)
  refine gv_iast hD rfl S_a1_6 ⟨by decide, B_a1_6⟩ ⟨by exact gz_m 32 (by omega), by exact gz_m 33 (by omega)⟩ ?_
  refine gc_st hI25 S_a1_6 rfl R_a1_6 (lo := (-1)) (hi := 3) rfl rfl (by exact gz_m 34 (by omega)) (by exact gz_m 35 (by omega)) (fun I38 hI38 q39 p39 => ?_)
  have FI38 := gc_frs (W := fun q j => (q = 39 ∧ j = 3) ∨ (q = 39 ∧ j = 4) ∨ (q = 23 ∧ j = 5) ∨ (q = 23 ∧ j = 6) ∨ (q = 23 ∧ j = 7) ∨ (q = 23 ∧ j = 8) ∨ (q = 39 ∧ j = 6) ∨ q = (a1 + 1) ∨ q = (a1 + 6) ∨ q = (a1 + 4) ∨ q = (a1 + 5) ∨ (q = a1 ∧ j = 8)) FI25 (Or.inr (Or.inr (Or.inr (Or.inr (Or.inr (Or.inr (Or.inr (Or.inr (Or.inl rfl))))))))) p39
  have t40 := p39 23 1 (fun h => absurd h.1 N_23__a1_6)
  have t41 := p39 23 5 (fun h => absurd h.1 N_23__a1_6)
  have t42 := p39 23 6 (fun h => absurd h.1 N_23__a1_6)
  have t43 := p39 23 7 (fun h => absurd h.1 N_23__a1_6)
  have t44 := p39 a1 4 (fun h => absurd h.1 N_a1__a1_6)
  have t45 := p39 a1 8 (fun h => absurd h.1 N_a1__a1_6)
  have t46 := p39 23 8 (fun h => absurd h.1 N_23__a1_6)
  have t47 := p39 39 2 (fun h => absurd h.1 N_39__a1_6)
  have KLT_I38 := gc_LT_fr KLT_I25 (p39 23 5 (fun h => absurd h.1 N_23__a1_6)) (p39 23 6 (fun h => absurd h.1 N_23__a1_6)) (p39 23 7 (fun h => absurd h.1 N_23__a1_6)) (fun k => p39 24 k (fun h => absurd h.1 N_24__a1_6))
  have KTK_I38 := gc_TK_fr KTK_I25 (p39 23 1 (fun h => absurd h.1 N_23__a1_6)) (p39 23 5 (fun h => absurd h.1 N_23__a1_6)) (p39 23 6 (fun h => absurd h.1 N_23__a1_6)) (p39 23 7 (fun h => absurd h.1 N_23__a1_6))
  have A48 := gc_AT_I A36 (p39 23 1 (fun h => absurd h.1 N_23__a1_6)) (p39 23 5 (fun h => absurd h.1 N_23__a1_6)) (p39 23 6 (fun h => absurd h.1 N_23__a1_6)) (p39 23 7 (fun h => absurd h.1 N_23__a1_6)) (p39 23 8 (fun h => absurd h.1 N_23__a1_6)) (fun k => p39 24 k (fun h => absurd h.1 N_24__a1_6))
  show gv_X _ _ (130, [(0, .inr (.inr (some 39))), (1, .inr (.inr (some a1))), (2, .inl v2_12)], [], sh, gc_h sh I38 J11 A)
  refine gv_run 1 true hD (pc' := 131) (lv' := [(0, .inr (.inr (some 39))), (1, .inr (.inr (some a1))), (2, .inl v2_12)]) (st' := [.inr (.inr (some a1))]) (h' := gc_h sh I38 J11 A) (C := (True ∧ True)) rfl ⟨trivial, trivial⟩ ?_
  refine gv_get hD rfl rfl S_a1 ⟨by decide, B_a1⟩ (gc_hA S_a1 rfl A_a1_9) ?_
  show gv_X _ _ (134, [(0, .inr (.inr (some 39))), (1, .inr (.inr (some a1))), (2, .inl v2_12)], [.inr (.inr (some (a1 + 4)))], sh, gc_h sh I38 J11 A)
  refine gv_run 1 true hD (pc' := 135) (lv' := [(0, .inr (.inr (some 39))), (1, .inr (.inr (some a1))), (2, .inl v2_12)]) (st' := [.inr (.inr (some a1)), .inr (.inr (some (a1 + 4)))]) (h' := gc_h sh I38 J11 A) (C := (True ∧ True)) rfl ⟨trivial, trivial⟩ ?_
  have f49 := (show 0 ≤ I38 a1 8 ∧ I38 a1 8 ≤ 4 from gc_in2 hI38 R_a1 rfl rfl rfl)
  refine gv_get hD rfl rfl S_a1 ⟨by decide, B_a1⟩ (gc_hI S_a1 rfl) ?_
  show gv_X _ _ (138, [(0, .inr (.inr (some 39))), (1, .inr (.inr (some a1))), (2, .inl v2_12)], [.inl (I38 a1 8), .inr (.inr (some (a1 + 4)))], sh, gc_h sh I38 J11 A)
  refine gv_run 1 true hD (pc' := 139) (lv' := [(0, .inr (.inr (some 39))), (1, .inr (.inr (some a1))), (2, .inl v2_12)]) (st' := [.inl v2_12, .inl (I38 a1 8), .inr (.inr (some (a1 + 4)))]) (h' := gc_h sh I38 J11 A) (C := (True ∧ True)) rfl ⟨trivial, trivial⟩ ?_
  refine gv_iast hD rfl S_a1_4 ⟨by decide, B_a1_4⟩ ⟨by exact gz_m 36 (by omega), by exact gz_m 37 (by omega)⟩ ?_
  refine gc_st hI38 S_a1_4 rfl R_a1_4 (lo := 0) (hi := 3) rfl rfl (by exact gz_m 38 (by omega)) (by exact gz_m 39 (by omega)) (fun I50 hI50 q51 p51 => ?_)
  have FI50 := gc_frs (W := fun q j => (q = 39 ∧ j = 3) ∨ (q = 39 ∧ j = 4) ∨ (q = 23 ∧ j = 5) ∨ (q = 23 ∧ j = 6) ∨ (q = 23 ∧ j = 7) ∨ (q = 23 ∧ j = 8) ∨ (q = 39 ∧ j = 6) ∨ q = (a1 + 1) ∨ q = (a1 + 6) ∨ q = (a1 + 4) ∨ q = (a1 + 5) ∨ (q = a1 ∧ j = 8)) FI38 (Or.inr (Or.inr (Or.inr (Or.inr (Or.inr (Or.inr (Or.inr (Or.inr (Or.inr (Or.inl rfl)))))))))) p51
  have t52 := p51 23 1 (fun h => absurd h.1 N_23__a1_4)
  have t53 := p51 23 5 (fun h => absurd h.1 N_23__a1_4)
  have t54 := p51 23 6 (fun h => absurd h.1 N_23__a1_4)
  have t55 := p51 23 7 (fun h => absurd h.1 N_23__a1_4)
  have t56 := p51 a1 4 (fun h => absurd h.1 N_a1__a1_4)
  have t57 := p51 a1 8 (fun h => absurd h.1 N_a1__a1_4)
  have t58 := p51 23 8 (fun h => absurd h.1 N_23__a1_4)
  have t59 := p51 39 2 (fun h => absurd h.1 N_39__a1_4)
  have t60 := p51 (a1 + 6) (Int.toNat v2_12) (fun h => absurd h.1 N_a1_6__a1_4)
  have KLT_I50 := gc_LT_fr KLT_I38 (p51 23 5 (fun h => absurd h.1 N_23__a1_4)) (p51 23 6 (fun h => absurd h.1 N_23__a1_4)) (p51 23 7 (fun h => absurd h.1 N_23__a1_4)) (fun k => p51 24 k (fun h => absurd h.1 N_24__a1_4))
  have KTK_I50 := gc_TK_fr KTK_I38 (p51 23 1 (fun h => absurd h.1 N_23__a1_4)) (p51 23 5 (fun h => absurd h.1 N_23__a1_4)) (p51 23 6 (fun h => absurd h.1 N_23__a1_4)) (p51 23 7 (fun h => absurd h.1 N_23__a1_4))
  have A61 := gc_AT_I A48 (p51 23 1 (fun h => absurd h.1 N_23__a1_4)) (p51 23 5 (fun h => absurd h.1 N_23__a1_4)) (p51 23 6 (fun h => absurd h.1 N_23__a1_4)) (p51 23 7 (fun h => absurd h.1 N_23__a1_4)) (p51 23 8 (fun h => absurd h.1 N_23__a1_4)) (fun k => p51 24 k (fun h => absurd h.1 N_24__a1_4))
  show gv_X _ _ (140, [(0, .inr (.inr (some 39))), (1, .inr (.inr (some a1))), (2, .inl v2_12)], [], sh, gc_h sh I50 J11 A)
  refine gv_run 1 true hD (pc' := 141) (lv' := [(0, .inr (.inr (some 39))), (1, .inr (.inr (some a1))), (2, .inl v2_12)]) (st' := [.inr (.inr (some a1))]) (h' := gc_h sh I50 J11 A) (C := (True ∧ True)) rfl ⟨trivial, trivial⟩ ?_
  refine gv_get hD rfl rfl S_a1 ⟨by decide, B_a1⟩ (gc_hA S_a1 rfl A_a1_10) ?_
  show gv_X _ _ (144, [(0, .inr (.inr (some 39))), (1, .inr (.inr (some a1))), (2, .inl v2_12)], [.inr (.inr (some (a1 + 5)))], sh, gc_h sh I50 J11 A)
  refine gv_run 1 true hD (pc' := 145) (lv' := [(0, .inr (.inr (some 39))), (1, .inr (.inr (some a1))), (2, .inl v2_12)]) (st' := [.inr (.inr (some a1)), .inr (.inr (some (a1 + 5)))]) (h' := gc_h sh I50 J11 A) (C := (True ∧ True)) rfl ⟨trivial, trivial⟩ ?_
  have f62 := (show 0 ≤ I50 a1 8 ∧ I50 a1 8 ≤ 4 from gc_in2 hI50 R_a1 rfl rfl rfl)
  refine gv_get hD rfl rfl S_a1 ⟨by decide, B_a1⟩ (gc_hI S_a1 rfl) ?_
  show gv_X _ _ (148, [(0, .inr (.inr (some 39))), (1, .inr (.inr (some a1))), (2, .inl v2_12)], [.inl (I50 a1 8), .inr (.inr (some (a1 + 5)))], sh, gc_h sh I50 J11 A)
  refine gv_run 1 true hD (pc' := 149) (lv' := [(0, .inr (.inr (some 39))), (1, .inr (.inr (some a1))), (2, .inl v2_12)]) (st' := [.inr (.inr (some 39)), .inl (I50 a1 8), .inr (.inr (some (a1 + 5)))]) (h' := gc_h sh I50 J11 A) (C := (True ∧ True)) rfl ⟨trivial, trivial⟩ ?_
  have f63 := (gc_b_42_6 hI50 R_39)
  refine gv_get hD rfl rfl S_39 ⟨by decide, B_39⟩ (gc_hI S_39 rfl) ?_
  show gv_X _ _ (152, [(0, .inr (.inr (some 39))), (1, .inr (.inr (some a1))), (2, .inl v2_12)], [.inl (I50 39 6), .inl (I50 a1 8), .inr (.inr (some (a1 + 5)))], sh, gc_h sh I50 J11 A)
  refine gv_iast hD rfl S_a1_5 ⟨by decide, B_a1_5⟩ ⟨by exact gz_m 40 (by omega), by exact gz_m 41 (by omega)⟩ ?_
  refine gc_st hI50 S_a1_5 rfl R_a1_5 (lo := 0) (hi := 16777215) rfl rfl (by exact gz_m 42 (by omega)) (by exact gz_m 43 (by omega)) (fun I64 hI64 q65 p65 => ?_)
  have FI64 := gc_frs (W := fun q j => (q = 39 ∧ j = 3) ∨ (q = 39 ∧ j = 4) ∨ (q = 23 ∧ j = 5) ∨ (q = 23 ∧ j = 6) ∨ (q = 23 ∧ j = 7) ∨ (q = 23 ∧ j = 8) ∨ (q = 39 ∧ j = 6) ∨ q = (a1 + 1) ∨ q = (a1 + 6) ∨ q = (a1 + 4) ∨ q = (a1 + 5) ∨ (q = a1 ∧ j = 8)) FI50 (Or.inr (Or.inr (Or.inr (Or.inr (Or.inr (Or.inr (Or.inr (Or.inr (Or.inr (Or.inr (Or.inl rfl))))))))))) p65
  have t66 := p65 23 1 (fun h => absurd h.1 N_23__a1_5)
  have t67 := p65 23 5 (fun h => absurd h.1 N_23__a1_5)
  have t68 := p65 23 6 (fun h => absurd h.1 N_23__a1_5)
  have t69 := p65 23 7 (fun h => absurd h.1 N_23__a1_5)
  have t70 := p65 a1 4 (fun h => absurd h.1 N_a1__a1_5)
  have t71 := p65 a1 8 (fun h => absurd h.1 N_a1__a1_5)
  have t72 := p65 23 8 (fun h => absurd h.1 N_23__a1_5)
  have t73 := p65 39 2 (fun h => absurd h.1 N_39__a1_5)
  have t74 := p65 (a1 + 6) (Int.toNat v2_12) (fun h => absurd h.1 N_a1_6__a1_5)
  have KLT_I64 := gc_LT_fr KLT_I50 (p65 23 5 (fun h => absurd h.1 N_23__a1_5)) (p65 23 6 (fun h => absurd h.1 N_23__a1_5)) (p65 23 7 (fun h => absurd h.1 N_23__a1_5)) (fun k => p65 24 k (fun h => absurd h.1 N_24__a1_5))
  have KTK_I64 := gc_TK_fr KTK_I50 (p65 23 1 (fun h => absurd h.1 N_23__a1_5)) (p65 23 5 (fun h => absurd h.1 N_23__a1_5)) (p65 23 6 (fun h => absurd h.1 N_23__a1_5)) (p65 23 7 (fun h => absurd h.1 N_23__a1_5))
  have A75 := gc_AT_I A61 (p65 23 1 (fun h => absurd h.1 N_23__a1_5)) (p65 23 5 (fun h => absurd h.1 N_23__a1_5)) (p65 23 6 (fun h => absurd h.1 N_23__a1_5)) (p65 23 7 (fun h => absurd h.1 N_23__a1_5)) (p65 23 8 (fun h => absurd h.1 N_23__a1_5)) (fun k => p65 24 k (fun h => absurd h.1 N_24__a1_5))
  show gv_X _ _ (153, [(0, .inr (.inr (some 39))), (1, .inr (.inr (some a1))), (2, .inl v2_12)], [], sh, gc_h sh I64 J11 A)
  refine gv_run 2 true hD (pc' := 155) (lv' := [(0, .inr (.inr (some 39))), (1, .inr (.inr (some a1))), (2, .inl v2_12)]) (st' := [.inr (.inr (some a1)), .inr (.inr (some a1))]) (h' := gc_h sh I64 J11 A) (C := ((True ∧ True) ∧ True)) rfl ⟨⟨trivial, trivial⟩, trivial⟩ ?_
  have f76 := (show 0 ≤ I64 a1 8 ∧ I64 a1 8 ≤ 4 from gc_in2 hI64 R_a1 rfl rfl rfl)
  refine gv_get hD rfl rfl S_a1 ⟨by decide, B_a1⟩ (gc_hI S_a1 rfl) ?_
  show gv_X _ _ (158, [(0, .inr (.inr (some 39))), (1, .inr (.inr (some a1))), (2, .inl v2_12)], [.inl (I64 a1 8), .inr (.inr (some a1))], sh, gc_h sh I64 J11 A)
  refine gv_run 2 true hD (pc' := 160) (lv' := [(0, .inr (.inr (some 39))), (1, .inr (.inr (some a1))), (2, .inl v2_12)]) (st' := [.inl ((I64 a1 8) + 1), .inr (.inr (some a1))]) (h' := gc_h sh I64 J11 A) (C := ((True ∧ True) ∧ True)) rfl ⟨⟨trivial, trivial⟩, trivial⟩ ?_
  refine gv_put hD rfl rfl S_a1 ⟨by decide, B_a1⟩ rfl trivial ?_
  refine gc_st (k := 8) hI64 S_a1 rfl R_a1 (lo := 0) (hi := 4) rfl rfl (by exact gz_m 44 (by omega)) (by exact gz_m 45 (by omega)) (fun I77 hI77 q78 p78 => ?_)
  have FI77 := gc_frs (W := fun q j => (q = 39 ∧ j = 3) ∨ (q = 39 ∧ j = 4) ∨ (q = 23 ∧ j = 5) ∨ (q = 23 ∧ j = 6) ∨ (q = 23 ∧ j = 7) ∨ (q = 23 ∧ j = 8) ∨ (q = 39 ∧ j = 6) ∨ q = (a1 + 1) ∨ q = (a1 + 6) ∨ q = (a1 + 4) ∨ q = (a1 + 5) ∨ (q = a1 ∧ j = 8)) FI64 (Or.inr (Or.inr (Or.inr (Or.inr (Or.inr (Or.inr (Or.inr (Or.inr (Or.inr (Or.inr (Or.inr ⟨rfl, rfl⟩))))))))))) p78
  have t79 := p78 23 1 (fun h => absurd h.2 (gz_ne rfl))
  have t80 := p78 23 5 (fun h => absurd h.2 (gz_ne rfl))
  have t81 := p78 23 6 (fun h => absurd h.2 (gz_ne rfl))
  have t82 := p78 23 7 (fun h => absurd h.2 (gz_ne rfl))
  have t83 := p78 a1 4 (fun h => absurd h.2 (gz_ne rfl))
  have t84 := p78 23 8 (fun h => absurd h.1 N_23__a1)
  have t85 := p78 39 2 (fun h => absurd h.2 (gz_ne rfl))
  have t86 := p78 (a1 + 6) (Int.toNat v2_12) (fun h => absurd h.1 N_a1_6__a1)
  have f87 := (show 0 ≤ I77 a1 8 ∧ I77 a1 8 ≤ 4 from gc_in2 hI77 R_a1 rfl rfl rfl)
  have KLT_I77 := gc_LT_fr KLT_I64 (p78 23 5 (fun h => absurd h.2 (gz_ne rfl))) (p78 23 6 (fun h => absurd h.2 (gz_ne rfl))) (p78 23 7 (fun h => absurd h.2 (gz_ne rfl))) (fun k => p78 24 k (fun h => absurd h.1 N_24__a1))
  have KTK_I77 := gc_TK_fr KTK_I64 (p78 23 1 (fun h => absurd h.2 (gz_ne rfl))) (p78 23 5 (fun h => absurd h.2 (gz_ne rfl))) (p78 23 6 (fun h => absurd h.2 (gz_ne rfl))) (p78 23 7 (fun h => absurd h.2 (gz_ne rfl)))
  have A88 := gc_AT_I A75 (p78 23 1 (fun h => absurd h.2 (gz_ne rfl))) (p78 23 5 (fun h => absurd h.2 (gz_ne rfl))) (p78 23 6 (fun h => absurd h.2 (gz_ne rfl))) (p78 23 7 (fun h => absurd h.2 (gz_ne rfl))) (p78 23 8 (fun h => absurd h.1 N_23__a1)) (fun k => p78 24 k (fun h => absurd h.1 N_24__a1))
  show gv_X _ _ (163, [(0, .inr (.inr (some 39))), (1, .inr (.inr (some a1))), (2, .inl v2_12)], [], sh, gc_h sh I77 J11 A)
  refine gv_run 1 true hD (pc' := 164) (lv' := [(0, .inr (.inr (some 39))), (1, .inr (.inr (some a1))), (2, .inl v2_12)]) (st' := [.inl 1]) (h' := gc_h sh I77 J11 A) (C := (True ∧ True)) rfl ⟨trivial, trivial⟩ ?_
  exact gv_zret hD rfl (by exact gz_m 46 (by omega)) ⟨I77, J11, rfl, hI77, FI77, FJ11, KLT_I77, KTK_I77, (gc_CT_push (a := v2_12) KCT_I10 (by exact gz_m 47 (by omega)) (by exact gz_m 48 (by omega)) (by exact gz_m 49 (by omega)) (by exact gz_m 50 (by omega)) (fun k hk => by rw [p78 (a1 + 6) k (fun h => absurd h.1 (by exact gz_m 51 (by omega))), p65 (a1 + 6) k (fun h => absurd h.1 (by exact gz_m 52 (by omega))), p51 (a1 + 6) k (fun h => absurd h.1 (by exact gz_m 53 (by omega))), p39 (a1 + 6) k (fun h => hk h.2), p26 (a1 + 6) k (fun h => absurd h.1 (by exact gz_m 54 (by omega)))])), ⟨_, rfl, by exact gz_m 55 (by omega), by exact gz_m 56 (by omega), by exact gz_m 57 (by omega), by exact gz_m 58 (by omega), (Or.inr (by rw [show I a1 4 = I10 a1 4 from by exact gz_m 59 (by omega)]; exact gc_LI_arg (a := v2_12) e0_12 (by exact gz_m 60 (by omega)) ⟨by exact gz_m 61 (by omega), by have h9 := (show I10 12 (Int.toNat (I10 a1 1)) = I 12 (Int.toNat (I a1 1)) from by rw [show I10 a1 1 = I a1 1 from (FI10 a1 1).resolve_left (by exact gz_m 62 (by omega))]; exact (FI10 12 _).resolve_left (by exact gz_m 63 (by omega))); exact gz_m 64 (by omega)⟩ (by exact gz_m 65 (by omega)) ((((((p78 a1 1 (fun h => by have := h.2; exact gz_m 66 (by omega))).trans (p65 a1 1 (fun h => absurd h.1 (by exact gz_m 67 (by omega))))).trans (p51 a1 1 (fun h => absurd h.1 (by exact gz_m 68 (by omega))))).trans (p39 a1 1 (fun h => absurd h.1 (by exact gz_m 69 (by omega))))).trans (p26 a1 1 (fun h => absurd h.1 (by exact gz_m 70 (by omega)))))) (by exact gz_m 71 (by omega)) ((((((p78 (a1 + 1) (Int.toNat (I10 a1 4)) (fun h => absurd h.1 (by exact gz_m 72 (by omega)))).trans (p65 (a1 + 1) (Int.toNat (I10 a1 4)) (fun h => absurd h.1 (by exact gz_m 73 (by omega))))).trans (p51 (a1 + 1) (Int.toNat (I10 a1 4)) (fun h => absurd h.1 (by exact gz_m 74 (by omega))))).trans (p39 (a1 + 1) (Int.toNat (I10 a1 4)) (fun h => absurd h.1 (by exact gz_m 75 (by omega)))))).trans q26) (fun k hk => (((((p78 (a1 + 1) k (fun h => absurd h.1 (by exact gz_m 76 (by omega)))).trans (p65 (a1 + 1) k (fun h => absurd h.1 (by exact gz_m 77 (by omega))))).trans (p51 (a1 + 1) k (fun h => absurd h.1 (by exact gz_m 78 (by omega))))).trans (p39 (a1 + 1) k (fun h => absurd h.1 (by exact gz_m 79 (by omega))))).trans (p26 (a1 + 1) k (fun h => by have := h.2; exact gz_m 80 (by omega))))) (by have h9 := (((((p78 (a1 + 6) (Int.toNat v2_12) (fun h => absurd h.1 (by exact gz_m 81 (by omega)))).trans (p65 (a1 + 6) (Int.toNat v2_12) (fun h => absurd h.1 (by exact gz_m 82 (by omega))))).trans (p51 (a1 + 6) (Int.toNat v2_12) (fun h => absurd h.1 (by exact gz_m 83 (by omega)))))).trans q39); exact gz_m 84 (by omega)) (fun k hk => (((((p78 (a1 + 6) k (fun h => absurd h.1 (by exact gz_m 85 (by omega)))).trans (p65 (a1 + 6) k (fun h => absurd h.1 (by exact gz_m 86 (by omega))))).trans (p51 (a1 + 6) k (fun h => absurd h.1 (by exact gz_m 87 (by omega))))).trans (p39 (a1 + 6) k (fun h => by have := h.2; exact gz_m 88 (by omega)))).trans (p26 (a1 + 6) k (fun h => absurd h.1 (by exact gz_m 89 (by omega)))))) (by rw [show I10 a1 8 = I38 a1 8 from by exact gz_m 90 (by omega)]; exact ((((p78 (a1 + 4) (Int.toNat (I38 a1 8)) (fun h => absurd h.1 (by exact gz_m 91 (by omega)))).trans (p65 (a1 + 4) (Int.toNat (I38 a1 8)) (fun h => absurd h.1 (by exact gz_m 92 (by omega)))))).trans q51)) (fun k hk => (((((p78 (a1 + 4) k (fun h => absurd h.1 (by exact gz_m 93 (by omega)))).trans (p65 (a1 + 4) k (fun h => absurd h.1 (by exact gz_m 94 (by omega))))).trans (p51 (a1 + 4) k (fun h => by have := h.2; exact gz_m 95 (by omega)))).trans (p39 (a1 + 4) k (fun h => absurd h.1 (by exact gz_m 96 (by omega))))).trans (p26 (a1 + 4) k (fun h => absurd h.1 (by exact gz_m 97 (by omega)))))) (fun k => (((((p78 12 k (fun h => absurd h.1 (by exact gz_m 98 (by omega)))).trans (p65 12 k (fun h => absurd h.1 (by exact gz_m 99 (by omega))))).trans (p51 12 k (fun h => absurd h.1 (by exact gz_m 100 (by omega))))).trans (p39 12 k (fun h => absurd h.1 (by exact gz_m 101 (by omega))))).trans (p26 12 k (fun h => absurd h.1 (by exact gz_m 102 (by omega)))))))), (Or.inl ⟨by exact gz_m 103 (by omega), by rw [e7_12]; exact ⟨by exact gz_m 104 (by omega), A88, by exact gz_m 105 (by omega), (gs_SO_put x5 (by exact gz_m 106 (by omega)) (by exact gz_m 107 (by omega)) ⟨by exact gz_m 108 (by omega), by exact gz_m 109 (by omega), by exact gz_m 110 (by omega)⟩ (by rw [show gs_V β η p9 - 1 = v2_12 from by exact gz_m 111 (by omega)]; have h9 := (((((p78 (a1 + 6) (Int.toNat v2_12) (fun h => absurd h.1 (by exact gz_m 112 (by omega)))).trans (p65 (a1 + 6) (Int.toNat v2_12) (fun h => absurd h.1 (by exact gz_m 113 (by omega))))).trans (p51 (a1 + 6) (Int.toNat v2_12) (fun h => absurd h.1 (by exact gz_m 114 (by omega)))))).trans q39); exact gz_m 115 (by omega)) (fun k hk => ((((((p78 (a1 + 6) k (by exact gz_m 116 (by omega))).trans (p65 (a1 + 6) k (by exact gz_m 117 (by omega)))).trans (p51 (a1 + 6) k (by exact gz_m 118 (by omega)))).trans (p39 (a1 + 6) k (by exact gz_m 119 (by omega)))).trans (p26 (a1 + 6) k (by exact gz_m 120 (by omega)))).trans (e10_12.1 k)))), (by rw [show I a1 4 = I10 a1 4 from by exact gz_m 121 (by omega)]; have h9 := ((((((p78 (a1 + 1) (Int.toNat (I10 a1 4)) (fun h => absurd h.1 (by exact gz_m 122 (by omega)))).trans (p65 (a1 + 1) (Int.toNat (I10 a1 4)) (fun h => absurd h.1 (by exact gz_m 123 (by omega))))).trans (p51 (a1 + 1) (Int.toNat (I10 a1 4)) (fun h => absurd h.1 (by exact gz_m 124 (by omega))))).trans (p39 (a1 + 1) (Int.toNat (I10 a1 4)) (fun h => absurd h.1 (by exact gz_m 125 (by omega)))))).trans q26); exact gz_m 126 (by omega)), fun k hk => ((((((p78 (a1 + 1) k (by exact gz_m 127 (by omega))).trans (p65 (a1 + 1) k (by exact gz_m 128 (by omega)))).trans (p51 (a1 + 1) k (by exact gz_m 129 (by omega)))).trans (p39 (a1 + 1) k (by exact gz_m 130 (by omega)))).trans (p26 (a1 + 1) k (by exact gz_m 131 (by omega)))).trans (e10_12.2 k))⟩⟩)⟩⟩
set_option maxHeartbeats 8000000 in
set_option maxRecDepth 100000 in
theorem d_X6_readArgument_l_p {ws0 : List Cond} {tb : String → gz_T} (hws : gc_Ws ws0) (htb : gc_tbs tb) (sh : gz_Sh) (ro : Nat → Nat) (I : gr_I) (J : gr_J) (A : gc_A) (hI : gc_Inv ro I) (t : Nat) (β : Int → Int) (η : Int) (p9 : Int) (Ir : gr_I) (Jr : gr_J) (nf9 : Int) (a9 : Nat → Int) (a1 : Nat) (hb : gc_Base sh ro A) (h_a1 : gc_isLin sh ro A a1) (G_a1 : 144 ≤ a1) (h_t : gc_isTongue sh ro A t) (G_t : 144 ≤ t)  (x0 : I a1 4 ≤ 5) (x1 : I 23 7 = 2) (x2 : gc_LI a1 (I a1 4) I) (x3 : gc_AT β η p9 23 I J) (x4 : 0 ≤ p9) (x5 : gs_SO I a1 nf9 a9) (x6 : nf9 ≤ 4) (x7 : nf9 = I 12 (Int.toNat (I a1 1))) (x8 : I (t + 3) 1 = Ir 14 (Int.toNat (Ir 0 6))) (x9 : gs_NA (I (t + 3) 1) (J (t + 4)) (fun k => Jr 21 (Int.toNat (48 * Ir 0 6 + (k : Int))))) (x10 : gs_VR Ir I t) (x11 : I 39 2 = (t : Int)) (KLT_I : gc_LT I) (KTK_I : gc_TK I) (KCT_I : gc_CT a1 I) : ∃ r h', gz_Ev ws0 tb 4 (yX6_readArgument, cX6_readArgument, 3, (some .boolean)) [.inr (.inr (some 39)), .inr (.inr (some a1))] sh (gc_h sh I J A) r sh h' 0 0 ∧ (∃ (I' : gr_I) (J' : gr_J), h' = gc_h sh I' J' A ∧ gc_Inv ro I' ∧ (∀ q j : Nat, ((q = 39 ∧ j = 3) ∨ (q = 39 ∧ j = 4) ∨ (q = 23 ∧ j = 5) ∨ (q = 23 ∧ j = 6) ∨ (q = 23 ∧ j = 7) ∨ (q = 23 ∧ j = 8) ∨ (q = 39 ∧ j = 6) ∨ q = (a1 + 1) ∨ q = (a1 + 6) ∨ q = (a1 + 4) ∨ q = (a1 + 5) ∨ (q = a1 ∧ j = 8)) ∨ I' q j = I q j) ∧ (∀ q j : Nat, ((q = 23 ∧ j = 9)) ∨ J' q j = J q j) ∧ gc_LT I' ∧ gc_TK I' ∧ gc_CT a1 I' ∧ (∃ z : Int, r = some (.inl z) ∧ 0 ≤ z ∧ z ≤ 1 ∧ (I' 23 1 = I 23 1) ∧ (I 23 5 ≤ I' 23 5) ∧ (gc_LE z a1 (I a1 4 + 1) I') ∧ (gs_Or z (0 ≤ (gs_it2 β η Ir Jr nf9 a9 p9) ∧ gc_AT β η (gs_it2 β η Ir Jr nf9 a9 p9) 23 I' J' ∧ (1 ≤ gs_V β η p9 ∧ gs_SO I' a1 nf9 (gs_ua β η p9 a9) ∧ I' (a1 + 1) (Int.toNat (I a1 4)) = gs_V β η p9 - 1 ∧ ∀ k, ¬ k = Int.toNat (I a1 4) → I' (a1 + 1) k = I (a1 + 1) k)) ((gs_it2 β η Ir Jr nf9 a9 p9) < 0 ∧ I' 39 4 = -1 - (gs_it2 β η Ir Jr nf9 a9 p9))))) := by
  have FI : ∀ q j : Nat, ((q = 39 ∧ j = 3) ∨ (q = 39 ∧ j = 4) ∨ (q = 23 ∧ j = 5) ∨ (q = 23 ∧ j = 6) ∨ (q = 23 ∧ j = 7) ∨ (q = 23 ∧ j = 8) ∨ (q = 39 ∧ j = 6) ∨ q = (a1 + 1) ∨ q = (a1 + 6) ∨ q = (a1 + 4) ∨ q = (a1 + 5) ∨ (q = a1 ∧ j = 8)) ∨ I q j = I q j := fun _ _ => Or.inr rfl
  have FJ : ∀ q j : Nat, ((q = 23 ∧ j = 9)) ∨ J q j = J q j := fun _ _ => Or.inr rfl
  have A_1_7 : A 1 7 = some 12 := gc_bA_1_7 hb
  have A_39_0 : A 39 0 = some 1 := gc_bA_39_0 hb
  have A_39_1 : A 39 1 = some 23 := gc_bA_39_1 hb
  have B_1 : 1 < 1000000 := by decide
  have B_12 : 12 < 1000000 := by decide
  have B_23 : 23 < 1000000 := by decide
  have B_39 : 39 < 1000000 := by decide
  have R_12 : ro 12 = 26 := gc_bR_12 hb
  have R_23 : ro 23 = 3 := gc_bR_23 hb
  have R_39 : ro 39 = 42 := gc_bR_39 hb
  have S_1 : sh[1]? = some (false, 8, 21) := gc_bS_1 hb
  have S_12 : sh[12]? = some (true, 1, 96) := gc_bS_12 hb
  have S_23 : sh[23]? = some (false, 9, 10) := gc_bS_23 hb
  have S_39 : sh[39]? = some (false, 6, 19) := gc_bS_39 hb
  obtain ⟨S_a1, R_a1, B_a1, A_a1_5, S_a1_1, R_a1_1, B_a1_1, A_a1_6, S_a1_2, R_a1_2, B_a1_2, A_a1_7, S_a1_3, R_a1_3, B_a1_3, A_a1_9, S_a1_4, R_a1_4, B_a1_4, A_a1_10, S_a1_5, R_a1_5, B_a1_5, A_a1_11, S_a1_6, R_a1_6, B_a1_6, A_a1_13, S_a1_7, R_a1_7, B_a1_7, A_a1_15, S_a1_8, R_a1_8, B_a1_8⟩ := id h_a1
  obtain ⟨S_t, R_t, B_t, A_t_0, h_t_1, A_t_1, h_t_3, A_t_2, S_t_5, R_t_5, B_t_5, A_t_3, S_t_6, R_t_6, B_t_6, A_t_4, h_t_7, A_t_5, S_t_9, R_t_9, B_t_9, A_t_7, S_t_10, R_t_10, B_t_10, A_t_8, h_t_11, A_t_9, S_t_13, R_t_13, B_t_13, A_t_10, S_t_14, R_t_14, B_t_14, A_t_12, S_t_15, R_t_15, B_t_15, A_t_14, S_t_16, R_t_16, B_t_16, A_t_15, h_t_17⟩ := id h_t
  obtain ⟨S_t_1, R_t_1, B_t_1, A_t_1_0, S_t_1_1, R_t_1_1, B_t_1_1, Q0_t_1, Q1_t_1, Q2_t_1⟩ := id h_t_1
  obtain ⟨S_t_3, R_t_3, B_t_3, A_t_3_0, S_t_3_1, R_t_3_1, B_t_3_1, Q0_t_3, Q1_t_3, Q2_t_3⟩ := id h_t_3
  obtain ⟨S_t_7, R_t_7, B_t_7, A_t_7_0, S_t_7_1, R_t_7_1, B_t_7_1, Q0_t_7, Q1_t_7, Q2_t_7⟩ := id h_t_7
  obtain ⟨S_t_11, R_t_11, B_t_11, A_t_11_0, S_t_11_1, R_t_11_1, B_t_11_1, Q0_t_11, Q1_t_11, Q2_t_11⟩ := id h_t_11
  obtain ⟨S_t_17, R_t_17, B_t_17, A_t_17_0, S_20, R_20, B_20, A_t_17_1, S_t_17_1, R_t_17_1, B_t_17_1, A_t_17_2, S_t_17_2, R_t_17_2, B_t_17_2, A_t_17_3, S_t_17_3, R_t_17_3, B_t_17_3, A_t_17_4, S_t_17_4, R_t_17_4, B_t_17_4, A_t_17_5, S_t_17_5, R_t_17_5, B_t_17_5, S_t_17_6, R_t_17_6, B_t_17_6, S_t_17_7, R_t_17_7, B_t_17_7⟩ := id h_t_17
  have N1 := gc_dj_LT h_a1 h_t
  have hD : gv_D (gc_E6 ws0 tb 3 (yX6_readArgument, cX6_readArgument, 3, (some .boolean)) kX6_readArgument) := gq_of oX6_readArgument
  refine gc_ev6 (d := 3) (l := kX6_readArgument) (Po := fun r h' => (∃ (I' : gr_I) (J' : gr_J), h' = gc_h sh I' J' A ∧ gc_Inv ro I' ∧ (∀ q j : Nat, ((q = 39 ∧ j = 3) ∨ (q = 39 ∧ j = 4) ∨ (q = 23 ∧ j = 5) ∨ (q = 23 ∧ j = 6) ∨ (q = 23 ∧ j = 7) ∨ (q = 23 ∧ j = 8) ∨ (q = 39 ∧ j = 6) ∨ q = (a1 + 1) ∨ q = (a1 + 6) ∨ q = (a1 + 4) ∨ q = (a1 + 5) ∨ (q = a1 ∧ j = 8)) ∨ I' q j = I q j) ∧ (∀ q j : Nat, ((q = 23 ∧ j = 9)) ∨ J' q j = J q j) ∧ gc_LT I' ∧ gc_TK I' ∧ gc_CT a1 I' ∧ (∃ z : Int, r = some (.inl z) ∧ 0 ≤ z ∧ z ≤ 1 ∧ (I' 23 1 = I 23 1) ∧ (I 23 5 ≤ I' 23 5) ∧ (gc_LE z a1 (I a1 4 + 1) I') ∧ (gs_Or z (0 ≤ (gs_it2 β η Ir Jr nf9 a9 p9) ∧ gc_AT β η (gs_it2 β η Ir Jr nf9 a9 p9) 23 I' J' ∧ (1 ≤ gs_V β η p9 ∧ gs_SO I' a1 nf9 (gs_ua β η p9 a9) ∧ I' (a1 + 1) (Int.toNat (I a1 4)) = gs_V β η p9 - 1 ∧ ∀ k, ¬ k = Int.toNat (I a1 4) → I' (a1 + 1) k = I (a1 + 1) k)) ((gs_it2 β η Ir Jr nf9 a9 p9) < 0 ∧ I' 39 4 = -1 - (gs_it2 β η Ir Jr nf9 a9 p9)))))) htb rfl (Nat.le_of_ble_eq_true rfl) ?_
  have N_23__a1_1 : ¬ (23 = (a1 + 1)) := by exact gz_m 0 (by omega)
  have N_a1__a1_1 : ¬ (a1 = (a1 + 1)) := by exact gz_m 1 (by omega)
  have N_39__a1_1 : ¬ (39 = (a1 + 1)) := by exact gz_m 2 (by omega)
  have N_a1_6__a1_1 : ¬ ((a1 + 6) = (a1 + 1)) := by exact gz_m 3 (by omega)
  have N_24__a1_1 : ¬ (24 = (a1 + 1)) := by exact gz_m 4 (by omega)
  have N_23__a1_6 : ¬ (23 = (a1 + 6)) := by exact gz_m 5 (by omega)
  have N_a1__a1_6 : ¬ (a1 = (a1 + 6)) := by exact gz_m 6 (by omega)
  have N_39__a1_6 : ¬ (39 = (a1 + 6)) := by exact gz_m 7 (by omega)
  have N_24__a1_6 : ¬ (24 = (a1 + 6)) := by exact gz_m 8 (by omega)
  have N_23__a1_4 : ¬ (23 = (a1 + 4)) := by exact gz_m 9 (by omega)
  have N_a1__a1_4 : ¬ (a1 = (a1 + 4)) := by exact gz_m 10 (by omega)
  have N_39__a1_4 : ¬ (39 = (a1 + 4)) := by exact gz_m 11 (by omega)
  have N_a1_6__a1_4 : ¬ ((a1 + 6) = (a1 + 4)) := by exact gz_m 12 (by omega)
  have N_24__a1_4 : ¬ (24 = (a1 + 4)) := by exact gz_m 13 (by omega)
  have N_23__a1_5 : ¬ (23 = (a1 + 5)) := by exact gz_m 14 (by omega)
  have N_a1__a1_5 : ¬ (a1 = (a1 + 5)) := by exact gz_m 15 (by omega)
  have N_39__a1_5 : ¬ (39 = (a1 + 5)) := by exact gz_m 16 (by omega)
  have N_a1_6__a1_5 : ¬ ((a1 + 6) = (a1 + 5)) := by exact gz_m 17 (by omega)
  have N_24__a1_5 : ¬ (24 = (a1 + 5)) := by exact gz_m 18 (by omega)
  have N_23__a1 : ¬ (23 = a1) := by exact gz_m 19 (by omega)
  have N_a1_6__a1 : ¬ ((a1 + 6) = a1) := by exact gz_m 20 (by omega)
  have N_24__a1 : ¬ (24 = a1) := by exact gz_m 21 (by omega)
  have N_a1__39 : ¬ (a1 = 39) := by exact gz_m 22 (by omega)
  have N_a1_6__39 : ¬ ((a1 + 6) = 39) := by exact gz_m 23 (by omega)
  have N_a1__23 : ¬ (a1 = 23) := by exact gz_m 24 (by omega)
  have N_a1_6__23 : ¬ ((a1 + 6) = 23) := by exact gz_m 25 (by omega)
  have t1 := gc_TK_mo KTK_I
  have f2 := (gc_b_3_1 hI R_23)
  have f3 := (gc_b_3_5 hI R_23)
  have f4 := (gc_b_3_6 hI R_23)
  have f5 := (gc_b_3_7 hI R_23)
  have f6 := (show 0 ≤ I a1 4 ∧ I a1 4 ≤ 6 from gc_in2 hI R_a1 rfl rfl rfl)
  have f7 := (show 0 ≤ I a1 8 ∧ I a1 8 ≤ 4 from gc_in2 hI R_a1 rfl rfl rfl)
  have f8 := (gc_b_3_8 hI R_23)
  have f9 := (gc_b_42_2 hI R_39)
  have tAT := gc_AT_l x3
  have L110 : ∀ (I10 : gr_I) (J11 : gr_J) (v2_12 : Int) (p_12 : Int), gc_Inv ro I10 → (∀ q j : Nat, ((q = 39 ∧ j = 3) ∨ (q = 39 ∧ j = 4) ∨ (q = 23 ∧ j = 5) ∨ (q = 23 ∧ j = 6) ∨ (q = 23 ∧ j = 7) ∨ (q = 23 ∧ j = 8) ∨ (q = 39 ∧ j = 6) ∨ q = (a1 + 1) ∨ q = (a1 + 6) ∨ q = (a1 + 4) ∨ q = (a1 + 5) ∨ (q = a1 ∧ j = 8)) ∨ I10 q j = I q j) → (∀ q j : Nat, ((q = 23 ∧ j = 9)) ∨ J11 q j = J q j) → gc_LT I10 → gc_TK I10 → gc_CT a1 I10 → ((0 ≤ v2_12 ∧ v2_12 ≤ 3) ∧ (I10 (a1 + 6) (Int.toNat v2_12) < 0) ∧ (I10 a1 4 ≤ 5) ∧ (v2_12 < I 12 (Int.toNat (I a1 1))) ∧ (I10 a1 4 = I a1 4) ∧ (0 ≤ p_12) ∧ (I10 23 1 = I 23 1) ∧ (I 23 5 ≤ I10 23 5) ∧ (I10 39 2 = (t : Int))) → (gc_LI a1 (I10 a1 4) I10) → (gc_AT β η p_12 23 I10 J11) → ((gs_it2 β η Ir Jr nf9 a9 p9) = p_12) → (v2_12 = gs_V β η p9 - 1) → (gs_T β η p9 = 2) → ((∀ k, I10 (a1 + 6) k = I (a1 + 6) k) ∧ (∀ k, I10 (a1 + 1) k = I (a1 + 1) k)) → gv_X (gc_E6 ws0 tb 3 (yX6_readArgument, cX6_readArgument, 3, (some .boolean)) kX6_readArgument) (gv_Q cX6_readArgument (some .boolean) sh (fun r h' => (∃ (I' : gr_I) (J' : gr_J), h' = gc_h sh I' J' A ∧ gc_Inv ro I' ∧ (∀ q j : Nat, ((q = 39 ∧ j = 3) ∨ (q = 39 ∧ j = 4) ∨ (q = 23 ∧ j = 5) ∨ (q = 23 ∧ j = 6) ∨ (q = 23 ∧ j = 7) ∨ (q = 23 ∧ j = 8) ∨ (q = 39 ∧ j = 6) ∨ q = (a1 + 1) ∨ q = (a1 + 6) ∨ q = (a1 + 4) ∨ q = (a1 + 5) ∨ (q = a1 ∧ j = 8)) ∨ I' q j = I q j) ∧ (∀ q j : Nat, ((q = 23 ∧ j = 9)) ∨ J' q j = J q j) ∧ gc_LT I' ∧ gc_TK I' ∧ gc_CT a1 I' ∧ (∃ z : Int, r = some (.inl z) ∧ 0 ≤ z ∧ z ≤ 1 ∧ (I' 23 1 = I 23 1) ∧ (I 23 5 ≤ I' 23 5) ∧ (gc_LE z a1 (I a1 4 + 1) I') ∧ (gs_Or z (0 ≤ (gs_it2 β η Ir Jr nf9 a9 p9) ∧ gc_AT β η (gs_it2 β η Ir Jr nf9 a9 p9) 23 I' J' ∧ (1 ≤ gs_V β η p9 ∧ gs_SO I' a1 nf9 (gs_ua β η p9 a9) ∧ I' (a1 + 1) (Int.toNat (I a1 4)) = gs_V β η p9 - 1 ∧ ∀ k, ¬ k = Int.toNat (I a1 4) → I' (a1 + 1) k = I (a1 + 1) k)) ((gs_it2 β η Ir Jr nf9 a9 p9) < 0 ∧ I' 39 4 = -1 - (gs_it2 β η Ir Jr nf9 a9 p9))))))) (110, [(0, .inr (.inr (some 39))), (1, .inr (.inr (some a1))), (2, .inl v2_12)], [], sh, gc_h sh I10 J11 A) := d_X6_readArgument_l_p_L110 (ws0 := ws0) (tb := tb) hws htb sh ro I J A hI t β η p9 Ir Jr nf9 a9 a1 hb h_a1 G_a1 h_t G_t x0 x1 x2 x3 x4 x5 x6 x7 x8 x9 x10 x11 KLT_I KTK_I KCT_I
  refine gv_run 1 true hD (pc' := 1) (lv' := [(0, .inr (.inr (some 39))), (1, .inr (.inr (some a1)))]) (st' := [.inr (.inr (some 39))]) (h' := gc_h sh I J A) (C := (True ∧ True)) rfl ⟨trivial, trivial⟩ ?_
  refine gv_get hD rfl rfl S_39 ⟨by decide, B_39⟩ (gc_hA S_39 rfl A_39_1) ?_
  show gv_X _ _ (4, [(0, .inr (.inr (some 39))), (1, .inr (.inr (some a1)))], [.inr (.inr (some 23))], sh, gc_h sh I J A)
  have f89 := (gc_b_3_8 hI R_23)
  refine gv_get hD rfl rfl S_23 ⟨by decide, B_23⟩ (gc_hI S_23 rfl) ?_
  show gv_X _ _ (7, [(0, .inr (.inr (some 39))), (1, .inr (.inr (some a1)))], [.inl (I 23 8)], sh, gc_h sh I J A)
  refine gv_run 3 true hD (pc' := 10) (lv' := [(2, .inl ((I 23 8) - 1)), (0, .inr (.inr (some 39))), (1, .inr (.inr (some a1)))]) (st' := []) (h' := gc_h sh I J A) (C := (((True ∧ True) ∧ True) ∧ True)) rfl ⟨⟨⟨trivial, trivial⟩, trivial⟩, trivial⟩ ?_
  have t90 := (gc_AT_v x3 (by exact gz_m 132 (by omega)))
  have t91 := (fun h => x5 (Int.toNat ((I 23 8) - 1)) h)
  refine gv_run 1 true hD (pc' := 11) (lv' := [(2, .inl ((I 23 8) - 1)), (0, .inr (.inr (some 39))), (1, .inr (.inr (some a1)))]) (st' := [.inl ((I 23 8) - 1)]) (h' := gc_h sh I J A) (C := (True ∧ True)) rfl ⟨trivial, trivial⟩ ?_
  refine gv_if_lt (t := 39) hD rfl rfl ⟨by exact gz_m 133 (by omega), by exact gz_m 134 (by omega)⟩ (fun c92 => ?_) (fun c92 => ?_)
  · show gv_X _ _ (39, [(2, .inl ((I 23 8) - 1)), (0, .inr (.inr (some 39))), (1, .inr (.inr (some a1)))], [], sh, gc_h sh I J A)
    refine gv_run 3 true hD (pc' := 42) (lv' := [(2, .inl ((I 23 8) - 1)), (0, .inr (.inr (some 39))), (1, .inr (.inr (some a1)))]) (st' := [.inr (.inr (some 39)), .inl 5, .inr (.inr (some 39))]) (h' := gc_h sh I J A) (C := (((True ∧ True) ∧ True) ∧ True)) rfl ⟨⟨⟨trivial, trivial⟩, trivial⟩, trivial⟩ ?_
    refine gv_get hD rfl rfl S_39 ⟨by decide, B_39⟩ (gc_hA S_39 rfl A_39_1) ?_
    show gv_X _ _ (45, [(2, .inl ((I 23 8) - 1)), (0, .inr (.inr (some 39))), (1, .inr (.inr (some a1)))], [.inr (.inr (some 23)), .inl 5, .inr (.inr (some 39))], sh, gc_h sh I J A)
    have f93 := (gc_b_3_5 hI R_23)
    refine gv_get hD rfl rfl S_23 ⟨by decide, B_23⟩ (gc_hI S_23 rfl) ?_
    show gv_X _ _ (48, [(2, .inl ((I 23 8) - 1)), (0, .inr (.inr (some 39))), (1, .inr (.inr (some a1)))], [.inl (I 23 5), .inl 5, .inr (.inr (some 39))], sh, gc_h sh I J A)
    obtain ⟨r94, h94, E94, P94⟩ := d_X6_wrong_p (ws0 := ws0) (tb := tb) hws htb sh ro I J A hI  5 (I 23 5) hb   ⟨by exact gz_m 135 (by omega), by exact gz_m 136 (by omega)⟩ ⟨by exact gz_m 137 (by omega), by exact gz_m 138 (by omega)⟩  
    obtain ⟨I95, J96, rfl, hI95, g94, k94, ⟨z94, rfl, q94⟩⟩ := P94
    have FI95 := gc_frc (W := fun q j => (q = 39 ∧ j = 3) ∨ (q = 39 ∧ j = 4) ∨ (q = 23 ∧ j = 5) ∨ (q = 23 ∧ j = 6) ∨ (q = 23 ∧ j = 7) ∨ (q = 23 ∧ j = 8) ∨ (q = 39 ∧ j = 6) ∨ q = (a1 + 1) ∨ q = (a1 + 6) ∨ q = (a1 + 4) ∨ q = (a1 + 5) ∨ (q = a1 ∧ j = 8)) (V := fun q j => (q = 39 ∧ j = 3) ∨ (q = 39 ∧ j = 4)) FI (fun q j h => (h.elim (fun h => (Or.inl h)) (fun h => (Or.inr (Or.inl h))))) g94
    have t97 := (g94 23 1).resolve_left (fun h => h.elim (fun h => absurd h.2 (gz_ne rfl)) (fun h => absurd h.2 (gz_ne rfl)))
    have t98 := (g94 23 5).resolve_left (fun h => h.elim (fun h => absurd h.2 (gz_ne rfl)) (fun h => absurd h.2 (gz_ne rfl)))
    have t99 := (g94 23 6).resolve_left (fun h => h.elim (fun h => absurd h.2 (gz_ne rfl)) (fun h => absurd h.2 (gz_ne rfl)))
    have t100 := (g94 23 7).resolve_left (fun h => h.elim (fun h => absurd h.2 (gz_ne rfl)) (fun h => absurd h.2 (gz_ne rfl)))
    have t101 := (g94 a1 4).resolve_left (fun h => h.elim (fun h => absurd h.2 (gz_ne rfl)) (fun h => absurd h.1 N_a1__39))
    have t102 := (g94 a1 8).resolve_left (fun h => h.elim (fun h => absurd h.2 (gz_ne rfl)) (fun h => absurd h.2 (gz_ne rfl)))
    have t103 := (g94 23 8).resolve_left (fun h => h.elim (fun h => absurd h.2 (gz_ne rfl)) (fun h => absurd h.2 (gz_ne rfl)))
    have t104 := (g94 39 2).resolve_left (fun h => h.elim (fun h => absurd h.2 (gz_ne rfl)) (fun h => absurd h.2 (gz_ne rfl)))
    have t105 := (g94 (a1 + 6) (Int.toNat (((I 23 8) - 1)))).resolve_left (fun h => h.elim (fun h => absurd h.1 N_a1_6__39) (fun h => absurd h.1 N_a1_6__39))
    obtain rfl : J = J96 := funext fun q => funext fun j => ((k94 q j).resolve_left id).symm
    have KLT_I95 := gc_LT_fr KLT_I ((g94 23 5).resolve_left (fun h => h.elim (fun h => absurd h.2 (gz_ne rfl)) (fun h => absurd h.2 (gz_ne rfl)))) ((g94 23 6).resolve_left (fun h => h.elim (fun h => absurd h.2 (gz_ne rfl)) (fun h => absurd h.2 (gz_ne rfl)))) ((g94 23 7).resolve_left (fun h => h.elim (fun h => absurd h.2 (gz_ne rfl)) (fun h => absurd h.2 (gz_ne rfl)))) (fun k => (g94 24 k).resolve_left (fun h => h.elim (fun h => absurd h.1 (gz_ne rfl)) (fun h => absurd h.1 (gz_ne rfl))))
    have KTK_I95 := gc_TK_fr KTK_I ((g94 23 1).resolve_left (fun h => h.elim (fun h => absurd h.2 (gz_ne rfl)) (fun h => absurd h.2 (gz_ne rfl)))) ((g94 23 5).resolve_left (fun h => h.elim (fun h => absurd h.2 (gz_ne rfl)) (fun h => absurd h.2 (gz_ne rfl)))) ((g94 23 6).resolve_left (fun h => h.elim (fun h => absurd h.2 (gz_ne rfl)) (fun h => absurd h.2 (gz_ne rfl)))) ((g94 23 7).resolve_left (fun h => h.elim (fun h => absurd h.2 (gz_ne rfl)) (fun h => absurd h.2 (gz_ne rfl))))
    have KCT_I95 := gc_CT_fr KCT_I ((g94 a1 8).resolve_left (fun h => h.elim (fun h => absurd h.2 (gz_ne rfl)) (fun h => absurd h.2 (gz_ne rfl)))) (fun k => (g94 (a1 + 6) k).resolve_left (fun h => h.elim (fun h => absurd h.1 N_a1_6__39) (fun h => absurd h.1 N_a1_6__39)))
    have A106 := gc_AT_I x3 ((g94 23 1).resolve_left (fun h => h.elim (fun h => absurd h.2 (gz_ne rfl)) (fun h => absurd h.2 (gz_ne rfl)))) ((g94 23 5).resolve_left (fun h => h.elim (fun h => absurd h.2 (gz_ne rfl)) (fun h => absurd h.2 (gz_ne rfl)))) ((g94 23 6).resolve_left (fun h => h.elim (fun h => absurd h.2 (gz_ne rfl)) (fun h => absurd h.2 (gz_ne rfl)))) ((g94 23 7).resolve_left (fun h => h.elim (fun h => absurd h.2 (gz_ne rfl)) (fun h => absurd h.2 (gz_ne rfl)))) ((g94 23 8).resolve_left (fun h => h.elim (fun h => absurd h.2 (gz_ne rfl)) (fun h => absurd h.2 (gz_ne rfl)))) (fun k => (g94 24 k).resolve_left (fun h => h.elim (fun h => absurd h.1 (gz_ne rfl)) (fun h => absurd h.1 (gz_ne rfl))))
    have t107 := gc_AT_l A106
    refine gv_callV hD rfl (As := [.inl 5, .inl (I 23 5)]) (st := []) rfl B_39 S_39 rfl (gc_lV6 hws rfl) (Nat.le_of_ble_eq_true rfl) (gz_Ev_mono (d := 1) (by decide) E94) ?_
    show gv_X _ _ (51, [(2, .inl ((I 23 8) - 1)), (0, .inr (.inr (some 39))), (1, .inr (.inr (some a1)))], [.inl z94], sh, gc_h sh I95 J A)
    exact gv_zret hD rfl (by exact gz_m 139 (by omega)) ⟨I95, J, rfl, hI95, FI95, FJ, KLT_I95, KTK_I95, KCT_I95, ⟨_, rfl, by exact gz_m 140 (by omega), by exact gz_m 141 (by omega), by exact gz_m 142 (by omega), by exact gz_m 143 (by omega), (Or.inl (by exact gz_m 144 (by omega))), (Or.inr ⟨by exact gz_m 145 (by omega), by unfold gs_it2; rw [show gs_V β η p9 = I 23 8 from by exact gz_m 146 (by omega)]; (repeat first | rw [if_pos (by exact gz_m 147 (by omega))] | rw [if_neg (by exact gz_m 148 (by omega))]); exact ⟨by exact gz_m 149 (by omega), by exact gz_m 150 (by omega)⟩⟩)⟩⟩
  · show gv_X _ _ (14, [(2, .inl ((I 23 8) - 1)), (0, .inr (.inr (some 39))), (1, .inr (.inr (some a1)))], [], sh, gc_h sh I J A)
    refine gv_run 2 true hD (pc' := 16) (lv' := [(2, .inl ((I 23 8) - 1)), (0, .inr (.inr (some 39))), (1, .inr (.inr (some a1)))]) (st' := [.inr (.inr (some 39)), .inl ((I 23 8) - 1)]) (h' := gc_h sh I J A) (C := ((True ∧ True) ∧ True)) rfl ⟨⟨trivial, trivial⟩, trivial⟩ ?_
    refine gv_get hD rfl rfl S_39 ⟨by decide, B_39⟩ (gc_hA S_39 rfl A_39_0) ?_
    show gv_X _ _ (19, [(2, .inl ((I 23 8) - 1)), (0, .inr (.inr (some 39))), (1, .inr (.inr (some a1)))], [.inr (.inr (some 1)), .inl ((I 23 8) - 1)], sh, gc_h sh I J A)
    refine gv_get hD rfl rfl S_1 ⟨by decide, B_1⟩ (gc_hA S_1 rfl A_1_7) ?_
    show gv_X _ _ (22, [(2, .inl ((I 23 8) - 1)), (0, .inr (.inr (some 39))), (1, .inr (.inr (some a1)))], [.inr (.inr (some 12)), .inl ((I 23 8) - 1)], sh, gc_h sh I J A)
    refine gv_run 1 true hD (pc' := 23) (lv' := [(2, .inl ((I 23 8) - 1)), (0, .inr (.inr (some 39))), (1, .inr (.inr (some a1)))]) (st' := [.inr (.inr (some a1)), .inr (.inr (some 12)), .inl ((I 23 8) - 1)]) (h' := gc_h sh I J A) (C := (True ∧ True)) rfl ⟨trivial, trivial⟩ ?_
    have f108 := (show 0 ≤ I a1 1 ∧ I a1 1 ≤ 95 from gc_in2 hI R_a1 rfl rfl rfl)
    refine gv_get hD rfl rfl S_a1 ⟨by decide, B_a1⟩ (gc_hI S_a1 rfl) ?_
    show gv_X _ _ (26, [(2, .inl ((I 23 8) - 1)), (0, .inr (.inr (some 39))), (1, .inr (.inr (some a1)))], [.inl (I a1 1), .inr (.inr (some 12)), .inl ((I 23 8) - 1)], sh, gc_h sh I J A)
    have f109 := (gc_b_26 hI R_12 (Int.toNat (I a1 1)))
    refine gv_iald hD rfl S_12 rfl ⟨by decide, B_12⟩ ⟨by exact gz_m 151 (by omega), by exact gz_m 152 (by omega)⟩ (gc_iI S_12 rfl) ?_
    show gv_X _ _ (27, [(2, .inl ((I 23 8) - 1)), (0, .inr (.inr (some 39))), (1, .inr (.inr (some a1)))], [.inl (I 12 (Int.toNat (I a1 1))), .inl ((I 23 8) - 1)], sh, gc_h sh I J A)
    refine gv_icmp_ge (t := 39) hD rfl rfl ⟨⟨by exact gz_m 153 (by omega), by exact gz_m 154 (by omega)⟩, ⟨by exact gz_m 155 (by omega), by exact gz_m 156 (by omega)⟩⟩ (fun c110 => ?_) (fun c110 => ?_)
    · show gv_X _ _ (39, [(2, .inl ((I 23 8) - 1)), (0, .inr (.inr (some 39))), (1, .inr (.inr (some a1)))], [], sh, gc_h sh I J A)
      refine gv_run 3 true hD (pc' := 42) (lv' := [(2, .inl ((I 23 8) - 1)), (0, .inr (.inr (some 39))), (1, .inr (.inr (some a1)))]) (st' := [.inr (.inr (some 39)), .inl 5, .inr (.inr (some 39))]) (h' := gc_h sh I J A) (C := (((True ∧ True) ∧ True) ∧ True)) rfl ⟨⟨⟨trivial, trivial⟩, trivial⟩, trivial⟩ ?_
      refine gv_get hD rfl rfl S_39 ⟨by decide, B_39⟩ (gc_hA S_39 rfl A_39_1) ?_
      show gv_X _ _ (45, [(2, .inl ((I 23 8) - 1)), (0, .inr (.inr (some 39))), (1, .inr (.inr (some a1)))], [.inr (.inr (some 23)), .inl 5, .inr (.inr (some 39))], sh, gc_h sh I J A)
      have f111 := (gc_b_3_5 hI R_23)
      refine gv_get hD rfl rfl S_23 ⟨by decide, B_23⟩ (gc_hI S_23 rfl) ?_
      show gv_X _ _ (48, [(2, .inl ((I 23 8) - 1)), (0, .inr (.inr (some 39))), (1, .inr (.inr (some a1)))], [.inl (I 23 5), .inl 5, .inr (.inr (some 39))], sh, gc_h sh I J A)
      obtain ⟨r112, h112, E112, P112⟩ := d_X6_wrong_p (ws0 := ws0) (tb := tb) hws htb sh ro I J A hI  5 (I 23 5) hb   ⟨by exact gz_m 157 (by omega), by exact gz_m 158 (by omega)⟩ ⟨by exact gz_m 159 (by omega), by exact gz_m 160 (by omega)⟩  
      obtain ⟨I113, J114, rfl, hI113, g112, k112, ⟨z112, rfl, q112⟩⟩ := P112
      have FI113 := gc_frc (W := fun q j => (q = 39 ∧ j = 3) ∨ (q = 39 ∧ j = 4) ∨ (q = 23 ∧ j = 5) ∨ (q = 23 ∧ j = 6) ∨ (q = 23 ∧ j = 7) ∨ (q = 23 ∧ j = 8) ∨ (q = 39 ∧ j = 6) ∨ q = (a1 + 1) ∨ q = (a1 + 6) ∨ q = (a1 + 4) ∨ q = (a1 + 5) ∨ (q = a1 ∧ j = 8)) (V := fun q j => (q = 39 ∧ j = 3) ∨ (q = 39 ∧ j = 4)) FI (fun q j h => (h.elim (fun h => (Or.inl h)) (fun h => (Or.inr (Or.inl h))))) g112
      have t115 := (g112 23 1).resolve_left (fun h => h.elim (fun h => absurd h.2 (gz_ne rfl)) (fun h => absurd h.2 (gz_ne rfl)))
      have t116 := (g112 23 5).resolve_left (fun h => h.elim (fun h => absurd h.2 (gz_ne rfl)) (fun h => absurd h.2 (gz_ne rfl)))
      have t117 := (g112 23 6).resolve_left (fun h => h.elim (fun h => absurd h.2 (gz_ne rfl)) (fun h => absurd h.2 (gz_ne rfl)))
      have t118 := (g112 23 7).resolve_left (fun h => h.elim (fun h => absurd h.2 (gz_ne rfl)) (fun h => absurd h.2 (gz_ne rfl)))
      have t119 := (g112 a1 4).resolve_left (fun h => h.elim (fun h => absurd h.2 (gz_ne rfl)) (fun h => absurd h.1 N_a1__39))
      have t120 := (g112 a1 8).resolve_left (fun h => h.elim (fun h => absurd h.2 (gz_ne rfl)) (fun h => absurd h.2 (gz_ne rfl)))
      have t121 := (g112 23 8).resolve_left (fun h => h.elim (fun h => absurd h.2 (gz_ne rfl)) (fun h => absurd h.2 (gz_ne rfl)))
      have t122 := (g112 39 2).resolve_left (fun h => h.elim (fun h => absurd h.2 (gz_ne rfl)) (fun h => absurd h.2 (gz_ne rfl)))
      have t123 := (g112 (a1 + 6) (Int.toNat (((I 23 8) - 1)))).resolve_left (fun h => h.elim (fun h => absurd h.1 N_a1_6__39) (fun h => absurd h.1 N_a1_6__39))
      obtain rfl : J = J114 := funext fun q => funext fun j => ((k112 q j).resolve_left id).symm
      have KLT_I113 := gc_LT_fr KLT_I ((g112 23 5).resolve_left (fun h => h.elim (fun h => absurd h.2 (gz_ne rfl)) (fun h => absurd h.2 (gz_ne rfl)))) ((g112 23 6).resolve_left (fun h => h.elim (fun h => absurd h.2 (gz_ne rfl)) (fun h => absurd h.2 (gz_ne rfl)))) ((g112 23 7).resolve_left (fun h => h.elim (fun h => absurd h.2 (gz_ne rfl)) (fun h => absurd h.2 (gz_ne rfl)))) (fun k => (g112 24 k).resolve_left (fun h => h.elim (fun h => absurd h.1 (gz_ne rfl)) (fun h => absurd h.1 (gz_ne rfl))))
      have KTK_I113 := gc_TK_fr KTK_I ((g112 23 1).resolve_left (fun h => h.elim (fun h => absurd h.2 (gz_ne rfl)) (fun h => absurd h.2 (gz_ne rfl)))) ((g112 23 5).resolve_left (fun h => h.elim (fun h => absurd h.2 (gz_ne rfl)) (fun h => absurd h.2 (gz_ne rfl)))) ((g112 23 6).resolve_left (fun h => h.elim (fun h => absurd h.2 (gz_ne rfl)) (fun h => absurd h.2 (gz_ne rfl)))) ((g112 23 7).resolve_left (fun h => h.elim (fun h => absurd h.2 (gz_ne rfl)) (fun h => absurd h.2 (gz_ne rfl))))
      have KCT_I113 := gc_CT_fr KCT_I ((g112 a1 8).resolve_left (fun h => h.elim (fun h => absurd h.2 (gz_ne rfl)) (fun h => absurd h.2 (gz_ne rfl)))) (fun k => (g112 (a1 + 6) k).resolve_left (fun h => h.elim (fun h => absurd h.1 N_a1_6__39) (fun h => absurd h.1 N_a1_6__39)))
      have A124 := gc_AT_I x3 ((g112 23 1).resolve_left (fun h => h.elim (fun h => absurd h.2 (gz_ne rfl)) (fun h => absurd h.2 (gz_ne rfl)))) ((g112 23 5).resolve_left (fun h => h.elim (fun h => absurd h.2 (gz_ne rfl)) (fun h => absurd h.2 (gz_ne rfl)))) ((g112 23 6).resolve_left (fun h => h.elim (fun h => absurd h.2 (gz_ne rfl)) (fun h => absurd h.2 (gz_ne rfl)))) ((g112 23 7).resolve_left (fun h => h.elim (fun h => absurd h.2 (gz_ne rfl)) (fun h => absurd h.2 (gz_ne rfl)))) ((g112 23 8).resolve_left (fun h => h.elim (fun h => absurd h.2 (gz_ne rfl)) (fun h => absurd h.2 (gz_ne rfl)))) (fun k => (g112 24 k).resolve_left (fun h => h.elim (fun h => absurd h.1 (gz_ne rfl)) (fun h => absurd h.1 (gz_ne rfl))))
      have t125 := gc_AT_l A124
      refine gv_callV hD rfl (As := [.inl 5, .inl (I 23 5)]) (st := []) rfl B_39 S_39 rfl (gc_lV6 hws rfl) (Nat.le_of_ble_eq_true rfl) (gz_Ev_mono (d := 1) (by decide) E112) ?_
      show gv_X _ _ (51, [(2, .inl ((I 23 8) - 1)), (0, .inr (.inr (some 39))), (1, .inr (.inr (some a1)))], [.inl z112], sh, gc_h sh I113 J A)
      exact gv_zret hD rfl (by exact gz_m 161 (by omega)) ⟨I113, J, rfl, hI113, FI113, FJ, KLT_I113, KTK_I113, KCT_I113, ⟨_, rfl, by exact gz_m 162 (by omega), by exact gz_m 163 (by omega), by exact gz_m 164 (by omega), by exact gz_m 165 (by omega), (Or.inl (by exact gz_m 166 (by omega))), (Or.inr ⟨by exact gz_m 167 (by omega), by unfold gs_it2; rw [show gs_V β η p9 = I 23 8 from by exact gz_m 168 (by omega)]; (repeat first | rw [if_pos (by exact gz_m 169 (by omega))] | rw [if_neg (by exact gz_m 170 (by omega))]); exact ⟨by exact gz_m 171 (by omega), by exact gz_m 172 (by omega)⟩⟩)⟩⟩
    · show gv_X _ _ (30, [(2, .inl ((I 23 8) - 1)), (0, .inr (.inr (some 39))), (1, .inr (.inr (some a1)))], [], sh, gc_h sh I J A)
      refine gv_run 1 true hD (pc' := 31) (lv' := [(2, .inl ((I 23 8) - 1)), (0, .inr (.inr (some 39))), (1, .inr (.inr (some a1)))]) (st' := [.inr (.inr (some a1))]) (h' := gc_h sh I J A) (C := (True ∧ True)) rfl ⟨trivial, trivial⟩ ?_
      refine gv_get hD rfl rfl S_a1 ⟨by decide, B_a1⟩ (gc_hA S_a1 rfl A_a1_11) ?_
      show gv_X _ _ (34, [(2, .inl ((I 23 8) - 1)), (0, .inr (.inr (some 39))), (1, .inr (.inr (some a1)))], [.inr (.inr (some (a1 + 6)))], sh, gc_h sh I J A)
      refine gv_run 1 true hD (pc' := 35) (lv' := [(2, .inl ((I 23 8) - 1)), (0, .inr (.inr (some 39))), (1, .inr (.inr (some a1)))]) (st' := [.inl ((I 23 8) - 1), .inr (.inr (some (a1 + 6)))]) (h' := gc_h sh I J A) (C := (True ∧ True)) rfl ⟨trivial, trivial⟩ ?_
      have f126 := (show (-1) ≤ I (a1 + 6) (Int.toNat (((I 23 8) - 1))) ∧ I (a1 + 6) (Int.toNat (((I 23 8) - 1))) ≤ 3 from gc_in2 hI R_a1_6 rfl rfl rfl)
      refine gv_iald hD rfl S_a1_6 rfl ⟨by decide, B_a1_6⟩ ⟨by exact gz_m 173 (by omega), by exact gz_m 174 (by omega)⟩ (gc_iI S_a1_6 rfl) ?_
      show gv_X _ _ (36, [(2, .inl ((I 23 8) - 1)), (0, .inr (.inr (some 39))), (1, .inr (.inr (some a1)))], [.inl (I (a1 + 6) (Int.toNat (((I 23 8) - 1))))], sh, gc_h sh I J A)
      refine gv_if_lt (t := 52) hD rfl rfl ⟨by exact gz_m 175 (by omega), by exact gz_m 176 (by omega)⟩ (fun c127 => ?_) (fun c127 => ?_)
      · show gv_X _ _ (52, [(2, .inl ((I 23 8) - 1)), (0, .inr (.inr (some 39))), (1, .inr (.inr (some a1)))], [], sh, gc_h sh I J A)
        refine gv_run 1 true hD (pc' := 53) (lv' := [(2, .inl ((I 23 8) - 1)), (0, .inr (.inr (some 39))), (1, .inr (.inr (some a1)))]) (st' := [.inr (.inr (some 39))]) (h' := gc_h sh I J A) (C := (True ∧ True)) rfl ⟨trivial, trivial⟩ ?_
        refine gv_get hD rfl rfl S_39 ⟨by decide, B_39⟩ (gc_hA S_39 rfl A_39_1) ?_
        show gv_X _ _ (56, [(2, .inl ((I 23 8) - 1)), (0, .inr (.inr (some 39))), (1, .inr (.inr (some a1)))], [.inr (.inr (some 23))], sh, gc_h sh I J A)
        have t129 := gc_TK_nx KTK_I (by exact gz_m 177 (by omega))
        obtain ⟨r128, h128, E128, P128⟩ := d_X9_advance_p (ws0 := ws0) (tb := tb) hws htb sh ro I J A hI 23 β η  (gc_b23 hb)    (by exact gz_m 178 (by omega)) x3.1.1 x3.1.2 
        obtain ⟨I130, J131, rfl, hI130, g128, k128, ⟨rfl, V128_0, V128_1, V128_2, V128_3, V128_4, q128⟩⟩ := P128
        have FI130 := gc_frc (W := fun q j => (q = 39 ∧ j = 3) ∨ (q = 39 ∧ j = 4) ∨ (q = 23 ∧ j = 5) ∨ (q = 23 ∧ j = 6) ∨ (q = 23 ∧ j = 7) ∨ (q = 23 ∧ j = 8) ∨ (q = 39 ∧ j = 6) ∨ q = (a1 + 1) ∨ q = (a1 + 6) ∨ q = (a1 + 4) ∨ q = (a1 + 5) ∨ (q = a1 ∧ j = 8)) (V := fun q j => (q = 23 ∧ j = 5) ∨ (q = 23 ∧ j = 6) ∨ (q = 23 ∧ j = 7) ∨ (q = 23 ∧ j = 8)) FI (fun q j h => (h.elim (fun h => (Or.inr (Or.inr (Or.inl h)))) (fun h => (h.elim (fun h => (Or.inr (Or.inr (Or.inr (Or.inl h))))) (fun h => (h.elim (fun h => (Or.inr (Or.inr (Or.inr (Or.inr (Or.inl h)))))) (fun h => (Or.inr (Or.inr (Or.inr (Or.inr (Or.inr (Or.inl h))))))))))))) g128
        have FJ131 := gc_frc (W := fun q j => (q = 23 ∧ j = 9)) (V := fun q j => (q = 23 ∧ j = 9)) FJ (fun q j h => h) k128
        have t132 := (g128 23 1).resolve_left (fun h => h.elim (fun h => absurd h.2 (gz_ne rfl)) (fun h => h.elim (fun h => absurd h.2 (gz_ne rfl)) (fun h => h.elim (fun h => absurd h.2 (gz_ne rfl)) (fun h => absurd h.2 (gz_ne rfl)))))
        have t133 := (g128 a1 4).resolve_left (fun h => h.elim (fun h => absurd h.2 (gz_ne rfl)) (fun h => h.elim (fun h => absurd h.2 (gz_ne rfl)) (fun h => h.elim (fun h => absurd h.2 (gz_ne rfl)) (fun h => absurd h.2 (gz_ne rfl)))))
        have t134 := (g128 a1 8).resolve_left (fun h => h.elim (fun h => absurd h.2 (gz_ne rfl)) (fun h => h.elim (fun h => absurd h.2 (gz_ne rfl)) (fun h => h.elim (fun h => absurd h.2 (gz_ne rfl)) (fun h => absurd h.1 N_a1__23))))
        have t135 := (g128 39 2).resolve_left (fun h => h.elim (fun h => absurd h.2 (gz_ne rfl)) (fun h => h.elim (fun h => absurd h.2 (gz_ne rfl)) (fun h => h.elim (fun h => absurd h.2 (gz_ne rfl)) (fun h => absurd h.2 (gz_ne rfl)))))
        have t136 := (g128 (a1 + 6) (Int.toNat (((I 23 8) - 1)))).resolve_left (fun h => h.elim (fun h => absurd h.1 N_a1_6__23) (fun h => h.elim (fun h => absurd h.1 N_a1_6__23) (fun h => h.elim (fun h => absurd h.1 N_a1_6__23) (fun h => absurd h.1 N_a1_6__23))))
        have f137 := (gc_b_3_5 hI130 R_23)
        have f138 := (gc_b_3_6 hI130 R_23)
        have f139 := (gc_b_3_7 hI130 R_23)
        have f140 := (gc_b_3_8 hI130 R_23)
        have KLT_I130 : gc_LT I130 := q128.2.2.1
        have KCT_I130 := gc_CT_fr KCT_I ((g128 a1 8).resolve_left (fun h => h.elim (fun h => absurd h.2 (gz_ne rfl)) (fun h => h.elim (fun h => absurd h.2 (gz_ne rfl)) (fun h => h.elim (fun h => absurd h.2 (gz_ne rfl)) (fun h => absurd h.1 N_a1__23))))) (fun k => (g128 (a1 + 6) k).resolve_left (fun h => h.elim (fun h => absurd h.1 N_a1_6__23) (fun h => h.elim (fun h => absurd h.1 N_a1_6__23) (fun h => h.elim (fun h => absurd h.1 N_a1_6__23) (fun h => absurd h.1 N_a1_6__23)))))
        have KTK_I130 : gc_TK I130 := And.intro V128_0 (And.intro V128_1 (And.intro V128_2 (And.intro V128_3 V128_4)))
        have t141 := gc_TK_mo KTK_I130
        clear V128_0 V128_1 V128_2 V128_3 V128_4
        have A142 := gc_AT_nx x3 q128.2.2.2
        have t143 := gc_AT_l A142
        refine gv_callV hD rfl (As := []) (st := []) rfl B_23 S_23 rfl (gc_lV6 hws rfl) (Nat.le_of_ble_eq_true rfl) (gz_Ev_mono (d := 2) (by decide) E128) ?_
        show gv_X _ _ (59, [(2, .inl ((I 23 8) - 1)), (0, .inr (.inr (some 39))), (1, .inr (.inr (some a1)))], [], sh, gc_h sh I130 J131 A)
        refine gv_run 2 true hD (pc' := 61) (lv' := [(2, .inl ((I 23 8) - 1)), (0, .inr (.inr (some 39))), (1, .inr (.inr (some a1)))]) (st' := [.inl 0, .inr (.inr (some 39))]) (h' := gc_h sh I130 J131 A) (C := ((True ∧ True) ∧ True)) rfl ⟨⟨trivial, trivial⟩, trivial⟩ ?_
        refine gv_put hD rfl rfl S_39 ⟨by decide, B_39⟩ rfl trivial ?_
        refine gc_st (k := 6) hI130 S_39 rfl R_39 (lo := 0) (hi := 16777215) rfl rfl (by exact gz_m 179 (by omega)) (by exact gz_m 180 (by omega)) (fun I144 hI144 q145 p145 => ?_)
        have FI144 := gc_frs (W := fun q j => (q = 39 ∧ j = 3) ∨ (q = 39 ∧ j = 4) ∨ (q = 23 ∧ j = 5) ∨ (q = 23 ∧ j = 6) ∨ (q = 23 ∧ j = 7) ∨ (q = 23 ∧ j = 8) ∨ (q = 39 ∧ j = 6) ∨ q = (a1 + 1) ∨ q = (a1 + 6) ∨ q = (a1 + 4) ∨ q = (a1 + 5) ∨ (q = a1 ∧ j = 8)) FI130 (Or.inr (Or.inr (Or.inr (Or.inr (Or.inr (Or.inr (Or.inl ⟨rfl, rfl⟩))))))) p145
        have t146 := p145 23 1 (fun h => absurd h.2 (gz_ne rfl))
        have t147 := p145 23 5 (fun h => absurd h.2 (gz_ne rfl))
        have t148 := p145 23 6 (fun h => absurd h.1 (gz_ne rfl))
        have t149 := p145 23 7 (fun h => absurd h.2 (gz_ne rfl))
        have t150 := p145 a1 4 (fun h => absurd h.2 (gz_ne rfl))
        have t151 := p145 a1 8 (fun h => absurd h.2 (gz_ne rfl))
        have t152 := p145 23 8 (fun h => absurd h.2 (gz_ne rfl))
        have t153 := p145 39 2 (fun h => absurd h.2 (gz_ne rfl))
        have t154 := p145 (a1 + 6) (Int.toNat (((I 23 8) - 1))) (fun h => absurd h.1 N_a1_6__39)
        have KLT_I144 := gc_LT_fr KLT_I130 (p145 23 5 (fun h => absurd h.2 (gz_ne rfl))) (p145 23 6 (fun h => absurd h.1 (gz_ne rfl))) (p145 23 7 (fun h => absurd h.2 (gz_ne rfl))) (fun k => p145 24 k (fun h => absurd h.1 (gz_ne rfl)))
        have KTK_I144 := gc_TK_fr KTK_I130 (p145 23 1 (fun h => absurd h.2 (gz_ne rfl))) (p145 23 5 (fun h => absurd h.2 (gz_ne rfl))) (p145 23 6 (fun h => absurd h.1 (gz_ne rfl))) (p145 23 7 (fun h => absurd h.2 (gz_ne rfl)))
        have KCT_I144 := gc_CT_fr KCT_I130 (p145 a1 8 (fun h => absurd h.2 (gz_ne rfl))) (fun k => p145 (a1 + 6) k (fun h => absurd h.1 N_a1_6__39))
        have A155 := gc_AT_I A142 (p145 23 1 (fun h => absurd h.2 (gz_ne rfl))) (p145 23 5 (fun h => absurd h.2 (gz_ne rfl))) (p145 23 6 (fun h => absurd h.1 (gz_ne rfl))) (p145 23 7 (fun h => absurd h.2 (gz_ne rfl))) (p145 23 8 (fun h => absurd h.2 (gz_ne rfl))) (fun k => p145 24 k (fun h => absurd h.1 (gz_ne rfl)))
        show gv_X _ _ (64, [(2, .inl ((I 23 8) - 1)), (0, .inr (.inr (some 39))), (1, .inr (.inr (some a1)))], [], sh, gc_h sh I144 J131 A)
        refine gv_run 1 true hD (pc' := 65) (lv' := [(2, .inl ((I 23 8) - 1)), (0, .inr (.inr (some 39))), (1, .inr (.inr (some a1)))]) (st' := [.inr (.inr (some 39))]) (h' := gc_h sh I144 J131 A) (C := (True ∧ True)) rfl ⟨trivial, trivial⟩ ?_
        refine gv_get hD rfl rfl S_39 ⟨by decide, B_39⟩ (gc_hA S_39 rfl A_39_1) ?_
        show gv_X _ _ (68, [(2, .inl ((I 23 8) - 1)), (0, .inr (.inr (some 39))), (1, .inr (.inr (some a1)))], [.inr (.inr (some 23))], sh, gc_h sh I144 J131 A)
        have f156 := (gc_b_3_7 hI144 R_23)
        refine gv_get hD rfl rfl S_23 ⟨by decide, B_23⟩ (gc_hI S_23 rfl) ?_
        show gv_X _ _ (71, [(2, .inl ((I 23 8) - 1)), (0, .inr (.inr (some 39))), (1, .inr (.inr (some a1)))], [.inl (I144 23 7)], sh, gc_h sh I144 J131 A)
        refine gv_run 1 true hD (pc' := 73) (lv' := [(2, .inl ((I 23 8) - 1)), (0, .inr (.inr (some 39))), (1, .inr (.inr (some a1)))]) (st' := [.inl 91, .inl (I144 23 7)]) (h' := gc_h sh I144 J131 A) (C := (True ∧ True)) rfl ⟨trivial, trivial⟩ ?_
        refine gv_icmp_ne (t := 110) hD rfl rfl ⟨⟨by exact gz_m 181 (by omega), by exact gz_m 182 (by omega)⟩, ⟨by exact gz_m 183 (by omega), by exact gz_m 184 (by omega)⟩⟩ (fun c157 => ?_) (fun c157 => ?_)
        · show gv_X _ _ (110, [(2, .inl ((I 23 8) - 1)), (0, .inr (.inr (some 39))), (1, .inr (.inr (some a1)))], [], sh, gc_h sh I144 J131 A)
          refine gv_pick [1, 2, 0] rfl ?_
          exact L110 I144 J131 (((I 23 8) - 1)) (gs_X β η p9) hI144 FI144 FJ131 KLT_I144 KTK_I144 KCT_I144 (by exact gz_m 185 (by omega)) (by rw [show I144 a1 4 = I a1 4 from by exact gz_m 186 (by omega)]; exact (gc_LI_fr x2 (((p145 a1 1 (fun h => absurd h.1 (by exact gz_m 187 (by omega)))).trans ((g128 a1 1).resolve_left (by exact gz_m 188 (by omega))))) (((p145 a1 8 (fun h => absurd h.1 (by exact gz_m 189 (by omega)))).trans ((g128 a1 8).resolve_left (by exact gz_m 190 (by omega))))) (fun k => ((p145 (a1 + 1) k (fun h => absurd h.1 (by exact gz_m 191 (by omega)))).trans ((g128 (a1 + 1) k).resolve_left (by exact gz_m 192 (by omega))))) (fun k => ((p145 (a1 + 4) k (fun h => absurd h.1 (by exact gz_m 193 (by omega)))).trans ((g128 (a1 + 4) k).resolve_left (by exact gz_m 194 (by omega))))) (fun k => ((p145 (a1 + 6) k (fun h => absurd h.1 (by exact gz_m 195 (by omega)))).trans ((g128 (a1 + 6) k).resolve_left (by exact gz_m 196 (by omega))))) (fun k => ((p145 12 k (fun h => absurd h.1 (by exact gz_m 197 (by omega)))).trans ((g128 12 k).resolve_left (by exact gz_m 198 (by omega))))))) A155 (by unfold gs_it2 gs_it3; rw [show gs_V β η p9 = I 23 8 from by exact gz_m 199 (by omega)]; (repeat first | rw [if_pos (by exact gz_m 200 (by omega))] | rw [if_neg (by exact gz_m 201 (by omega))]); (try unfold gs_it4); (try rw [← gs_rv_0]); (repeat first | rw [if_pos (by exact gz_m 202 (by omega))] | rw [if_neg (by exact gz_m 203 (by omega))])) (by exact gz_m 204 (by omega)) (by exact gz_m 205 (by omega)) ⟨(fun k => ((p145 (a1 + 6) k (by exact gz_m 206 (by omega))).trans ((g128 (a1 + 6) k).resolve_left (by exact gz_m 207 (by omega))))), (fun k => ((p145 (a1 + 1) k (by exact gz_m 208 (by omega))).trans ((g128 (a1 + 1) k).resolve_left (by exact gz_m 209 (by omega)))))⟩
        · show gv_X _ _ (76, [(2, .inl ((I 23 8) - 1)), (0, .inr (.inr (some 39))), (1, .inr (.inr (some a1)))], [], sh, gc_h sh I144 J131 A)
          refine gv_run 1 true hD (pc' := 77) (lv' := [(2, .inl ((I 23 8) - 1)), (0, .inr (.inr (some 39))), (1, .inr (.inr (some a1)))]) (st' := [.inr (.inr (some 39))]) (h' := gc_h sh I144 J131 A) (C := (True ∧ True)) rfl ⟨trivial, trivial⟩ ?_
          refine gv_get hD rfl rfl S_39 ⟨by decide, B_39⟩ (gc_hA S_39 rfl A_39_1) ?_
          show gv_X _ _ (80, [(2, .inl ((I 23 8) - 1)), (0, .inr (.inr (some 39))), (1, .inr (.inr (some a1)))], [.inr (.inr (some 23))], sh, gc_h sh I144 J131 A)
          have t159 := gc_TK_nx KTK_I144 (by exact gz_m 210 (by omega))
          obtain ⟨r158, h158, E158, P158⟩ := d_X9_advance_p (ws0 := ws0) (tb := tb) hws htb sh ro I144 J131 A hI144 23 β η  (gc_b23 hb)    (by exact gz_m 211 (by omega)) A155.1.1 A155.1.2 
          obtain ⟨I160, J161, rfl, hI160, g158, k158, ⟨rfl, V158_0, V158_1, V158_2, V158_3, V158_4, q158⟩⟩ := P158
          have FI160 := gc_frc (W := fun q j => (q = 39 ∧ j = 3) ∨ (q = 39 ∧ j = 4) ∨ (q = 23 ∧ j = 5) ∨ (q = 23 ∧ j = 6) ∨ (q = 23 ∧ j = 7) ∨ (q = 23 ∧ j = 8) ∨ (q = 39 ∧ j = 6) ∨ q = (a1 + 1) ∨ q = (a1 + 6) ∨ q = (a1 + 4) ∨ q = (a1 + 5) ∨ (q = a1 ∧ j = 8)) (V := fun q j => (q = 23 ∧ j = 5) ∨ (q = 23 ∧ j = 6) ∨ (q = 23 ∧ j = 7) ∨ (q = 23 ∧ j = 8)) FI144 (fun q j h => (h.elim (fun h => (Or.inr (Or.inr (Or.inl h)))) (fun h => (h.elim (fun h => (Or.inr (Or.inr (Or.inr (Or.inl h))))) (fun h => (h.elim (fun h => (Or.inr (Or.inr (Or.inr (Or.inr (Or.inl h)))))) (fun h => (Or.inr (Or.inr (Or.inr (Or.inr (Or.inr (Or.inl h))))))))))))) g158
          have FJ161 := gc_frc (W := fun q j => (q = 23 ∧ j = 9)) (V := fun q j => (q = 23 ∧ j = 9)) FJ131 (fun q j h => h) k158
          have t162 := (g158 23 1).resolve_left (fun h => h.elim (fun h => absurd h.2 (gz_ne rfl)) (fun h => h.elim (fun h => absurd h.2 (gz_ne rfl)) (fun h => h.elim (fun h => absurd h.2 (gz_ne rfl)) (fun h => absurd h.2 (gz_ne rfl)))))
          have t163 := (g158 a1 4).resolve_left (fun h => h.elim (fun h => absurd h.2 (gz_ne rfl)) (fun h => h.elim (fun h => absurd h.2 (gz_ne rfl)) (fun h => h.elim (fun h => absurd h.2 (gz_ne rfl)) (fun h => absurd h.2 (gz_ne rfl)))))
          have t164 := (g158 a1 8).resolve_left (fun h => h.elim (fun h => absurd h.2 (gz_ne rfl)) (fun h => h.elim (fun h => absurd h.2 (gz_ne rfl)) (fun h => h.elim (fun h => absurd h.2 (gz_ne rfl)) (fun h => absurd h.1 N_a1__23))))
          have t165 := (g158 39 2).resolve_left (fun h => h.elim (fun h => absurd h.2 (gz_ne rfl)) (fun h => h.elim (fun h => absurd h.2 (gz_ne rfl)) (fun h => h.elim (fun h => absurd h.2 (gz_ne rfl)) (fun h => absurd h.2 (gz_ne rfl)))))
          have t166 := (g158 (a1 + 6) (Int.toNat (((I 23 8) - 1)))).resolve_left (fun h => h.elim (fun h => absurd h.1 N_a1_6__23) (fun h => h.elim (fun h => absurd h.1 N_a1_6__23) (fun h => h.elim (fun h => absurd h.1 N_a1_6__23) (fun h => absurd h.1 N_a1_6__23))))
          have f167 := (gc_b_3_5 hI160 R_23)
          have f168 := (gc_b_3_6 hI160 R_23)
          have f169 := (gc_b_3_7 hI160 R_23)
          have f170 := (gc_b_3_8 hI160 R_23)
          have KLT_I160 : gc_LT I160 := q158.2.2.1
          have KCT_I160 := gc_CT_fr KCT_I144 ((g158 a1 8).resolve_left (fun h => h.elim (fun h => absurd h.2 (gz_ne rfl)) (fun h => h.elim (fun h => absurd h.2 (gz_ne rfl)) (fun h => h.elim (fun h => absurd h.2 (gz_ne rfl)) (fun h => absurd h.1 N_a1__23))))) (fun k => (g158 (a1 + 6) k).resolve_left (fun h => h.elim (fun h => absurd h.1 N_a1_6__23) (fun h => h.elim (fun h => absurd h.1 N_a1_6__23) (fun h => h.elim (fun h => absurd h.1 N_a1_6__23) (fun h => absurd h.1 N_a1_6__23)))))
          have KTK_I160 : gc_TK I160 := And.intro V158_0 (And.intro V158_1 (And.intro V158_2 (And.intro V158_3 V158_4)))
          have t171 := gc_TK_mo KTK_I160
          clear V158_0 V158_1 V158_2 V158_3 V158_4
          have A172 := gc_AT_nx A155 q158.2.2.2
          have t173 := gc_AT_l A172
          refine gv_callV hD rfl (As := []) (st := []) rfl B_23 S_23 rfl (gc_lV6 hws rfl) (Nat.le_of_ble_eq_true rfl) (gz_Ev_mono (d := 2) (by decide) E158) ?_
          show gv_X _ _ (83, [(2, .inl ((I 23 8) - 1)), (0, .inr (.inr (some 39))), (1, .inr (.inr (some a1)))], [], sh, gc_h sh I160 J161 A)
          refine gv_run 2 true hD (pc' := 85) (lv' := [(2, .inl ((I 23 8) - 1)), (0, .inr (.inr (some 39))), (1, .inr (.inr (some a1)))]) (st' := [.inl 1, .inr (.inr (some 39))]) (h' := gc_h sh I160 J161 A) (C := ((True ∧ True) ∧ True)) rfl ⟨⟨trivial, trivial⟩, trivial⟩ ?_
          obtain ⟨r174, h174, E174, P174⟩ := d_X6_need_p (ws0 := ws0) (tb := tb) hws htb sh ro I160 J161 A hI160  β η ((gs_X β η (gs_X β η p9))) 1 hb   ⟨by exact gz_m 212 (by omega), by exact gz_m 213 (by omega)⟩ A172 (by exact gz_m 214 (by omega)) 
          obtain ⟨I175, J176, rfl, hI175, g174, k174, ⟨z174, rfl, q174⟩⟩ := P174
          have FI175 := gc_frc (W := fun q j => (q = 39 ∧ j = 3) ∨ (q = 39 ∧ j = 4) ∨ (q = 23 ∧ j = 5) ∨ (q = 23 ∧ j = 6) ∨ (q = 23 ∧ j = 7) ∨ (q = 23 ∧ j = 8) ∨ (q = 39 ∧ j = 6) ∨ q = (a1 + 1) ∨ q = (a1 + 6) ∨ q = (a1 + 4) ∨ q = (a1 + 5) ∨ (q = a1 ∧ j = 8)) (V := fun q j => (q = 39 ∧ j = 3) ∨ (q = 39 ∧ j = 4)) FI160 (fun q j h => (h.elim (fun h => (Or.inl h)) (fun h => (Or.inr (Or.inl h))))) g174
          have t177 := (g174 23 1).resolve_left (fun h => h.elim (fun h => absurd h.2 (gz_ne rfl)) (fun h => absurd h.2 (gz_ne rfl)))
          have t178 := (g174 23 5).resolve_left (fun h => h.elim (fun h => absurd h.2 (gz_ne rfl)) (fun h => absurd h.2 (gz_ne rfl)))
          have t179 := (g174 23 6).resolve_left (fun h => h.elim (fun h => absurd h.2 (gz_ne rfl)) (fun h => absurd h.2 (gz_ne rfl)))
          have t180 := (g174 23 7).resolve_left (fun h => h.elim (fun h => absurd h.2 (gz_ne rfl)) (fun h => absurd h.2 (gz_ne rfl)))
          have t181 := (g174 a1 4).resolve_left (fun h => h.elim (fun h => absurd h.2 (gz_ne rfl)) (fun h => absurd h.1 N_a1__39))
          have t182 := (g174 a1 8).resolve_left (fun h => h.elim (fun h => absurd h.2 (gz_ne rfl)) (fun h => absurd h.2 (gz_ne rfl)))
          have t183 := (g174 23 8).resolve_left (fun h => h.elim (fun h => absurd h.2 (gz_ne rfl)) (fun h => absurd h.2 (gz_ne rfl)))
          have t184 := (g174 39 2).resolve_left (fun h => h.elim (fun h => absurd h.2 (gz_ne rfl)) (fun h => absurd h.2 (gz_ne rfl)))
          have t185 := (g174 (a1 + 6) (Int.toNat (((I 23 8) - 1)))).resolve_left (fun h => h.elim (fun h => absurd h.1 N_a1_6__39) (fun h => absurd h.1 N_a1_6__39))
          obtain rfl : J161 = J176 := funext fun q => funext fun j => ((k174 q j).resolve_left id).symm
          have KLT_I175 := gc_LT_fr KLT_I160 ((g174 23 5).resolve_left (fun h => h.elim (fun h => absurd h.2 (gz_ne rfl)) (fun h => absurd h.2 (gz_ne rfl)))) ((g174 23 6).resolve_left (fun h => h.elim (fun h => absurd h.2 (gz_ne rfl)) (fun h => absurd h.2 (gz_ne rfl)))) ((g174 23 7).resolve_left (fun h => h.elim (fun h => absurd h.2 (gz_ne rfl)) (fun h => absurd h.2 (gz_ne rfl)))) (fun k => (g174 24 k).resolve_left (fun h => h.elim (fun h => absurd h.1 (gz_ne rfl)) (fun h => absurd h.1 (gz_ne rfl))))
          have KTK_I175 := gc_TK_fr KTK_I160 ((g174 23 1).resolve_left (fun h => h.elim (fun h => absurd h.2 (gz_ne rfl)) (fun h => absurd h.2 (gz_ne rfl)))) ((g174 23 5).resolve_left (fun h => h.elim (fun h => absurd h.2 (gz_ne rfl)) (fun h => absurd h.2 (gz_ne rfl)))) ((g174 23 6).resolve_left (fun h => h.elim (fun h => absurd h.2 (gz_ne rfl)) (fun h => absurd h.2 (gz_ne rfl)))) ((g174 23 7).resolve_left (fun h => h.elim (fun h => absurd h.2 (gz_ne rfl)) (fun h => absurd h.2 (gz_ne rfl))))
          have KCT_I175 := gc_CT_fr KCT_I160 ((g174 a1 8).resolve_left (fun h => h.elim (fun h => absurd h.2 (gz_ne rfl)) (fun h => absurd h.2 (gz_ne rfl)))) (fun k => (g174 (a1 + 6) k).resolve_left (fun h => h.elim (fun h => absurd h.1 N_a1_6__39) (fun h => absurd h.1 N_a1_6__39)))
          have A186 := gc_AT_I A172 ((g174 23 1).resolve_left (fun h => h.elim (fun h => absurd h.2 (gz_ne rfl)) (fun h => absurd h.2 (gz_ne rfl)))) ((g174 23 5).resolve_left (fun h => h.elim (fun h => absurd h.2 (gz_ne rfl)) (fun h => absurd h.2 (gz_ne rfl)))) ((g174 23 6).resolve_left (fun h => h.elim (fun h => absurd h.2 (gz_ne rfl)) (fun h => absurd h.2 (gz_ne rfl)))) ((g174 23 7).resolve_left (fun h => h.elim (fun h => absurd h.2 (gz_ne rfl)) (fun h => absurd h.2 (gz_ne rfl)))) ((g174 23 8).resolve_left (fun h => h.elim (fun h => absurd h.2 (gz_ne rfl)) (fun h => absurd h.2 (gz_ne rfl)))) (fun k => (g174 24 k).resolve_left (fun h => h.elim (fun h => absurd h.1 (gz_ne rfl)) (fun h => absurd h.1 (gz_ne rfl))))
          have t187 := gc_AT_l A186
          refine gv_callV hD rfl (As := [.inl 1]) (st := []) rfl B_39 S_39 rfl (gc_lV6 hws rfl) (Nat.le_of_ble_eq_true rfl) (gz_Ev_mono (d := 2) (by decide) E174) ?_
          show gv_X _ _ (88, [(2, .inl ((I 23 8) - 1)), (0, .inr (.inr (some 39))), (1, .inr (.inr (some a1)))], [.inl z174], sh, gc_h sh I175 J161 A)
          refine gv_if_eq (t := 108) hD rfl rfl ⟨by exact gz_m 215 (by omega), by exact gz_m 216 (by omega)⟩ (fun c188 => ?_) (fun c188 => ?_)
          · show gv_X _ _ (108, [(2, .inl ((I 23 8) - 1)), (0, .inr (.inr (some 39))), (1, .inr (.inr (some a1)))], [], sh, gc_h sh I175 J161 A)
            have u189 := gs_or0 q174.2.2.2 (by exact gz_m 217 (by omega))
            refine gv_run 1 true hD (pc' := 109) (lv' := [(2, .inl ((I 23 8) - 1)), (0, .inr (.inr (some 39))), (1, .inr (.inr (some a1)))]) (st' := [.inl 0]) (h' := gc_h sh I175 J161 A) (C := (True ∧ True)) rfl ⟨trivial, trivial⟩ ?_
            exact gv_zret hD rfl (by exact gz_m 218 (by omega)) ⟨I175, J161, rfl, hI175, FI175, FJ161, KLT_I175, KTK_I175, KCT_I175, ⟨_, rfl, by exact gz_m 219 (by omega), by exact gz_m 220 (by omega), by exact gz_m 221 (by omega), by exact gz_m 222 (by omega), (Or.inl (by exact gz_m 223 (by omega))), (Or.inr ⟨by exact gz_m 224 (by omega), by first | (exfalso; exact gz_m 225 (by omega)) | (unfold gs_it2 gs_it3; rw [show gs_V β η p9 = I 23 8 from by exact gz_m 226 (by omega)]; (repeat first | rw [if_pos (by exact gz_m 227 (by omega))] | rw [if_neg (by exact gz_m 228 (by omega))]); (try unfold gs_it4); (try rw [← gs_rv_0]); (repeat first | rw [if_pos (by exact gz_m 229 (by omega))] | rw [if_neg (by exact gz_m 230 (by omega))]); exact ⟨by exact gz_m 231 (by omega), by exact gz_m 232 (by omega)⟩)⟩)⟩⟩
          · show gv_X _ _ (91, [(2, .inl ((I 23 8) - 1)), (0, .inr (.inr (some 39))), (1, .inr (.inr (some a1)))], [], sh, gc_h sh I175 J161 A)
            have u190 := gs_or1 q174.2.2.2 (by exact gz_m 233 (by omega))
            refine gv_run 2 true hD (pc' := 93) (lv' := [(2, .inl ((I 23 8) - 1)), (0, .inr (.inr (some 39))), (1, .inr (.inr (some a1)))]) (st' := [.inl 0, .inr (.inr (some 39))]) (h' := gc_h sh I175 J161 A) (C := ((True ∧ True) ∧ True)) rfl ⟨⟨trivial, trivial⟩, trivial⟩ ?_
            obtain ⟨r191, h191, E191, P191⟩ := d_X6_readValues_p (ws0 := ws0) (tb := tb) hws htb sh ro I175 J161 A hI175  t β η ((gs_X β η (gs_X β η p9))) Ir Jr 0 hb  h_t G_t  ⟨by exact gz_m 234 (by omega), by exact gz_m 235 (by omega)⟩ A186 (by exact gz_m 236 (by omega)) (by have h9 := x8; have h8 := (show I175 (t + 3) 1 = I (t + 3) 1 from (((((g174 (t + 3) 1).resolve_left (by exact gz_m 237 (by omega))).trans ((g158 (t + 3) 1).resolve_left (by exact gz_m 238 (by omega)))).trans (p145 (t + 3) 1 (by exact gz_m 239 (by omega)))).trans ((g128 (t + 3) 1).resolve_left (by exact gz_m 240 (by omega))))); exact gz_m 241 (by omega)) (by rw [show I175 (t + 3) 1 = I (t + 3) 1 from (((((g174 (t + 3) 1).resolve_left (by exact gz_m 242 (by omega))).trans ((g158 (t + 3) 1).resolve_left (by exact gz_m 243 (by omega)))).trans (p145 (t + 3) 1 (by exact gz_m 244 (by omega)))).trans ((g128 (t + 3) 1).resolve_left (by exact gz_m 245 (by omega)))), show J161 (t + 4) = J (t + 4) from funext fun j => (((k158 (t + 4) j).resolve_left (by exact gz_m 246 (by omega))).trans ((k128 (t + 4) j).resolve_left (by exact gz_m 247 (by omega))))]; exact x9) (gs_VR_fr x10 (((((g174 (t + 3) 1).resolve_left (by exact gz_m 248 (by omega))).trans ((g158 (t + 3) 1).resolve_left (by exact gz_m 249 (by omega)))).trans (p145 (t + 3) 1 (by exact gz_m 250 (by omega)))).trans ((g128 (t + 3) 1).resolve_left (by exact gz_m 251 (by omega)))) (fun k => (((((g174 (t + 5) k).resolve_left (by exact gz_m 252 (by omega))).trans ((g158 (t + 5) k).resolve_left (by exact gz_m 253 (by omega)))).trans (p145 (t + 5) k (by exact gz_m 254 (by omega)))).trans ((g128 (t + 5) k).resolve_left (by exact gz_m 255 (by omega))))) (fun k => (((((g174 (t + 6) k).resolve_left (by exact gz_m 256 (by omega))).trans ((g158 (t + 6) k).resolve_left (by exact gz_m 257 (by omega)))).trans (p145 (t + 6) k (by exact gz_m 258 (by omega)))).trans ((g128 (t + 6) k).resolve_left (by exact gz_m 259 (by omega)))))) (by exact gz_m 260 (by omega)) KLT_I175 KTK_I175
            obtain ⟨I192, J193, rfl, hI192, g191, k191, KLT_I192, KTK_I192, ⟨z191, rfl, q191⟩⟩ := P191
            have FI192 := gc_frc (W := fun q j => (q = 39 ∧ j = 3) ∨ (q = 39 ∧ j = 4) ∨ (q = 23 ∧ j = 5) ∨ (q = 23 ∧ j = 6) ∨ (q = 23 ∧ j = 7) ∨ (q = 23 ∧ j = 8) ∨ (q = 39 ∧ j = 6) ∨ q = (a1 + 1) ∨ q = (a1 + 6) ∨ q = (a1 + 4) ∨ q = (a1 + 5) ∨ (q = a1 ∧ j = 8)) (V := fun q j => (q = 39 ∧ j = 3) ∨ (q = 39 ∧ j = 4) ∨ (q = 23 ∧ j = 5) ∨ (q = 23 ∧ j = 6) ∨ (q = 23 ∧ j = 7) ∨ (q = 23 ∧ j = 8) ∨ (q = 39 ∧ j = 6)) FI175 (fun q j h => (h.elim (fun h => (Or.inl h)) (fun h => (h.elim (fun h => (Or.inr (Or.inl h))) (fun h => (h.elim (fun h => (Or.inr (Or.inr (Or.inl h)))) (fun h => (h.elim (fun h => (Or.inr (Or.inr (Or.inr (Or.inl h))))) (fun h => (h.elim (fun h => (Or.inr (Or.inr (Or.inr (Or.inr (Or.inl h)))))) (fun h => (h.elim (fun h => (Or.inr (Or.inr (Or.inr (Or.inr (Or.inr (Or.inl h))))))) (fun h => (Or.inr (Or.inr (Or.inr (Or.inr (Or.inr (Or.inr (Or.inl h)))))))))))))))))))) g191
            have FJ193 := gc_frc (W := fun q j => (q = 23 ∧ j = 9)) (V := fun q j => (q = 23 ∧ j = 9)) FJ161 (fun q j h => h) k191
            have t194 := (g191 23 1).resolve_left (fun h => h.elim (fun h => absurd h.2 (gz_ne rfl)) (fun h => h.elim (fun h => absurd h.2 (gz_ne rfl)) (fun h => h.elim (fun h => absurd h.2 (gz_ne rfl)) (fun h => h.elim (fun h => absurd h.2 (gz_ne rfl)) (fun h => h.elim (fun h => absurd h.2 (gz_ne rfl)) (fun h => h.elim (fun h => absurd h.2 (gz_ne rfl)) (fun h => absurd h.2 (gz_ne rfl))))))))
            have t195 := (g191 a1 4).resolve_left (fun h => h.elim (fun h => absurd h.2 (gz_ne rfl)) (fun h => h.elim (fun h => absurd h.1 N_a1__39) (fun h => h.elim (fun h => absurd h.2 (gz_ne rfl)) (fun h => h.elim (fun h => absurd h.2 (gz_ne rfl)) (fun h => h.elim (fun h => absurd h.2 (gz_ne rfl)) (fun h => h.elim (fun h => absurd h.2 (gz_ne rfl)) (fun h => absurd h.2 (gz_ne rfl))))))))
            have t196 := (g191 a1 8).resolve_left (fun h => h.elim (fun h => absurd h.2 (gz_ne rfl)) (fun h => h.elim (fun h => absurd h.2 (gz_ne rfl)) (fun h => h.elim (fun h => absurd h.2 (gz_ne rfl)) (fun h => h.elim (fun h => absurd h.2 (gz_ne rfl)) (fun h => h.elim (fun h => absurd h.2 (gz_ne rfl)) (fun h => h.elim (fun h => absurd h.1 N_a1__23) (fun h => absurd h.2 (gz_ne rfl))))))))
            have t197 := (g191 39 2).resolve_left (fun h => h.elim (fun h => absurd h.2 (gz_ne rfl)) (fun h => h.elim (fun h => absurd h.2 (gz_ne rfl)) (fun h => h.elim (fun h => absurd h.2 (gz_ne rfl)) (fun h => h.elim (fun h => absurd h.2 (gz_ne rfl)) (fun h => h.elim (fun h => absurd h.2 (gz_ne rfl)) (fun h => h.elim (fun h => absurd h.2 (gz_ne rfl)) (fun h => absurd h.2 (gz_ne rfl))))))))
            have t198 := (g191 (a1 + 6) (Int.toNat (((I 23 8) - 1)))).resolve_left (fun h => h.elim (fun h => absurd h.1 N_a1_6__39) (fun h => h.elim (fun h => absurd h.1 N_a1_6__39) (fun h => h.elim (fun h => absurd h.1 N_a1_6__23) (fun h => h.elim (fun h => absurd h.1 N_a1_6__23) (fun h => h.elim (fun h => absurd h.1 N_a1_6__23) (fun h => h.elim (fun h => absurd h.1 N_a1_6__23) (fun h => absurd h.1 N_a1_6__39)))))))
            have f199 := (gc_b_3_5 hI192 R_23)
            have f200 := (gc_b_3_6 hI192 R_23)
            have f201 := (gc_b_3_7 hI192 R_23)
            have f202 := (gc_b_3_8 hI192 R_23)
            have t203 := gc_TK_mo KTK_I192
            have KCT_I192 := gc_CT_fr KCT_I175 ((g191 a1 8).resolve_left (fun h => h.elim (fun h => absurd h.2 (gz_ne rfl)) (fun h => h.elim (fun h => absurd h.2 (gz_ne rfl)) (fun h => h.elim (fun h => absurd h.2 (gz_ne rfl)) (fun h => h.elim (fun h => absurd h.2 (gz_ne rfl)) (fun h => h.elim (fun h => absurd h.2 (gz_ne rfl)) (fun h => h.elim (fun h => absurd h.1 N_a1__23) (fun h => absurd h.2 (gz_ne rfl))))))))) (fun k => (g191 (a1 + 6) k).resolve_left (fun h => h.elim (fun h => absurd h.1 N_a1_6__39) (fun h => h.elim (fun h => absurd h.1 N_a1_6__39) (fun h => h.elim (fun h => absurd h.1 N_a1_6__23) (fun h => h.elim (fun h => absurd h.1 N_a1_6__23) (fun h => h.elim (fun h => absurd h.1 N_a1_6__23) (fun h => h.elim (fun h => absurd h.1 N_a1_6__23) (fun h => absurd h.1 N_a1_6__39))))))))
            refine gv_callV hD rfl (As := [.inl 0]) (st := []) rfl B_39 S_39 rfl (gc_lV6 hws rfl) (Nat.le_of_ble_eq_true rfl) (gz_Ev_mono (d := 3) (by decide) E191) ?_
            show gv_X _ _ (96, [(2, .inl ((I 23 8) - 1)), (0, .inr (.inr (some 39))), (1, .inr (.inr (some a1)))], [.inl z191], sh, gc_h sh I192 J193 A)
            refine gv_if_eq (t := 108) hD rfl rfl ⟨by exact gz_m 261 (by omega), by exact gz_m 262 (by omega)⟩ (fun c204 => ?_) (fun c204 => ?_)
            · show gv_X _ _ (108, [(2, .inl ((I 23 8) - 1)), (0, .inr (.inr (some 39))), (1, .inr (.inr (some a1)))], [], sh, gc_h sh I192 J193 A)
              obtain ⟨u205, u205_⟩ := gs_or0 q191.2.2.2.2 (by exact gz_m 263 (by omega))
              refine gv_run 1 true hD (pc' := 109) (lv' := [(2, .inl ((I 23 8) - 1)), (0, .inr (.inr (some 39))), (1, .inr (.inr (some a1)))]) (st' := [.inl 0]) (h' := gc_h sh I192 J193 A) (C := (True ∧ True)) rfl ⟨trivial, trivial⟩ ?_
              exact gv_zret hD rfl (by exact gz_m 264 (by omega)) ⟨I192, J193, rfl, hI192, FI192, FJ193, KLT_I192, KTK_I192, KCT_I192, ⟨_, rfl, by exact gz_m 265 (by omega), by exact gz_m 266 (by omega), by exact gz_m 267 (by omega), by exact gz_m 268 (by omega), (Or.inl (by exact gz_m 269 (by omega))), (Or.inr ⟨by exact gz_m 270 (by omega), by first | (exfalso; exact gz_m 271 (by omega)) | (unfold gs_it2 gs_it3; rw [show gs_V β η p9 = I 23 8 from by exact gz_m 272 (by omega)]; (repeat first | rw [if_pos (by exact gz_m 273 (by omega))] | rw [if_neg (by exact gz_m 274 (by omega))]); (try unfold gs_it4); (try rw [← gs_rv_0]); (repeat first | rw [if_pos (by exact gz_m 275 (by omega))] | rw [if_neg (by exact gz_m 276 (by omega))]); exact ⟨by exact gz_m 277 (by omega), by exact gz_m 278 (by omega)⟩)⟩)⟩⟩
            · show gv_X _ _ (99, [(2, .inl ((I 23 8) - 1)), (0, .inr (.inr (some 39))), (1, .inr (.inr (some a1)))], [], sh, gc_h sh I192 J193 A)
              obtain ⟨u206, A206, U206⟩ := gs_or1 q191.2.2.2.2 (by exact gz_m 279 (by omega))
              have t207 := gc_AT_l A206
              refine gv_run 2 true hD (pc' := 102) (lv' := [(2, .inl ((I 23 8) - 1)), (0, .inr (.inr (some 39))), (1, .inr (.inr (some a1)))]) (st' := [.inl 93, .inr (.inr (some 39))]) (h' := gc_h sh I192 J193 A) (C := ((True ∧ True) ∧ True)) rfl ⟨⟨trivial, trivial⟩, trivial⟩ ?_
              obtain ⟨r208, h208, E208, P208⟩ := d_X6_take_p (ws0 := ws0) (tb := tb) hws htb sh ro I192 J193 A hI192  β η ((gs_rv β η Ir Jr 0 (gs_X β η (gs_X β η p9)))) 93 hb   ⟨by exact gz_m 280 (by omega), by exact gz_m 281 (by omega)⟩ (by exact gz_m 282 (by omega)) A206 (by exact gz_m 283 (by omega)) KLT_I192 KTK_I192
              obtain ⟨I209, J210, rfl, hI209, g208, k208, KLT_I209, KTK_I209, ⟨z208, rfl, q208⟩⟩ := P208
              have FI209 := gc_frc (W := fun q j => (q = 39 ∧ j = 3) ∨ (q = 39 ∧ j = 4) ∨ (q = 23 ∧ j = 5) ∨ (q = 23 ∧ j = 6) ∨ (q = 23 ∧ j = 7) ∨ (q = 23 ∧ j = 8) ∨ (q = 39 ∧ j = 6) ∨ q = (a1 + 1) ∨ q = (a1 + 6) ∨ q = (a1 + 4) ∨ q = (a1 + 5) ∨ (q = a1 ∧ j = 8)) (V := fun q j => (q = 39 ∧ j = 3) ∨ (q = 39 ∧ j = 4) ∨ (q = 23 ∧ j = 5) ∨ (q = 23 ∧ j = 6) ∨ (q = 23 ∧ j = 7) ∨ (q = 23 ∧ j = 8)) FI192 (fun q j h => (h.elim (fun h => (Or.inl h)) (fun h => (h.elim (fun h => (Or.inr (Or.inl h))) (fun h => (h.elim (fun h => (Or.inr (Or.inr (Or.inl h)))) (fun h => (h.elim (fun h => (Or.inr (Or.inr (Or.inr (Or.inl h))))) (fun h => (h.elim (fun h => (Or.inr (Or.inr (Or.inr (Or.inr (Or.inl h)))))) (fun h => (Or.inr (Or.inr (Or.inr (Or.inr (Or.inr (Or.inl h))))))))))))))))) g208
              have FJ210 := gc_frc (W := fun q j => (q = 23 ∧ j = 9)) (V := fun q j => (q = 23 ∧ j = 9)) FJ193 (fun q j h => h) k208
              have t211 := (g208 23 1).resolve_left (fun h => h.elim (fun h => absurd h.2 (gz_ne rfl)) (fun h => h.elim (fun h => absurd h.2 (gz_ne rfl)) (fun h => h.elim (fun h => absurd h.2 (gz_ne rfl)) (fun h => h.elim (fun h => absurd h.2 (gz_ne rfl)) (fun h => h.elim (fun h => absurd h.2 (gz_ne rfl)) (fun h => absurd h.2 (gz_ne rfl)))))))
              have t212 := (g208 a1 4).resolve_left (fun h => h.elim (fun h => absurd h.2 (gz_ne rfl)) (fun h => h.elim (fun h => absurd h.1 N_a1__39) (fun h => h.elim (fun h => absurd h.2 (gz_ne rfl)) (fun h => h.elim (fun h => absurd h.2 (gz_ne rfl)) (fun h => h.elim (fun h => absurd h.2 (gz_ne rfl)) (fun h => absurd h.2 (gz_ne rfl)))))))
              have t213 := (g208 a1 8).resolve_left (fun h => h.elim (fun h => absurd h.2 (gz_ne rfl)) (fun h => h.elim (fun h => absurd h.2 (gz_ne rfl)) (fun h => h.elim (fun h => absurd h.2 (gz_ne rfl)) (fun h => h.elim (fun h => absurd h.2 (gz_ne rfl)) (fun h => h.elim (fun h => absurd h.2 (gz_ne rfl)) (fun h => absurd h.1 N_a1__23))))))
              have t214 := (g208 39 2).resolve_left (fun h => h.elim (fun h => absurd h.2 (gz_ne rfl)) (fun h => h.elim (fun h => absurd h.2 (gz_ne rfl)) (fun h => h.elim (fun h => absurd h.2 (gz_ne rfl)) (fun h => h.elim (fun h => absurd h.2 (gz_ne rfl)) (fun h => h.elim (fun h => absurd h.2 (gz_ne rfl)) (fun h => absurd h.2 (gz_ne rfl)))))))
              have t215 := (g208 (a1 + 6) (Int.toNat (((I 23 8) - 1)))).resolve_left (fun h => h.elim (fun h => absurd h.1 N_a1_6__39) (fun h => h.elim (fun h => absurd h.1 N_a1_6__39) (fun h => h.elim (fun h => absurd h.1 N_a1_6__23) (fun h => h.elim (fun h => absurd h.1 N_a1_6__23) (fun h => h.elim (fun h => absurd h.1 N_a1_6__23) (fun h => absurd h.1 N_a1_6__23))))))
              have f216 := (gc_b_3_5 hI209 R_23)
              have f217 := (gc_b_3_6 hI209 R_23)
              have f218 := (gc_b_3_7 hI209 R_23)
              have f219 := (gc_b_3_8 hI209 R_23)
              have t220 := gc_TK_mo KTK_I209
              have KCT_I209 := gc_CT_fr KCT_I192 ((g208 a1 8).resolve_left (fun h => h.elim (fun h => absurd h.2 (gz_ne rfl)) (fun h => h.elim (fun h => absurd h.2 (gz_ne rfl)) (fun h => h.elim (fun h => absurd h.2 (gz_ne rfl)) (fun h => h.elim (fun h => absurd h.2 (gz_ne rfl)) (fun h => h.elim (fun h => absurd h.2 (gz_ne rfl)) (fun h => absurd h.1 N_a1__23))))))) (fun k => (g208 (a1 + 6) k).resolve_left (fun h => h.elim (fun h => absurd h.1 N_a1_6__39) (fun h => h.elim (fun h => absurd h.1 N_a1_6__39) (fun h => h.elim (fun h => absurd h.1 N_a1_6__23) (fun h => h.elim (fun h => absurd h.1 N_a1_6__23) (fun h => h.elim (fun h => absurd h.1 N_a1_6__23) (fun h => absurd h.1 N_a1_6__23)))))))
              refine gv_callV hD rfl (As := [.inl 93]) (st := []) rfl B_39 S_39 rfl (gc_lV6 hws rfl) (Nat.le_of_ble_eq_true rfl) (gz_Ev_mono (d := 3) (by decide) E208) ?_
              show gv_X _ _ (105, [(2, .inl ((I 23 8) - 1)), (0, .inr (.inr (some 39))), (1, .inr (.inr (some a1)))], [.inl z208], sh, gc_h sh I209 J210 A)
              refine gv_if_ne (t := 110) hD rfl rfl ⟨by exact gz_m 284 (by omega), by exact gz_m 285 (by omega)⟩ (fun c221 => ?_) (fun c221 => ?_)
              · show gv_X _ _ (110, [(2, .inl ((I 23 8) - 1)), (0, .inr (.inr (some 39))), (1, .inr (.inr (some a1)))], [], sh, gc_h sh I209 J210 A)
                obtain ⟨u222, A222⟩ := gs_or1 q208.2.2.2.2.2 (by exact gz_m 286 (by omega))
                have t223 := gc_AT_l A222
                refine gv_pick [1, 2, 0] rfl ?_
                exact L110 I209 J210 (((I 23 8) - 1)) ((gs_need β η 93 (gs_rv β η Ir Jr 0 (gs_X β η (gs_X β η p9))))) hI209 FI209 FJ210 KLT_I209 KTK_I209 KCT_I209 (by exact gz_m 287 (by omega)) (by rw [show I209 a1 4 = I a1 4 from by exact gz_m 288 (by omega)]; exact (gc_LI_fr x2 ((((((((g208 a1 1).resolve_left (by exact gz_m 289 (by omega))).trans ((g191 a1 1).resolve_left (by exact gz_m 290 (by omega)))).trans ((g174 a1 1).resolve_left (by exact gz_m 291 (by omega)))).trans ((g158 a1 1).resolve_left (by exact gz_m 292 (by omega)))).trans (p145 a1 1 (fun h => absurd h.1 (by exact gz_m 293 (by omega))))).trans ((g128 a1 1).resolve_left (by exact gz_m 294 (by omega))))) ((((((((g208 a1 8).resolve_left (by exact gz_m 295 (by omega))).trans ((g191 a1 8).resolve_left (by exact gz_m 296 (by omega)))).trans ((g174 a1 8).resolve_left (by exact gz_m 297 (by omega)))).trans ((g158 a1 8).resolve_left (by exact gz_m 298 (by omega)))).trans (p145 a1 8 (fun h => absurd h.1 (by exact gz_m 299 (by omega))))).trans ((g128 a1 8).resolve_left (by exact gz_m 300 (by omega))))) (fun k => (((((((g208 (a1 + 1) k).resolve_left (by exact gz_m 301 (by omega))).trans ((g191 (a1 + 1) k).resolve_left (by exact gz_m 302 (by omega)))).trans ((g174 (a1 + 1) k).resolve_left (by exact gz_m 303 (by omega)))).trans ((g158 (a1 + 1) k).resolve_left (by exact gz_m 304 (by omega)))).trans (p145 (a1 + 1) k (fun h => absurd h.1 (by exact gz_m 305 (by omega))))).trans ((g128 (a1 + 1) k).resolve_left (by exact gz_m 306 (by omega))))) (fun k => (((((((g208 (a1 + 4) k).resolve_left (by exact gz_m 307 (by omega))).trans ((g191 (a1 + 4) k).resolve_left (by exact gz_m 308 (by omega)))).trans ((g174 (a1 + 4) k).resolve_left (by exact gz_m 309 (by omega)))).trans ((g158 (a1 + 4) k).resolve_left (by exact gz_m 310 (by omega)))).trans (p145 (a1 + 4) k (fun h => absurd h.1 (by exact gz_m 311 (by omega))))).trans ((g128 (a1 + 4) k).resolve_left (by exact gz_m 312 (by omega))))) (fun k => (((((((g208 (a1 + 6) k).resolve_left (by exact gz_m 313 (by omega))).trans ((g191 (a1 + 6) k).resolve_left (by exact gz_m 314 (by omega)))).trans ((g174 (a1 + 6) k).resolve_left (by exact gz_m 315 (by omega)))).trans ((g158 (a1 + 6) k).resolve_left (by exact gz_m 316 (by omega)))).trans (p145 (a1 + 6) k (fun h => absurd h.1 (by exact gz_m 317 (by omega))))).trans ((g128 (a1 + 6) k).resolve_left (by exact gz_m 318 (by omega))))) (fun k => (((((((g208 12 k).resolve_left (by exact gz_m 319 (by omega))).trans ((g191 12 k).resolve_left (by exact gz_m 320 (by omega)))).trans ((g174 12 k).resolve_left (by exact gz_m 321 (by omega)))).trans ((g158 12 k).resolve_left (by exact gz_m 322 (by omega)))).trans (p145 12 k (fun h => absurd h.1 (by exact gz_m 323 (by omega))))).trans ((g128 12 k).resolve_left (by exact gz_m 324 (by omega))))))) A222 (by unfold gs_it2 gs_it3; rw [show gs_V β η p9 = I 23 8 from by exact gz_m 325 (by omega)]; (repeat first | rw [if_pos (by exact gz_m 326 (by omega))] | rw [if_neg (by exact gz_m 327 (by omega))]); (try unfold gs_it4); (try rw [← gs_rv_0]); (repeat first | rw [if_pos (by exact gz_m 328 (by omega))] | rw [if_neg (by exact gz_m 329 (by omega))])) (by exact gz_m 330 (by omega)) (by exact gz_m 331 (by omega)) ⟨(fun k => (((((((g208 (a1 + 6) k).resolve_left (by exact gz_m 332 (by omega))).trans ((g191 (a1 + 6) k).resolve_left (by exact gz_m 333 (by omega)))).trans ((g174 (a1 + 6) k).resolve_left (by exact gz_m 334 (by omega)))).trans ((g158 (a1 + 6) k).resolve_left (by exact gz_m 335 (by omega)))).trans (p145 (a1 + 6) k (by exact gz_m 336 (by omega)))).trans ((g128 (a1 + 6) k).resolve_left (by exact gz_m 337 (by omega))))), (fun k => (((((((g208 (a1 + 1) k).resolve_left (by exact gz_m 338 (by omega))).trans ((g191 (a1 + 1) k).resolve_left (by exact gz_m 339 (by omega)))).trans ((g174 (a1 + 1) k).resolve_left (by exact gz_m 340 (by omega)))).trans ((g158 (a1 + 1) k).resolve_left (by exact gz_m 341 (by omega)))).trans (p145 (a1 + 1) k (by exact gz_m 342 (by omega)))).trans ((g128 (a1 + 1) k).resolve_left (by exact gz_m 343 (by omega)))))⟩
              · show gv_X _ _ (108, [(2, .inl ((I 23 8) - 1)), (0, .inr (.inr (some 39))), (1, .inr (.inr (some a1)))], [], sh, gc_h sh I209 J210 A)
                obtain ⟨u224, u224_⟩ := gs_or0 q208.2.2.2.2.2 (by exact gz_m 344 (by omega))
                refine gv_run 1 true hD (pc' := 109) (lv' := [(2, .inl ((I 23 8) - 1)), (0, .inr (.inr (some 39))), (1, .inr (.inr (some a1)))]) (st' := [.inl 0]) (h' := gc_h sh I209 J210 A) (C := (True ∧ True)) rfl ⟨trivial, trivial⟩ ?_
                exact gv_zret hD rfl (by exact gz_m 345 (by omega)) ⟨I209, J210, rfl, hI209, FI209, FJ210, KLT_I209, KTK_I209, KCT_I209, ⟨_, rfl, by exact gz_m 346 (by omega), by exact gz_m 347 (by omega), by exact gz_m 348 (by omega), by exact gz_m 349 (by omega), (Or.inl (by exact gz_m 350 (by omega))), (Or.inr ⟨by exact gz_m 351 (by omega), by first | (exfalso; exact gz_m 352 (by omega)) | (unfold gs_it2 gs_it3; rw [show gs_V β η p9 = I 23 8 from by exact gz_m 353 (by omega)]; (repeat first | rw [if_pos (by exact gz_m 354 (by omega))] | rw [if_neg (by exact gz_m 355 (by omega))]); (try unfold gs_it4); (try rw [← gs_rv_0]); (repeat first | rw [if_pos (by exact gz_m 356 (by omega))] | rw [if_neg (by exact gz_m 357 (by omega))]); exact ⟨by exact gz_m 358 (by omega), by exact gz_m 359 (by omega)⟩)⟩)⟩⟩
      · show gv_X _ _ (39, [(2, .inl ((I 23 8) - 1)), (0, .inr (.inr (some 39))), (1, .inr (.inr (some a1)))], [], sh, gc_h sh I J A)
        refine gv_run 3 true hD (pc' := 42) (lv' := [(2, .inl ((I 23 8) - 1)), (0, .inr (.inr (some 39))), (1, .inr (.inr (some a1)))]) (st' := [.inr (.inr (some 39)), .inl 5, .inr (.inr (some 39))]) (h' := gc_h sh I J A) (C := (((True ∧ True) ∧ True) ∧ True)) rfl ⟨⟨⟨trivial, trivial⟩, trivial⟩, trivial⟩ ?_
        refine gv_get hD rfl rfl S_39 ⟨by decide, B_39⟩ (gc_hA S_39 rfl A_39_1) ?_
        show gv_X _ _ (45, [(2, .inl ((I 23 8) - 1)), (0, .inr (.inr (some 39))), (1, .inr (.inr (some a1)))], [.inr (.inr (some 23)), .inl 5, .inr (.inr (some 39))], sh, gc_h sh I J A)
        have f225 := (gc_b_3_5 hI R_23)
        refine gv_get hD rfl rfl S_23 ⟨by decide, B_23⟩ (gc_hI S_23 rfl) ?_
        show gv_X _ _ (48, [(2, .inl ((I 23 8) - 1)), (0, .inr (.inr (some 39))), (1, .inr (.inr (some a1)))], [.inl (I 23 5), .inl 5, .inr (.inr (some 39))], sh, gc_h sh I J A)
        obtain ⟨r226, h226, E226, P226⟩ := d_X6_wrong_p (ws0 := ws0) (tb := tb) hws htb sh ro I J A hI  5 (I 23 5) hb   ⟨by exact gz_m 360 (by omega), by exact gz_m 361 (by omega)⟩ ⟨by exact gz_m 362 (by omega), by exact gz_m 363 (by omega)⟩  
        obtain ⟨I227, J228, rfl, hI227, g226, k226, ⟨z226, rfl, q226⟩⟩ := P226
        have FI227 := gc_frc (W := fun q j => (q = 39 ∧ j = 3) ∨ (q = 39 ∧ j = 4) ∨ (q = 23 ∧ j = 5) ∨ (q = 23 ∧ j = 6) ∨ (q = 23 ∧ j = 7) ∨ (q = 23 ∧ j = 8) ∨ (q = 39 ∧ j = 6) ∨ q = (a1 + 1) ∨ q = (a1 + 6) ∨ q = (a1 + 4) ∨ q = (a1 + 5) ∨ (q = a1 ∧ j = 8)) (V := fun q j => (q = 39 ∧ j = 3) ∨ (q = 39 ∧ j = 4)) FI (fun q j h => (h.elim (fun h => (Or.inl h)) (fun h => (Or.inr (Or.inl h))))) g226
        have t229 := (g226 23 1).resolve_left (fun h => h.elim (fun h => absurd h.2 (gz_ne rfl)) (fun h => absurd h.2 (gz_ne rfl)))
        have t230 := (g226 23 5).resolve_left (fun h => h.elim (fun h => absurd h.2 (gz_ne rfl)) (fun h => absurd h.2 (gz_ne rfl)))
        have t231 := (g226 23 6).resolve_left (fun h => h.elim (fun h => absurd h.2 (gz_ne rfl)) (fun h => absurd h.2 (gz_ne rfl)))
        have t232 := (g226 23 7).resolve_left (fun h => h.elim (fun h => absurd h.2 (gz_ne rfl)) (fun h => absurd h.2 (gz_ne rfl)))
        have t233 := (g226 a1 4).resolve_left (fun h => h.elim (fun h => absurd h.2 (gz_ne rfl)) (fun h => absurd h.1 N_a1__39))
        have t234 := (g226 a1 8).resolve_left (fun h => h.elim (fun h => absurd h.2 (gz_ne rfl)) (fun h => absurd h.2 (gz_ne rfl)))
        have t235 := (g226 23 8).resolve_left (fun h => h.elim (fun h => absurd h.2 (gz_ne rfl)) (fun h => absurd h.2 (gz_ne rfl)))
        have t236 := (g226 39 2).resolve_left (fun h => h.elim (fun h => absurd h.2 (gz_ne rfl)) (fun h => absurd h.2 (gz_ne rfl)))
        have t237 := (g226 (a1 + 6) (Int.toNat (((I 23 8) - 1)))).resolve_left (fun h => h.elim (fun h => absurd h.1 N_a1_6__39) (fun h => absurd h.1 N_a1_6__39))
        obtain rfl : J = J228 := funext fun q => funext fun j => ((k226 q j).resolve_left id).symm
        have KLT_I227 := gc_LT_fr KLT_I ((g226 23 5).resolve_left (fun h => h.elim (fun h => absurd h.2 (gz_ne rfl)) (fun h => absurd h.2 (gz_ne rfl)))) ((g226 23 6).resolve_left (fun h => h.elim (fun h => absurd h.2 (gz_ne rfl)) (fun h => absurd h.2 (gz_ne rfl)))) ((g226 23 7).resolve_left (fun h => h.elim (fun h => absurd h.2 (gz_ne rfl)) (fun h => absurd h.2 (gz_ne rfl)))) (fun k => (g226 24 k).resolve_left (fun h => h.elim (fun h => absurd h.1 (gz_ne rfl)) (fun h => absurd h.1 (gz_ne rfl))))
        have KTK_I227 := gc_TK_fr KTK_I ((g226 23 1).resolve_left (fun h => h.elim (fun h => absurd h.2 (gz_ne rfl)) (fun h => absurd h.2 (gz_ne rfl)))) ((g226 23 5).resolve_left (fun h => h.elim (fun h => absurd h.2 (gz_ne rfl)) (fun h => absurd h.2 (gz_ne rfl)))) ((g226 23 6).resolve_left (fun h => h.elim (fun h => absurd h.2 (gz_ne rfl)) (fun h => absurd h.2 (gz_ne rfl)))) ((g226 23 7).resolve_left (fun h => h.elim (fun h => absurd h.2 (gz_ne rfl)) (fun h => absurd h.2 (gz_ne rfl))))
        have KCT_I227 := gc_CT_fr KCT_I ((g226 a1 8).resolve_left (fun h => h.elim (fun h => absurd h.2 (gz_ne rfl)) (fun h => absurd h.2 (gz_ne rfl)))) (fun k => (g226 (a1 + 6) k).resolve_left (fun h => h.elim (fun h => absurd h.1 N_a1_6__39) (fun h => absurd h.1 N_a1_6__39)))
        have A238 := gc_AT_I x3 ((g226 23 1).resolve_left (fun h => h.elim (fun h => absurd h.2 (gz_ne rfl)) (fun h => absurd h.2 (gz_ne rfl)))) ((g226 23 5).resolve_left (fun h => h.elim (fun h => absurd h.2 (gz_ne rfl)) (fun h => absurd h.2 (gz_ne rfl)))) ((g226 23 6).resolve_left (fun h => h.elim (fun h => absurd h.2 (gz_ne rfl)) (fun h => absurd h.2 (gz_ne rfl)))) ((g226 23 7).resolve_left (fun h => h.elim (fun h => absurd h.2 (gz_ne rfl)) (fun h => absurd h.2 (gz_ne rfl)))) ((g226 23 8).resolve_left (fun h => h.elim (fun h => absurd h.2 (gz_ne rfl)) (fun h => absurd h.2 (gz_ne rfl)))) (fun k => (g226 24 k).resolve_left (fun h => h.elim (fun h => absurd h.1 (gz_ne rfl)) (fun h => absurd h.1 (gz_ne rfl))))
        have t239 := gc_AT_l A238
        refine gv_callV hD rfl (As := [.inl 5, .inl (I 23 5)]) (st := []) rfl B_39 S_39 rfl (gc_lV6 hws rfl) (Nat.le_of_ble_eq_true rfl) (gz_Ev_mono (d := 1) (by decide) E226) ?_
        show gv_X _ _ (51, [(2, .inl ((I 23 8) - 1)), (0, .inr (.inr (some 39))), (1, .inr (.inr (some a1)))], [.inl z226], sh, gc_h sh I227 J A)
        exact gv_zret hD rfl (by exact gz_m 364 (by omega)) ⟨I227, J, rfl, hI227, FI227, FJ, KLT_I227, KTK_I227, KCT_I227, ⟨_, rfl, by exact gz_m 365 (by omega), by exact gz_m 366 (by omega), by exact gz_m 367 (by omega), by exact gz_m 368 (by omega), (Or.inl (by exact gz_m 369 (by omega))), (Or.inr ⟨by exact gz_m 370 (by omega), by unfold gs_it2; rw [show gs_V β η p9 = I 23 8 from by exact gz_m 371 (by omega)]; (repeat first | rw [if_pos (by exact gz_m 372 (by omega))] | rw [if_neg (by exact gz_m 373 (by omega))]); exact ⟨by exact gz_m 374 (by omega), by exact gz_m 375 (by omega)⟩⟩)⟩⟩
