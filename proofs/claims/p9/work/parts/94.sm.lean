/-! PARITY: FEATURE -/
/-- the list of VALUES, at most m further ones, n are read -/
def gs_vl (β : Int → Int) (N : Int) (I : gr_I) (J : gr_J) (q0 : Int) : Nat → Int → Int
  | 0, n => if gs_T β N (gs_nx β N (Int.toNat n) q0) = 1 then -1 - gs_A β N (gs_nx β N (Int.toNat n) q0) else gs_nx β N (Int.toNat n) q0
  | m + 1, n => if gs_T β N (gs_nx β N (Int.toNat n) q0) = 1 then (if 0 ≤ gs_lt J 21 (48 * I 0 6) (I 14 (Int.toNat (I 0 6))) (gs_rn β N (gs_nx β N (Int.toNat n) q0)) ∨ 0 ≤ gs_find (fun i => gs_rn β N (gs_nx β N (Int.toNat (0 + i)) q0)) n (gs_rn β N (gs_nx β N (Int.toNat n) q0)) then -1 - gs_A β N (gs_nx β N (Int.toNat n) q0) else gs_vl β N I J q0 m (n + 1)) else gs_nx β N (Int.toNat n) q0
theorem gs_vl_s {β : Int → Int} {N : Int} {I : gr_I} {J : gr_J} {q0 n q : Int} (hq : q = gs_nx β N (Int.toNat n) q0) (hn : n < 6) (h : gs_T β N q = 1) (h1 : ¬ 0 ≤ gs_lt J 21 (48 * I 0 6) (I 14 (Int.toNat (I 0 6))) (gs_rn β N q)) (h2 : ¬ 0 ≤ gs_find (fun i => gs_rn β N (gs_nx β N (Int.toNat (0 + i)) q0)) n (gs_rn β N q)) : gs_vl β N I J q0 (Int.toNat (6 - n)) n = gs_vl β N I J q0 (Int.toNat (6 - (n + 1))) (n + 1) := by
  rw [show Int.toNat (6 - n) = Int.toNat (6 - (n + 1)) + 1 from by omega]
  show (if _ then _ else _) = _
  rw [← hq, if_pos h, if_neg (fun c => c.elim h1 h2)]
theorem gs_vl_e {β : Int → Int} {N : Int} {I : gr_I} {J : gr_J} {q0 n q : Int} {m : Nat} (hq : q = gs_nx β N (Int.toNat n) q0) (h : ¬ gs_T β N q = 1) : gs_vl β N I J q0 m n = q := by
  cases m with
  | zero =>
    show (if _ then _ else _) = _
    rw [← hq]
    exact if_neg h
  | succ m =>
    show (if _ then _ else _) = _
    rw [← hq]
    exact if_neg h
theorem gs_vl_x {β : Int → Int} {N : Int} {I : gr_I} {J : gr_J} {q0 n q : Int} (hq : q = gs_nx β N (Int.toNat n) q0) (h : gs_T β N q = 1) (hx : 6 ≤ n ∨ 0 ≤ gs_lt J 21 (48 * I 0 6) (I 14 (Int.toNat (I 0 6))) (gs_rn β N q) ∨ 0 ≤ gs_find (fun i => gs_rn β N (gs_nx β N (Int.toNat (0 + i)) q0)) n (gs_rn β N q)) : gs_vl β N I J q0 (Int.toNat (6 - n)) n = -1 - gs_A β N q := by
  by_cases c : 6 ≤ n
  · rw [show Int.toNat (6 - n) = 0 from by omega]
    show (if _ then _ else _) = _
    rw [← hq]
    exact if_pos h
  · rw [show Int.toNat (6 - n) = Int.toNat (6 - (n + 1)) + 1 from by omega]
    show (if _ then _ else _) = _
    rw [← hq, if_pos h, if_pos (hx.resolve_left c)]
theorem gs_cn7_s {β : Int → Int} {N : Int} {n q : Int} (hn : n < 7) (h : gs_T β N q = 1) : n + gs_cn β N (Int.toNat (7 - n)) q = n + 1 + gs_cn β N (Int.toNat (7 - (n + 1))) (gs_X β N q) := by
  rw [show Int.toNat (7 - n) = Int.toNat (7 - (n + 1)) + 1 from by omega]
  show n + (if _ then _ else _) = _
  rw [if_pos h]
  omega
def gs_fea1 (β : Int → Int) (N : Int) (I : gr_I) (first q0 q : Int) : Int := if q < 0 then q else if gs_T β N q = 59 then (if gs_cn β N 7 q0 = 1 then -1 - gs_A β N q0 else gs_done β N (if I 13 (Int.toNat (I 0 6)) < 8 then 1 else 0) first q) else -1 - gs_A β N q
def gs_fea0 (β : Int → Int) (N : Int) (I : gr_I) (J : gr_J) (first q0 : Int) : Int := if q0 < 0 then q0 else if gs_T β N q0 = 1 then gs_fea1 β N I first q0 (gs_vl β N I J q0 6 0) else -1 - gs_A β N q0
def gs_fea (β : Int → Int) (N : Int) (I : gr_I) (J : gr_J) (first p : Int) : Int :=
  if gs_T β N p = 1 then (if 0 ≤ gs_lt J 20 (8 * I 0 6) (I 13 (Int.toNat (I 0 6))) (gs_rn β N p) then -1 - gs_A β N p else gs_fea0 β N I J first (gs_need β N 61 (gs_X β N p))) else -1 - gs_A β N p
/-- a feature has come, with m values -/
def gs_Ufe (w : Int64) (ns : Nat → Int64) (m : Nat) (I : gr_I) (J : gr_J) (Iₚ : gr_I) (Jₚ : gr_J) : Prop :=
  (Iₚ 13 (Int.toNat (I 0 6)) = I 13 (Int.toNat (I 0 6)) + 1 ∧ ∀ j, ¬ j = Int.toNat (I 0 6) → Iₚ 13 j = I 13 j) ∧ (Jₚ 20 (Int.toNat (8 * I 0 6 + I 13 (Int.toNat (I 0 6)))) = w ∧ ∀ j, ¬ j = Int.toNat (8 * I 0 6 + I 13 (Int.toNat (I 0 6))) → Jₚ 20 j = J 20 j) ∧ (Iₚ 14 (Int.toNat (I 0 6)) = I 14 (Int.toNat (I 0 6)) + m ∧ ∀ j, ¬ j = Int.toNat (I 0 6) → Iₚ 14 j = I 14 j) ∧ (∀ i : Nat, i < m → Jₚ 21 (Int.toNat (48 * I 0 6 + I 14 (Int.toNat (I 0 6))) + i) = ns i ∧ Iₚ 24 (Int.toNat (48 * I 0 6 + I 14 (Int.toNat (I 0 6))) + i) = I 13 (Int.toNat (I 0 6)) ∧ Iₚ 25 (Int.toNat (48 * I 0 6 + I 14 (Int.toNat (I 0 6))) + i) = i + 1) ∧ ∀ j, ¬ (Int.toNat (48 * I 0 6 + I 14 (Int.toNat (I 0 6))) ≤ j ∧ j < Int.toNat (48 * I 0 6 + I 14 (Int.toNat (I 0 6))) + m) → Jₚ 21 j = J 21 j ∧ Iₚ 24 j = I 24 j ∧ Iₚ 25 j = I 25 j
def gs_Sfe (I : gr_I) (J : gr_J) (Iₚ : gr_I) (Jₚ : gr_J) : Prop := ∀ j, Iₚ 13 j = I 13 j ∧ Iₚ 14 j = I 14 j ∧ Iₚ 24 j = I 24 j ∧ Iₚ 25 j = I 25 j ∧ Jₚ 20 j = J 20 j ∧ Jₚ 21 j = J 21 j
theorem gs_Ufe_0 {w : Int64} {ns : Nat → Int64} {I I0 I1 : gr_I} {J J0 J1 : gr_J} {k1 k2 : Nat} (s : gs_Sfe I J I0 J0) (e1 : k1 = Int.toNat (I 0 6)) (p1 : ∀ b j, ¬ (b = 13 ∧ j = k1) → I1 b j = I0 b j) (q1 : I1 13 k1 = I 13 (Int.toNat (I 0 6)) + 1) (e2 : k2 = Int.toNat (8 * I 0 6 + I 13 (Int.toNat (I 0 6)))) (p2 : ∀ b j, ¬ (b = 20 ∧ j = k2) → J1 b j = J0 b j) (q2 : J1 20 k2 = w) : gs_Ufe w ns 0 I J I1 J1 := by
  subst e1
  subst e2
  refine ⟨⟨q1, fun j hj => (p1 13 j (fun h => hj h.2)).trans (s j).1⟩, ⟨q2, fun j hj => (p2 20 j (fun h => hj h.2)).trans (s j).2.2.2.2.1⟩, ⟨((p1 14 _ (fun h => absurd h.1 (by first | exact gz_ne rfl | decide))).trans (s _).2.1).trans (by omega), fun j _ => (p1 14 j (fun h => absurd h.1 (by first | exact gz_ne rfl | decide))).trans (s j).2.1⟩, fun i hi => absurd hi (by omega), fun j _ => ⟨(p2 21 j (fun h => absurd h.1 (by first | exact gz_ne rfl | decide))).trans (s j).2.2.2.2.2, (p1 24 j (fun h => absurd h.1 (by first | exact gz_ne rfl | decide))).trans (s j).2.2.1, (p1 25 j (fun h => absurd h.1 (by first | exact gz_ne rfl | decide))).trans (s j).2.2.2.1⟩⟩
theorem gs_Ufe_s {w : Int64} {ns : Nat → Int64} {I I1 I2 I3 I4 : gr_I} {J J1 J2 : gr_J} {m k1 k2 : Nat} (h : gs_Ufe w ns m I J I1 J1) (h0 : 0 ≤ I 0 6 ∧ 0 ≤ I 14 (Int.toNat (I 0 6))) (e1 : k1 = Int.toNat (I 0 6)) (p1 : ∀ b j, ¬ (b = 14 ∧ j = k1) → I2 b j = I1 b j) (q1 : I2 14 k1 = I1 14 (Int.toNat (I 0 6)) + 1) (e2 : k2 = Int.toNat (48 * I 0 6 + I1 14 (Int.toNat (I 0 6)))) (p2 : ∀ b j, ¬ (b = 21 ∧ j = k2) → J2 b j = J1 b j) (q2 : J2 21 k2 = ns m) (p3 : ∀ b j, ¬ (b = 24 ∧ j = k2) → I3 b j = I2 b j) (q3 : I3 24 k2 = I 13 (Int.toNat (I 0 6))) (p4 : ∀ b j, ¬ (b = 25 ∧ j = k2) → I4 b j = I3 b j) (q4 : I4 25 k2 = (m : Int) + 1) : gs_Ufe w ns (m + 1) I J I4 J2 := by
  subst e1
  obtain ⟨h1, h2, h3, h4, h5⟩ := h
  have ek : k2 = Int.toNat (48 * I 0 6 + I 14 (Int.toNat (I 0 6))) + m := by
    rw [e2, h3.1]
    omega
  subst ek
  have f : ∀ b j, ¬ b = 14 → ¬ b = 24 → ¬ b = 25 → I4 b j = I1 b j := fun b j c1 c2 c3 => (p4 b j (fun h => c3 h.1)).trans ((p3 b j (fun h => c2 h.1)).trans (p1 b j (fun h => c1 h.1)))
  have g : ∀ j, I4 14 j = I2 14 j := fun j => (p4 14 j (fun h => absurd h.1 (by first | exact gz_ne rfl | decide))).trans (p3 14 j (fun h => absurd h.1 (by first | exact gz_ne rfl | decide)))
  refine ⟨⟨(f 13 _ (by decide) (by decide) (by decide)).trans h1.1, fun j hj => (f 13 j (by decide) (by decide) (by decide)).trans (h1.2 j hj)⟩, ⟨(p2 20 _ (fun h => absurd h.1 (by first | exact gz_ne rfl | decide))).trans h2.1, fun j hj => (p2 20 j (fun h => absurd h.1 (by first | exact gz_ne rfl | decide))).trans (h2.2 j hj)⟩, ⟨((g _).trans q1).trans (by rw [h3.1]; omega), fun j hj => (g j).trans ((p1 14 j (fun h => hj h.2)).trans (h3.2 j hj))⟩, fun i hi => ?_, fun j hj => ⟨(p2 21 j (fun h => hj (by have := h.2; omega))).trans (h5 j (fun h => hj (by omega))).1, ((p4 24 j (fun h => absurd h.1 (by first | exact gz_ne rfl | decide))).trans ((p3 24 j (fun h => hj (by have := h.2; omega))).trans (p1 24 j (fun h => absurd h.1 (by first | exact gz_ne rfl | decide))))).trans (h5 j (fun h => hj (by omega))).2.1, ((p4 25 j (fun h => hj (by have := h.2; omega))).trans ((p3 25 j (fun h => absurd h.1 (by first | exact gz_ne rfl | decide))).trans (p1 25 j (fun h => absurd h.1 (by first | exact gz_ne rfl | decide))))).trans (h5 j (fun h => hj (by omega))).2.2⟩⟩
  by_cases c : i = m
  · subst c
    exact ⟨q2, (p4 24 _ (fun h => absurd h.1 (by first | exact gz_ne rfl | decide))).trans q3, q4⟩
  · have hk : ∀ k : Nat, ¬ (k = k ∧ k + i = k + m) := fun k h => c (by omega)
    have x := h4 i (by omega)
    exact ⟨(p2 21 _ (fun h => c (by have := h.2; omega))).trans x.1, ((p4 24 _ (fun h => absurd h.1 (by first | exact gz_ne rfl | decide))).trans ((p3 24 _ (fun h => c (by have := h.2; omega))).trans (p1 24 _ (fun h => absurd h.1 (by first | exact gz_ne rfl | decide))))).trans x.2.1, ((p4 25 _ (fun h => c (by have := h.2; omega))).trans ((p3 25 _ (fun h => absurd h.1 (by first | exact gz_ne rfl | decide))).trans (p1 25 _ (fun h => absurd h.1 (by first | exact gz_ne rfl | decide))))).trans x.2.2⟩
set_option maxHeartbeats 8000000 in
set_option maxRecDepth 100000 in
theorem r_feature_p_L77_L249 {ws0 : List Cond} {tb : String → gz_T} (hws : ∀ w ∈ gr_ws, w ∈ ws0) (htb : tb RX13 = gr_T) (ext : gz_Sh) (β : Int → Int) (N9 : Int) (p9 : Int) (I : gr_I) (J : gr_J) (hI : gr_Inv I)   (x0 : I 0 71 = 5 ∨ I 0 73 ≤ I 0 69) (x1 : I 0 72 ≤ I 0 69) (x2 : I 0 71 = 0 ∨ (I 0 72 < I 0 73 ∧ I 0 72 < I 0 69)) (x3 : I 0 71 = 3 → 2 ≤ I 0 73 - I 0 72 ∧ I 0 73 - I 0 72 ≤ 14) (x4 : I 0 72 ≤ I 0 73) (x5 : 0 ≤ I 0 6) (x6 : gr_ATp β N9 p9 I J) (x7 : 0 ≤ p9) (KVF_I : gr_VF I) (v4_8 : Int) : ∀ (n : Nat) (I15 : gr_I) (J16 : gr_J) (v6_17 : Int) (v7_17 : Int) (p_17 : Int), (7 - v7_17).toNat < n → gr_Inv I15 → gr_fr [71, 72, 73, 74, 75, 76, 77] [13, 14, 20, 21, 24, 25, 62] I I15 → gr_fj [71, 72, 73, 74, 75, 76, 77] [13, 14, 20, 21, 24, 25, 62] J J16 → gr_VF I15 → ((0 ≤ (I 0 6) ∧ (I 0 6) ≤ 7) ∧ (0 ≤ v4_8 ∧ v4_8 ≤ 6) ∧ (0 ≤ v6_17 ∧ v6_17 ≤ 7) ∧ (0 ≤ v7_17 ∧ v7_17 ≤ 6) ∧ (I15 14 (Int.toNat (I 0 6)) + v4_8 - v7_17 ≤ 6 * I15 13 (Int.toNat (I 0 6))) ∧ (I15 13 (Int.toNat (I 0 6)) ≤ 8) ∧ (0 ≤ p_17) ∧ (I15 0 71 = 5 ∨ I15 0 73 ≤ I15 0 69) ∧ (I15 0 72 ≤ I15 0 69) ∧ (I15 0 71 = 0 ∨ (I15 0 72 < I15 0 73 ∧ I15 0 72 < I15 0 69)) ∧ (I15 0 71 = 3 → 2 ≤ I15 0 73 - I15 0 72 ∧ I15 0 73 - I15 0 72 ≤ 14) ∧ (I15 0 72 ≤ I15 0 73) ∧ (I15 0 69 = I 0 69) ∧ (I 0 73 ≤ I15 0 73) ∧ (I 0 72 ≤ I15 0 72) ∧ (I15 0 6 = I 0 6)) → (gr_ATp β N9 p_17 I15 J16) → ((gs_fea β N9 I J (I 0 78) p9) = p_17) → (v4_8 = gs_cn β N9 7 (gs_need β N9 61 (gs_X β N9 p9))) → (v6_17 = I 13 (Int.toNat (I 0 6))) → (gs_Ufe (gs_rn β N9 p9) (fun i => gs_rn β N9 (gs_nx β N9 i (gs_need β N9 61 (gs_X β N9 p9)))) (Int.toNat v7_17) I J I15 J16) → (∀ i : Nat, i < Int.toNat v4_8 → J16 62 i = gs_rn β N9 (gs_nx β N9 i (gs_need β N9 61 (gs_X β N9 p9)))) → (v7_17 ≤ v4_8) → gv_X (gr_E ws0 tb 11 (yX13_feature, cX13_feature, 9, (some .boolean)) kX13_feature) (gv_Q cX13_feature (some .boolean) (gr_sh ++ ext) (fun r hₚ => (∃ (Iₚ : gr_I) (Jₚ : gr_J), hₚ = gr_h Iₚ Jₚ ∧ gr_Inv Iₚ ∧ gr_fr [71, 72, 73, 74, 75, 76, 77] [13, 14, 20, 21, 24, 25, 62] I Iₚ ∧ gr_fj [71, 72, 73, 74, 75, 76, 77] [13, 14, 20, 21, 24, 25, 62] J Jₚ ∧ gr_VF Iₚ ∧ (∃ z : Int, r = some (.inl z) ∧ 0 ≤ z ∧ z ≤ 1 ∧ (Iₚ 0 71 = 5 ∨ Iₚ 0 73 ≤ Iₚ 0 69) ∧ (Iₚ 0 72 ≤ Iₚ 0 69) ∧ (Iₚ 0 71 = 0 ∨ (Iₚ 0 72 < Iₚ 0 73 ∧ Iₚ 0 72 < Iₚ 0 69)) ∧ (Iₚ 0 71 = 3 → 2 ≤ Iₚ 0 73 - Iₚ 0 72 ∧ Iₚ 0 73 - Iₚ 0 72 ≤ 14) ∧ (Iₚ 0 72 ≤ Iₚ 0 73) ∧ (Iₚ 0 69 = I 0 69) ∧ (I 0 73 ≤ Iₚ 0 73) ∧ (I 0 72 ≤ Iₚ 0 72) ∧ (gs_Or z (0 ≤ (gs_fea β N9 I J (I 0 78) p9) ∧ gr_ATp β N9 (gs_fea β N9 I J (I 0 78) p9) Iₚ Jₚ ∧ gs_Ufe (gs_rn β N9 p9) (fun i => gs_rn β N9 (gs_nx β N9 i (gs_need β N9 61 (gs_X β N9 p9)))) (Int.toNat (gs_cn β N9 7 (gs_need β N9 61 (gs_X β N9 p9)))) I J Iₚ Jₚ) ((gs_fea β N9 I J (I 0 78) p9) < 0 ∧ Iₚ 0 77 = -1 - (gs_fea β N9 I J (I 0 78) p9) ∧ gs_Sfe I J Iₚ Jₚ)))))) (249, [(0, .inr (.inr (some 0))), (1, .inl (I 0 6)), (4, .inl v4_8), (6, .inl v6_17), (7, .inl v7_17)], [], gr_sh ++ ext, gr_h I15 J16) := by
  have FI : gr_fr [71, 72, 73, 74, 75, 76, 77] [13, 14, 20, 21, 24, 25, 62] I I := fun _ _ _ => rfl
  have FJ : gr_fj [71, 72, 73, 74, 75, 76, 77] [13, 14, 20, 21, 24, 25, 62] J J := fun _ _ _ => rfl
  have hD : gv_D (gr_E ws0 tb 11 (yX13_feature, cX13_feature, 9, (some .boolean)) kX13_feature) := gq_of oX13_feature
  intro n
  induction n with
  | zero => intro I15 J16 v6_17 v7_17 p_17 hn; omega
  | succ n ih249 =>
    intro I15 J16 v6_17 v7_17 p_17 hn hI15 FI15 FJ16 KVF_I15 m_17 e3_17 e4_17 e5_17 e6_17 e7_17 e8_17 e9_17
    obtain ⟨h_I_0_6__17, hv4_8_17, hv6_17, hv7_17, e0_17, e1_17, e2_17, e10_17, e11_17, e12_17, e13_17, e14_17, e15_17, e16_17, e17_17, e18_17⟩ := m_17
    have f18 := (gr_b_0_71 hI15)
    have f19 := (gr_b_0_72 hI15)
    have f20 := (gr_b_0_73 hI15)
    have f21 := (gr_b_0_69 hI15)
    have f22 := (gr_b_0_6 hI15)
    have t23 := gr_ATp_l e3_17
    refine gv_run 2 true hD (pcₚ := 253) (lvₚ := [(0, .inr (.inr (some 0))), (1, .inl (I 0 6)), (4, .inl v4_8), (6, .inl v6_17), (7, .inl v7_17)]) (stₚ := [.inl v4_8, .inl v7_17]) (hₚ := gr_h I15 J16) (C := ((True ∧ True) ∧ True)) rfl ⟨⟨trivial, trivial⟩, trivial⟩ ?_
    refine gv_icmp_ge (t := 314) hD rfl rfl ⟨⟨by omega, by omega⟩, ⟨by omega, by omega⟩⟩ (fun c24 => ?_) (fun c24 => ?_)
    · refine gv_run 1 true hD (pcₚ := 315) (lvₚ := [(0, .inr (.inr (some 0))), (1, .inl (I 0 6)), (4, .inl v4_8), (6, .inl v6_17), (7, .inl v7_17)]) (stₚ := [.inl 1]) (hₚ := gr_h I15 J16) (C := (True ∧ True)) rfl ⟨trivial, trivial⟩ ?_
      have b25 : (I15 0 71 = 5 ∨ I15 0 73 ≤ I15 0 69) ∧ (I15 0 72 ≤ I15 0 69) ∧ (I15 0 71 = 0 ∨ (I15 0 72 < I15 0 73 ∧ I15 0 72 < I15 0 69)) ∧ (I15 0 71 = 3 → 2 ≤ I15 0 73 - I15 0 72 ∧ I15 0 73 - I15 0 72 ≤ 14) ∧ (I15 0 72 ≤ I15 0 73) ∧ (I15 0 69 = I 0 69) ∧ (I 0 73 ≤ I15 0 73) ∧ (I 0 72 ≤ I15 0 72) := by omega
      exact gv_zret hD rfl (by omega) ⟨I15, J16, rfl, hI15, FI15, FJ16, KVF_I15, ⟨_, rfl, by omega, by omega, b25.1, b25.2.1, b25.2.2.1, b25.2.2.2.1, b25.2.2.2.2.1, b25.2.2.2.2.2.1, b25.2.2.2.2.2.2.1, b25.2.2.2.2.2.2.2, (Or.inl ⟨by omega, by rw [e4_17]; exact ⟨by omega, e3_17, (by rw [← e5_17, show Int.toNat v4_8 = Int.toNat v7_17 from by omega]; exact e7_17)⟩⟩)⟩⟩
    · refine gv_run 7 true hD (pcₚ := 266) (lvₚ := [(0, .inr (.inr (some 0))), (1, .inl (I 0 6)), (4, .inl v4_8), (6, .inl v6_17), (7, .inl v7_17)]) (stₚ := [.inl (I 0 6), .inr (.inr (some 14)), .inl (I 0 6), .inr (.inr (some 14)), .inl (48 * (I 0 6))]) (hₚ := gr_h I15 J16) (C := (((((((True ∧ True) ∧ True) ∧ True) ∧ True) ∧ True) ∧ True) ∧ True)) rfl ⟨⟨⟨⟨⟨⟨⟨trivial, trivial⟩, trivial⟩, trivial⟩, trivial⟩, trivial⟩, trivial⟩, trivial⟩ ?_
      have f26 := (gr_b_14 hI15 (Int.toNat ((I 0 6))))
      refine gv_run 1 true hD (pcₚ := 267) (lvₚ := [(0, .inr (.inr (some 0))), (1, .inl (I 0 6)), (4, .inl v4_8), (6, .inl v6_17), (7, .inl v7_17)]) (stₚ := [.inl (I15 14 (Int.toNat ((I 0 6)))), .inl (I 0 6), .inr (.inr (some 14)), .inl (48 * (I 0 6))]) (hₚ := gr_h I15 J16) (C := (True ∧ (0 ≤ (I 0 6) ∧ (I 0 6) < ((8 : Nat) : Int)))) rfl ⟨trivial, ⟨by omega, by omega⟩⟩ ?_
      refine gv_run 3 true hD (pcₚ := 270) (lvₚ := [(0, .inr (.inr (some 0))), (1, .inl (I 0 6)), (4, .inl v4_8), (6, .inl v6_17), (7, .inl v7_17)]) (stₚ := [.inl ((I15 14 (Int.toNat ((I 0 6)))) + 1), .inl (I 0 6), .inr (.inr (some 14)), .inl (I15 14 (Int.toNat ((I 0 6)))), .inl (48 * (I 0 6))]) (hₚ := gr_h I15 J16) (C := (((True ∧ True) ∧ True) ∧ True)) rfl ⟨⟨⟨trivial, trivial⟩, trivial⟩, trivial⟩ ?_
      refine gv_run 1 true hD (pcₚ := 271) (lvₚ := [(0, .inr (.inr (some 0))), (1, .inl (I 0 6)), (4, .inl v4_8), (6, .inl v6_17), (7, .inl v7_17)]) (stₚ := [.inl (I15 14 (Int.toNat ((I 0 6)))), .inl (48 * (I 0 6))]) (hₚ := gz_up (gr_h I15 J16) 14 (Int.toNat ((I 0 6))) (.inl (((I15 14 (Int.toNat ((I 0 6)))) + 1)))) (C := (True ∧ (0 ≤ (I 0 6) ∧ (I 0 6) < ((8 : Nat) : Int)))) rfl ⟨trivial, ⟨by omega, by omega⟩⟩ ?_
      refine gr_st hI15 FI15 rfl rfl ⟨⟨by show 0 ≤ _; omega, by show _ ≤ 48; omega⟩, trivial⟩ (fun I27 hI27 FI27 q28 p28 => ?_)
      have t29 := p28 0 71 (fun q => absurd q.1 (by decide))
      have t30 := p28 0 72 (fun q => absurd q.1 (by decide))
      have t31 := p28 0 73 (fun q => absurd q.1 (by decide))
      have t32 := p28 0 69 (fun q => absurd q.1 (by decide))
      have t33 := p28 0 6 (fun q => absurd q.1 (by decide))
      have t34 := p28 13 (Int.toNat ((I 0 6))) (fun q => absurd q.1 (by decide))
      have f35 := (gr_b_0_71 hI27)
      have f36 := (gr_b_0_72 hI27)
      have f37 := (gr_b_0_73 hI27)
      have f38 := (gr_b_0_69 hI27)
      have f39 := (gr_b_0_6 hI27)
      have KVF_I27 := gr_VF_v KVF_I15 p28 (by omega)
      have t40 := KVF_I27 (Int.toNat ((I 0 6))) (by omega)
      have A41 := gr_ATp_sr e3_17 p28 rfl
      refine gv_run 7 true hD (pcₚ := 284) (lvₚ := [(8, .inl ((48 * (I 0 6)) + (I15 14 (Int.toNat ((I 0 6)))))), (0, .inr (.inr (some 0))), (1, .inl (I 0 6)), (4, .inl v4_8), (6, .inl v6_17), (7, .inl v7_17)]) (stₚ := [.inr (.inr (some 62)), .inl ((48 * (I 0 6)) + (I15 14 (Int.toNat ((I 0 6))))), .inr (.inr (some 21))]) (hₚ := gr_h I27 J16) (C := (((((((True ∧ True) ∧ True) ∧ True) ∧ True) ∧ True) ∧ True) ∧ True)) rfl ⟨⟨⟨⟨⟨⟨⟨trivial, trivial⟩, trivial⟩, trivial⟩, trivial⟩, trivial⟩, trivial⟩, trivial⟩ ?_
      refine gv_run 2 true hD (pcₚ := 287) (lvₚ := [(8, .inl ((48 * (I 0 6)) + (I15 14 (Int.toNat ((I 0 6)))))), (0, .inr (.inr (some 0))), (1, .inl (I 0 6)), (4, .inl v4_8), (6, .inl v6_17), (7, .inl v7_17)]) (stₚ := [.inr (.inl (J16 62 (Int.toNat v7_17))), .inl ((48 * (I 0 6)) + (I15 14 (Int.toNat ((I 0 6))))), .inr (.inr (some 21))]) (hₚ := gr_h I27 J16) (C := ((True ∧ True) ∧ (0 ≤ v7_17 ∧ v7_17 < ((6 : Nat) : Int)))) rfl ⟨⟨trivial, trivial⟩, ⟨by omega, by omega⟩⟩ ?_
      refine gv_run 1 true hD (pcₚ := 288) (lvₚ := [(8, .inl ((48 * (I 0 6)) + (I15 14 (Int.toNat ((I 0 6)))))), (0, .inr (.inr (some 0))), (1, .inl (I 0 6)), (4, .inl v4_8), (6, .inl v6_17), (7, .inl v7_17)]) (stₚ := []) (hₚ := gz_up (gr_h I27 J16) 21 (Int.toNat (((48 * (I 0 6)) + (I15 14 (Int.toNat ((I 0 6))))))) (.inr (.inl ((J16 62 (Int.toNat v7_17)))))) (C := (True ∧ (0 ≤ (((48 * (I 0 6)) + (I15 14 (Int.toNat ((I 0 6)))))) ∧ (((48 * (I 0 6)) + (I15 14 (Int.toNat ((I 0 6)))))) < ((384 : Nat) : Int)))) rfl ⟨trivial, ⟨by omega, by omega⟩⟩ ?_
      refine gr_stJq FJ16 rfl rfl (fun J42 FJ42 q43 p43 => ?_)
      have A44 := gr_ATp_sj' A41 p43 rfl
      refine gv_run 4 true hD (pcₚ := 296) (lvₚ := [(8, .inl ((48 * (I 0 6)) + (I15 14 (Int.toNat ((I 0 6)))))), (0, .inr (.inr (some 0))), (1, .inl (I 0 6)), (4, .inl v4_8), (6, .inl v6_17), (7, .inl v7_17)]) (stₚ := [.inl v6_17, .inl ((48 * (I 0 6)) + (I15 14 (Int.toNat ((I 0 6))))), .inr (.inr (some 24))]) (hₚ := gr_h I27 J42) (C := ((((True ∧ True) ∧ True) ∧ True) ∧ True)) rfl ⟨⟨⟨⟨trivial, trivial⟩, trivial⟩, trivial⟩, trivial⟩ ?_
      refine gv_run 1 true hD (pcₚ := 297) (lvₚ := [(8, .inl ((48 * (I 0 6)) + (I15 14 (Int.toNat ((I 0 6)))))), (0, .inr (.inr (some 0))), (1, .inl (I 0 6)), (4, .inl v4_8), (6, .inl v6_17), (7, .inl v7_17)]) (stₚ := []) (hₚ := gz_up (gr_h I27 J42) 24 (Int.toNat (((48 * (I 0 6)) + (I15 14 (Int.toNat ((I 0 6))))))) (.inl v6_17)) (C := (True ∧ (0 ≤ (((48 * (I 0 6)) + (I15 14 (Int.toNat ((I 0 6)))))) ∧ (((48 * (I 0 6)) + (I15 14 (Int.toNat ((I 0 6)))))) < ((384 : Nat) : Int)))) rfl ⟨trivial, ⟨by omega, by omega⟩⟩ ?_
      refine gr_st hI27 FI27 rfl rfl ⟨⟨by show 0 ≤ _; omega, by show _ ≤ 7; omega⟩, trivial⟩ (fun I45 hI45 FI45 q46 p46 => ?_)
      have t47 := p46 0 71 (fun q => absurd q.1 (by decide))
      have t48 := p46 0 72 (fun q => absurd q.1 (by decide))
      have t49 := p46 0 73 (fun q => absurd q.1 (by decide))
      have t50 := p46 0 69 (fun q => absurd q.1 (by decide))
      have t51 := p46 0 6 (fun q => absurd q.1 (by decide))
      have t52 := p46 13 (Int.toNat ((I 0 6))) (fun q => absurd q.1 (by decide))
      have t53 := p46 14 (Int.toNat ((I 0 6))) (fun q => absurd q.1 (by decide))
      have f54 := (gr_b_0_71 hI45)
      have f55 := (gr_b_0_72 hI45)
      have f56 := (gr_b_0_73 hI45)
      have f57 := (gr_b_0_69 hI45)
      have f58 := (gr_b_0_6 hI45)
      have KVF_I45 := gr_VF_fr KVF_I27 (fun k => p46 14 k (fun q => absurd q.1 (by decide))) (fun k => p46 13 k (fun q => absurd q.1 (by decide)))
      have t59 := KVF_I45 (Int.toNat ((I 0 6))) (by omega)
      have A60 := gr_ATp_sr A44 p46 rfl
      refine gv_run 6 true hD (pcₚ := 307) (lvₚ := [(8, .inl ((48 * (I 0 6)) + (I15 14 (Int.toNat ((I 0 6)))))), (0, .inr (.inr (some 0))), (1, .inl (I 0 6)), (4, .inl v4_8), (6, .inl v6_17), (7, .inl v7_17)]) (stₚ := [.inl (v7_17 + 1), .inl ((48 * (I 0 6)) + (I15 14 (Int.toNat ((I 0 6))))), .inr (.inr (some 25))]) (hₚ := gr_h I45 J42) (C := ((((((True ∧ True) ∧ True) ∧ True) ∧ True) ∧ True) ∧ True)) rfl ⟨⟨⟨⟨⟨⟨trivial, trivial⟩, trivial⟩, trivial⟩, trivial⟩, trivial⟩, trivial⟩ ?_
      refine gv_run 1 true hD (pcₚ := 308) (lvₚ := [(8, .inl ((48 * (I 0 6)) + (I15 14 (Int.toNat ((I 0 6)))))), (0, .inr (.inr (some 0))), (1, .inl (I 0 6)), (4, .inl v4_8), (6, .inl v6_17), (7, .inl v7_17)]) (stₚ := []) (hₚ := gz_up (gr_h I45 J42) 25 (Int.toNat (((48 * (I 0 6)) + (I15 14 (Int.toNat ((I 0 6))))))) (.inl (v7_17 + 1))) (C := (True ∧ (0 ≤ (((48 * (I 0 6)) + (I15 14 (Int.toNat ((I 0 6)))))) ∧ (((48 * (I 0 6)) + (I15 14 (Int.toNat ((I 0 6)))))) < ((384 : Nat) : Int)))) rfl ⟨trivial, ⟨by omega, by omega⟩⟩ ?_
      refine gr_st hI45 FI45 rfl rfl ⟨⟨by show 0 ≤ _; omega, by show _ ≤ 6; omega⟩, trivial⟩ (fun I61 hI61 FI61 q62 p62 => ?_)
      have t63 := p62 0 71 (fun q => absurd q.1 (by decide))
      have t64 := p62 0 72 (fun q => absurd q.1 (by decide))
      have t65 := p62 0 73 (fun q => absurd q.1 (by decide))
      have t66 := p62 0 69 (fun q => absurd q.1 (by decide))
      have t67 := p62 0 6 (fun q => absurd q.1 (by decide))
      have t68 := p62 13 (Int.toNat ((I 0 6))) (fun q => absurd q.1 (by decide))
      have t69 := p62 14 (Int.toNat ((I 0 6))) (fun q => absurd q.1 (by decide))
      have f70 := (gr_b_0_71 hI61)
      have f71 := (gr_b_0_72 hI61)
      have f72 := (gr_b_0_73 hI61)
      have f73 := (gr_b_0_69 hI61)
      have f74 := (gr_b_0_6 hI61)
      have KVF_I61 := gr_VF_fr KVF_I45 (fun k => p62 14 k (fun q => absurd q.1 (by decide))) (fun k => p62 13 k (fun q => absurd q.1 (by decide)))
      have t75 := KVF_I61 (Int.toNat ((I 0 6))) (by omega)
      have A76 := gr_ATp_sr A60 p62 rfl
      refine gv_run 2 true hD (pcₚ := 249) (lvₚ := [(7, .inl (v7_17 + 1)), (8, .inl ((48 * (I 0 6)) + (I15 14 (Int.toNat ((I 0 6)))))), (0, .inr (.inr (some 0))), (1, .inl (I 0 6)), (4, .inl v4_8), (6, .inl v6_17)]) (stₚ := []) (hₚ := gr_h I61 J42) (C := ((True ∧ True) ∧ True)) rfl ⟨⟨trivial, trivial⟩, trivial⟩ ?_
      refine gv_pick [2, 3, 4, 5, 0] rfl ?_
      exact ih249 I61 J42 v6_17 (v7_17 + 1) p_17 (by omega) hI61 FI61 FJ42 KVF_I61 (by omega) A76 e4_17 e5_17 e6_17 (by rw [show Int.toNat (v7_17 + 1) = Int.toNat v7_17 + 1 from by omega]; exact gs_Ufe_s e7_17 ⟨by omega, (gr_b_14 hI (Int.toNat (I 0 6))).1⟩ rfl p28 q28 rfl p43 (q43.trans (e8_17 _ (by omega))) p46 (q46.trans (by omega)) p62 (q62.trans (by omega))) (fun i hi => ((p43 62 i (fun q => absurd q.1 (by decide)))).trans (e8_17 i (by omega))) (by omega)
set_option maxHeartbeats 8000000 in
set_option maxRecDepth 100000 in
theorem r_feature_p_L77 {ws0 : List Cond} {tb : String → gz_T} (hws : ∀ w ∈ gr_ws, w ∈ ws0) (htb : tb RX13 = gr_T) (ext : gz_Sh) (β : Int → Int) (N9 : Int) (p9 : Int) (I : gr_I) (J : gr_J) (hI : gr_Inv I)   (x0 : I 0 71 = 5 ∨ I 0 73 ≤ I 0 69) (x1 : I 0 72 ≤ I 0 69) (x2 : I 0 71 = 0 ∨ (I 0 72 < I 0 73 ∧ I 0 72 < I 0 69)) (x3 : I 0 71 = 3 → 2 ≤ I 0 73 - I 0 72 ∧ I 0 73 - I 0 72 ≤ 14) (x4 : I 0 72 ≤ I 0 73) (x5 : 0 ≤ I 0 6) (x6 : gr_ATp β N9 p9 I J) (x7 : 0 ≤ p9) (KVF_I : gr_VF I) : ∀ (n : Nat) (I6 : gr_I) (J7 : gr_J) (v1_8 : Int) (v2_8 : Int64) (v4_8 : Int) (v5_8 : Int) (p_8 : Int), (1001 - I6 0 72).toNat < n → gr_Inv I6 → gr_fr [71, 72, 73, 74, 75, 76, 77] [13, 14, 20, 21, 24, 25, 62] I I6 → gr_fj [71, 72, 73, 74, 75, 76, 77] [13, 14, 20, 21, 24, 25, 62] J J7 → gr_VF I6 → ((0 ≤ v1_8 ∧ v1_8 ≤ 7) ∧ (0 ≤ v4_8 ∧ v4_8 ≤ 6) ∧ (0 ≤ v5_8 ∧ v5_8 ≤ 1000) ∧ (0 ≤ p_8) ∧ (I6 0 71 = 5 ∨ I6 0 73 ≤ I6 0 69) ∧ (I6 0 72 ≤ I6 0 69) ∧ (I6 0 71 = 0 ∨ (I6 0 72 < I6 0 73 ∧ I6 0 72 < I6 0 69)) ∧ (I6 0 71 = 3 → 2 ≤ I6 0 73 - I6 0 72 ∧ I6 0 73 - I6 0 72 ≤ 14) ∧ (I6 0 72 ≤ I6 0 73) ∧ (I6 0 69 = I 0 69) ∧ (I 0 73 ≤ I6 0 73) ∧ (I 0 72 ≤ I6 0 72) ∧ (I6 0 6 = I 0 6)) → (gr_ATp β N9 p_8 I6 J7) → (v2_8 = (gs_rn β N9 p9)) → ((gs_fea β N9 I J (I 0 78) p9) = gs_fea1 β N9 I (I 0 78) (gs_need β N9 61 (gs_X β N9 p9)) (gs_vl β N9 I J (gs_need β N9 61 (gs_X β N9 p9)) 6 0)) → (gs_vl β N9 I J (gs_need β N9 61 (gs_X β N9 p9)) 6 0 = gs_vl β N9 I J (gs_need β N9 61 (gs_X β N9 p9)) (Int.toNat (6 - v4_8)) v4_8) → (gs_cn β N9 7 (gs_need β N9 61 (gs_X β N9 p9)) = v4_8 + gs_cn β N9 (Int.toNat (7 - v4_8)) p_8) → (p_8 = gs_nx β N9 (Int.toNat v4_8) (gs_need β N9 61 (gs_X β N9 p9))) → (∀ i : Nat, i < Int.toNat v4_8 → J7 62 i = gs_rn β N9 (gs_nx β N9 i (gs_need β N9 61 (gs_X β N9 p9)))) → (v5_8 = gs_A β N9 (gs_need β N9 61 (gs_X β N9 p9))) → (v1_8 = I 0 6) → ((∀ k, I6 13 k = I 13 k) ∧ (∀ k, I6 14 k = I 14 k) ∧ (∀ k, I6 24 k = I 24 k) ∧ (∀ k, I6 25 k = I 25 k) ∧ (∀ k, J7 20 k = J 20 k) ∧ (∀ k, J7 21 k = J 21 k)) → gv_X (gr_E ws0 tb 11 (yX13_feature, cX13_feature, 9, (some .boolean)) kX13_feature) (gv_Q cX13_feature (some .boolean) (gr_sh ++ ext) (fun r hₚ => (∃ (Iₚ : gr_I) (Jₚ : gr_J), hₚ = gr_h Iₚ Jₚ ∧ gr_Inv Iₚ ∧ gr_fr [71, 72, 73, 74, 75, 76, 77] [13, 14, 20, 21, 24, 25, 62] I Iₚ ∧ gr_fj [71, 72, 73, 74, 75, 76, 77] [13, 14, 20, 21, 24, 25, 62] J Jₚ ∧ gr_VF Iₚ ∧ (∃ z : Int, r = some (.inl z) ∧ 0 ≤ z ∧ z ≤ 1 ∧ (Iₚ 0 71 = 5 ∨ Iₚ 0 73 ≤ Iₚ 0 69) ∧ (Iₚ 0 72 ≤ Iₚ 0 69) ∧ (Iₚ 0 71 = 0 ∨ (Iₚ 0 72 < Iₚ 0 73 ∧ Iₚ 0 72 < Iₚ 0 69)) ∧ (Iₚ 0 71 = 3 → 2 ≤ Iₚ 0 73 - Iₚ 0 72 ∧ Iₚ 0 73 - Iₚ 0 72 ≤ 14) ∧ (Iₚ 0 72 ≤ Iₚ 0 73) ∧ (Iₚ 0 69 = I 0 69) ∧ (I 0 73 ≤ Iₚ 0 73) ∧ (I 0 72 ≤ Iₚ 0 72) ∧ (gs_Or z (0 ≤ (gs_fea β N9 I J (I 0 78) p9) ∧ gr_ATp β N9 (gs_fea β N9 I J (I 0 78) p9) Iₚ Jₚ ∧ gs_Ufe (gs_rn β N9 p9) (fun i => gs_rn β N9 (gs_nx β N9 i (gs_need β N9 61 (gs_X β N9 p9)))) (Int.toNat (gs_cn β N9 7 (gs_need β N9 61 (gs_X β N9 p9)))) I J Iₚ Jₚ) ((gs_fea β N9 I J (I 0 78) p9) < 0 ∧ Iₚ 0 77 = -1 - (gs_fea β N9 I J (I 0 78) p9) ∧ gs_Sfe I J Iₚ Jₚ)))))) (77, [(0, .inr (.inr (some 0))), (1, .inl v1_8), (2, .inr (.inl v2_8)), (4, .inl v4_8), (5, .inl v5_8)], [], gr_sh ++ ext, gr_h I6 J7) := by
  have FI : gr_fr [71, 72, 73, 74, 75, 76, 77] [13, 14, 20, 21, 24, 25, 62] I I := fun _ _ _ => rfl
  have FJ : gr_fj [71, 72, 73, 74, 75, 76, 77] [13, 14, 20, 21, 24, 25, 62] J J := fun _ _ _ => rfl
  have hD : gv_D (gr_E ws0 tb 11 (yX13_feature, cX13_feature, 9, (some .boolean)) kX13_feature) := gq_of oX13_feature
  intro n
  induction n with
  | zero => intro I6 J7 v1_8 v2_8 v4_8 v5_8 p_8 hn; omega
  | succ n ih77 =>
    intro I6 J7 v1_8 v2_8 v4_8 v5_8 p_8 hn hI6 FI6 FJ7 KVF_I6 m_8 e1_8 e2_8 e3_8 e4_8 e5_8 e6_8 e7_8 e8_8 e9_8 e10_8
    obtain ⟨hv1_8, hv4_8, hv5_8, e0_8, e11_8, e12_8, e13_8, e14_8, e15_8, e16_8, e17_8, e18_8, e19_8⟩ := m_8
    have q9_8 := e9_8
    subst q9_8
    have f9 := (gr_b_0_71 hI6)
    have f10 := (gr_b_0_72 hI6)
    have f11 := (gr_b_0_73 hI6)
    have f12 := (gr_b_0_69 hI6)
    have f13 := (gr_b_0_6 hI6)
    have t14 := gr_ATp_l e1_8
    have L249 : ∀ (n : Nat) (I15 : gr_I) (J16 : gr_J) (v6_17 : Int) (v7_17 : Int) (p_17 : Int), (7 - v7_17).toNat < n → gr_Inv I15 → gr_fr [71, 72, 73, 74, 75, 76, 77] [13, 14, 20, 21, 24, 25, 62] I I15 → gr_fj [71, 72, 73, 74, 75, 76, 77] [13, 14, 20, 21, 24, 25, 62] J J16 → gr_VF I15 → ((0 ≤ (I 0 6) ∧ (I 0 6) ≤ 7) ∧ (0 ≤ v4_8 ∧ v4_8 ≤ 6) ∧ (0 ≤ v6_17 ∧ v6_17 ≤ 7) ∧ (0 ≤ v7_17 ∧ v7_17 ≤ 6) ∧ (I15 14 (Int.toNat (I 0 6)) + v4_8 - v7_17 ≤ 6 * I15 13 (Int.toNat (I 0 6))) ∧ (I15 13 (Int.toNat (I 0 6)) ≤ 8) ∧ (0 ≤ p_17) ∧ (I15 0 71 = 5 ∨ I15 0 73 ≤ I15 0 69) ∧ (I15 0 72 ≤ I15 0 69) ∧ (I15 0 71 = 0 ∨ (I15 0 72 < I15 0 73 ∧ I15 0 72 < I15 0 69)) ∧ (I15 0 71 = 3 → 2 ≤ I15 0 73 - I15 0 72 ∧ I15 0 73 - I15 0 72 ≤ 14) ∧ (I15 0 72 ≤ I15 0 73) ∧ (I15 0 69 = I 0 69) ∧ (I 0 73 ≤ I15 0 73) ∧ (I 0 72 ≤ I15 0 72) ∧ (I15 0 6 = I 0 6)) → (gr_ATp β N9 p_17 I15 J16) → ((gs_fea β N9 I J (I 0 78) p9) = p_17) → (v4_8 = gs_cn β N9 7 (gs_need β N9 61 (gs_X β N9 p9))) → (v6_17 = I 13 (Int.toNat (I 0 6))) → (gs_Ufe (gs_rn β N9 p9) (fun i => gs_rn β N9 (gs_nx β N9 i (gs_need β N9 61 (gs_X β N9 p9)))) (Int.toNat v7_17) I J I15 J16) → (∀ i : Nat, i < Int.toNat v4_8 → J16 62 i = gs_rn β N9 (gs_nx β N9 i (gs_need β N9 61 (gs_X β N9 p9)))) → (v7_17 ≤ v4_8) → gv_X (gr_E ws0 tb 11 (yX13_feature, cX13_feature, 9, (some .boolean)) kX13_feature) (gv_Q cX13_feature (some .boolean) (gr_sh ++ ext) (fun r hₚ => (∃ (Iₚ : gr_I) (Jₚ : gr_J), hₚ = gr_h Iₚ Jₚ ∧ gr_Inv Iₚ ∧ gr_fr [71, 72, 73, 74, 75, 76, 77] [13, 14, 20, 21, 24, 25, 62] I Iₚ ∧ gr_fj [71, 72, 73, 74, 75, 76, 77] [13, 14, 20, 21, 24, 25, 62] J Jₚ ∧ gr_VF Iₚ ∧ (∃ z : Int, r = some (.inl z) ∧ 0 ≤ z ∧ z ≤ 1 ∧ (Iₚ 0 71 = 5 ∨ Iₚ 0 73 ≤ Iₚ 0 69) ∧ (Iₚ 0 72 ≤ Iₚ 0 69) ∧ (Iₚ 0 71 = 0 ∨ (Iₚ 0 72 < Iₚ 0 73 ∧ Iₚ 0 72 < Iₚ 0 69)) ∧ (Iₚ 0 71 = 3 → 2 ≤ Iₚ 0 73 - Iₚ 0 72 ∧ Iₚ 0 73 - Iₚ 0 72 ≤ 14) ∧ (Iₚ 0 72 ≤ Iₚ 0 73) ∧ (Iₚ 0 69 = I 0 69) ∧ (I 0 73 ≤ Iₚ 0 73) ∧ (I 0 72 ≤ Iₚ 0 72) ∧ (gs_Or z (0 ≤ (gs_fea β N9 I J (I 0 78) p9) ∧ gr_ATp β N9 (gs_fea β N9 I J (I 0 78) p9) Iₚ Jₚ ∧ gs_Ufe (gs_rn β N9 p9) (fun i => gs_rn β N9 (gs_nx β N9 i (gs_need β N9 61 (gs_X β N9 p9)))) (Int.toNat (gs_cn β N9 7 (gs_need β N9 61 (gs_X β N9 p9)))) I J Iₚ Jₚ) ((gs_fea β N9 I J (I 0 78) p9) < 0 ∧ Iₚ 0 77 = -1 - (gs_fea β N9 I J (I 0 78) p9) ∧ gs_Sfe I J Iₚ Jₚ)))))) (249, [(0, .inr (.inr (some 0))), (1, .inl (I 0 6)), (4, .inl v4_8), (6, .inl v6_17), (7, .inl v7_17)], [], gr_sh ++ ext, gr_h I15 J16) := r_feature_p_L77_L249 (ws0 := ws0) (tb := tb) hws htb ext β N9 p9 I J hI x0 x1 x2 x3 x4 x5 x6 x7 KVF_I v4_8
    have f77 := (gr_b_0_71 hI6)
    refine gv_run 3 true hD (pcₚ := 82) (lvₚ := [(0, .inr (.inr (some 0))), (1, .inl (I 0 6)), (2, .inr (.inl v2_8)), (4, .inl v4_8), (5, .inl v5_8)]) (stₚ := [.inl 1, .inl (I6 0 71)]) (hₚ := gr_h I6 J7) (C := (((True ∧ True) ∧ True) ∧ True)) rfl ⟨⟨⟨trivial, trivial⟩, trivial⟩, trivial⟩ ?_
    refine gv_icmp_ne (t := 166) hD rfl rfl ⟨⟨by omega, by omega⟩, ⟨by omega, by omega⟩⟩ (fun c78 => ?_) (fun c78 => ?_)
    · have t79 := gr_ATp_k e1_8 (c := 1) ⟨by omega, by omega⟩
      refine gv_run 2 true hD (pcₚ := 169) (lvₚ := [(0, .inr (.inr (some 0))), (1, .inl (I 0 6)), (2, .inr (.inl v2_8)), (4, .inl v4_8), (5, .inl v5_8)]) (stₚ := [.inl 59, .inr (.inr (some 0))]) (hₚ := gr_h I6 J7) (C := ((True ∧ True) ∧ True)) rfl ⟨⟨trivial, trivial⟩, trivial⟩ ?_
      obtain ⟨r80, h80, E80, P80⟩ := r_sign_p (ws0 := ws0) (tb := tb) hws htb ext β N9 p_8 I6 J7 hI6 59 ⟨by omega, by omega⟩ (by omega) e1_8 (by omega)
      obtain ⟨rfl, ⟨z80, rfl, q80⟩⟩ := P80
      refine gv_callV hD rfl (As := [.inl 59]) (st := []) rfl (by decide) rfl rfl (gr_lV hws rfl) (Nat.le_of_ble_eq_true rfl) (gz_Ev_mono (d := 1) (by decide) E80) ?_
      show gv_X _ _ (172, [(0, .inr (.inr (some 0))), (1, .inl (I 0 6)), (2, .inr (.inl v2_8)), (4, .inl v4_8), (5, .inl v5_8)], [.inl z80], gr_sh ++ ext, gr_h I6 J7)
      refine gv_if_ne (t := 181) hD rfl rfl ⟨by omega, by omega⟩ (fun c81 => ?_) (fun c81 => ?_)
      · refine gv_run 2 true hD (pcₚ := 184) (lvₚ := [(0, .inr (.inr (some 0))), (1, .inl (I 0 6)), (2, .inr (.inl v2_8)), (4, .inl v4_8), (5, .inl v5_8)]) (stₚ := [.inl 1, .inl v4_8]) (hₚ := gr_h I6 J7) (C := ((True ∧ True) ∧ True)) rfl ⟨⟨trivial, trivial⟩, trivial⟩ ?_
        refine gv_icmp_ne (t := 195) hD rfl rfl ⟨⟨by omega, by omega⟩, ⟨by omega, by omega⟩⟩ (fun c82 => ?_) (fun c82 => ?_)
        · have f83 := (gr_b_13 hI6 (Int.toNat ((I 0 6))))
          refine gv_run 5 true hD (pcₚ := 202) (lvₚ := [(0, .inr (.inr (some 0))), (1, .inl (I 0 6)), (2, .inr (.inl v2_8)), (4, .inl v4_8), (5, .inl v5_8)]) (stₚ := [.inl (I6 13 (Int.toNat ((I 0 6)))), .inr (.inr (some 0))]) (hₚ := gr_h I6 J7) (C := (((((True ∧ True) ∧ True) ∧ True) ∧ True) ∧ (0 ≤ (I 0 6) ∧ (I 0 6) < ((8 : Nat) : Int)))) rfl ⟨⟨⟨⟨⟨trivial, trivial⟩, trivial⟩, trivial⟩, trivial⟩, ⟨by omega, by omega⟩⟩ ?_
          refine gv_run 1 true hD (pcₚ := 204) (lvₚ := [(0, .inr (.inr (some 0))), (1, .inl (I 0 6)), (2, .inr (.inl v2_8)), (4, .inl v4_8), (5, .inl v5_8)]) (stₚ := [.inl 8, .inl (I6 13 (Int.toNat ((I 0 6)))), .inr (.inr (some 0))]) (hₚ := gr_h I6 J7) (C := (True ∧ True)) rfl ⟨trivial, trivial⟩ ?_
          have t84 := (show I6 13 (Int.toNat (I 0 6)) = I 13 (Int.toNat (I 0 6)) from (e10_8.1 _))
          refine gv_icmp_ge (t := 211) hD rfl rfl ⟨⟨by omega, by omega⟩, ⟨by omega, by omega⟩⟩ (fun c85 => ?_) (fun c85 => ?_)
          · refine gv_run 1 true hD (pcₚ := 212) (lvₚ := [(0, .inr (.inr (some 0))), (1, .inl (I 0 6)), (2, .inr (.inl v2_8)), (4, .inl v4_8), (5, .inl v5_8)]) (stₚ := [.inl 0, .inr (.inr (some 0))]) (hₚ := gr_h I6 J7) (C := (True ∧ True)) rfl ⟨trivial, trivial⟩ ?_
            obtain ⟨r86, h86, E86, P86⟩ := r_done_p (ws0 := ws0) (tb := tb) hws htb ext β N9 p_8 I6 J7 hI6 0 ⟨by omega, by omega⟩ (by omega) (by omega) (by omega) (by omega) (by omega) e1_8 (by omega)
            obtain ⟨I87, J88, rfl, hI87, g86, k86, ⟨z86, rfl, q86⟩⟩ := P86
            have FI87 := gr_frt FI6 g86 rfl rfl
            have FJ88 := gr_fjt FJ7 k86 rfl rfl
            have t89 := g86 0 69 rfl
            have t90 := g86 0 6 rfl
            have t91 := g86 13 (Int.toNat ((I 0 6))) rfl
            have t92 := g86 14 (Int.toNat ((I 0 6))) rfl
            have f93 := (gr_b_0_71 hI87)
            have f94 := (gr_b_0_72 hI87)
            have f95 := (gr_b_0_73 hI87)
            have f96 := (gr_b_0_69 hI87)
            have f97 := (gr_b_0_6 hI87)
            have KVF_I87 := gr_VF_fr KVF_I6 (fun k => g86 14 k rfl) (fun k => g86 13 k rfl)
            have t98 := KVF_I87 (Int.toNat ((I 0 6))) (by omega)
            refine gv_callV hD rfl (As := [.inl 0]) (st := []) rfl (by decide) rfl rfl (gr_lV hws rfl) (Nat.le_of_ble_eq_true rfl) (gz_Ev_mono (d := 11) (by decide) E86) ?_
            show gv_X _ _ (215, [(0, .inr (.inr (some 0))), (1, .inl (I 0 6)), (2, .inr (.inl v2_8)), (4, .inl v4_8), (5, .inl v5_8)], [.inl z86], gr_sh ++ ext, gr_h I87 J88)
            refine gv_if_ne (t := 220) hD rfl rfl ⟨by omega, by omega⟩ (fun c99 => ?_) (fun c99 => ?_)
            · have Q100 := q86.2.2.2.2.2.2.2.2.2.2.2.2
              rw [FI6 0 78 rfl] at Q100
              obtain ⟨u100, A100⟩ := gs_or1 Q100 (by omega)
              have t101 := gr_ATp_l A100
              have f102 := (gr_b_13 hI87 (Int.toNat ((I 0 6))))
              refine gv_run 5 true hD (pcₚ := 227) (lvₚ := [(0, .inr (.inr (some 0))), (1, .inl (I 0 6)), (2, .inr (.inl v2_8)), (4, .inl v4_8), (5, .inl v5_8)]) (stₚ := [.inl (I87 13 (Int.toNat ((I 0 6)))), .inl (I 0 6), .inr (.inr (some 13))]) (hₚ := gr_h I87 J88) (C := (((((True ∧ True) ∧ True) ∧ True) ∧ True) ∧ (0 ≤ (I 0 6) ∧ (I 0 6) < ((8 : Nat) : Int)))) rfl ⟨⟨⟨⟨⟨trivial, trivial⟩, trivial⟩, trivial⟩, trivial⟩, ⟨by omega, by omega⟩⟩ ?_
              refine gv_run 3 true hD (pcₚ := 230) (lvₚ := [(0, .inr (.inr (some 0))), (1, .inl (I 0 6)), (2, .inr (.inl v2_8)), (4, .inl v4_8), (5, .inl v5_8)]) (stₚ := [.inl ((I87 13 (Int.toNat ((I 0 6)))) + 1), .inl (I 0 6), .inr (.inr (some 13)), .inl (I87 13 (Int.toNat ((I 0 6))))]) (hₚ := gr_h I87 J88) (C := (((True ∧ True) ∧ True) ∧ True)) rfl ⟨⟨⟨trivial, trivial⟩, trivial⟩, trivial⟩ ?_
              refine gv_run 1 true hD (pcₚ := 231) (lvₚ := [(0, .inr (.inr (some 0))), (1, .inl (I 0 6)), (2, .inr (.inl v2_8)), (4, .inl v4_8), (5, .inl v5_8)]) (stₚ := [.inl (I87 13 (Int.toNat ((I 0 6))))]) (hₚ := gz_up (gr_h I87 J88) 13 (Int.toNat ((I 0 6))) (.inl (((I87 13 (Int.toNat ((I 0 6)))) + 1)))) (C := (True ∧ (0 ≤ (I 0 6) ∧ (I 0 6) < ((8 : Nat) : Int)))) rfl ⟨trivial, ⟨by omega, by omega⟩⟩ ?_
              refine gr_st hI87 FI87 rfl rfl ⟨⟨by show 0 ≤ _; omega, by show _ ≤ 8; omega⟩, trivial⟩ (fun I103 hI103 FI103 q104 p104 => ?_)
              have t105 := p104 0 71 (fun q => absurd q.1 (by decide))
              have t106 := p104 0 72 (fun q => absurd q.1 (by decide))
              have t107 := p104 0 73 (fun q => absurd q.1 (by decide))
              have t108 := p104 0 69 (fun q => absurd q.1 (by decide))
              have t109 := p104 0 6 (fun q => absurd q.1 (by decide))
              have t110 := p104 14 (Int.toNat ((I 0 6))) (fun q => absurd q.1 (by decide))
              have f111 := (gr_b_0_71 hI103)
              have f112 := (gr_b_0_72 hI103)
              have f113 := (gr_b_0_73 hI103)
              have f114 := (gr_b_0_69 hI103)
              have f115 := (gr_b_0_6 hI103)
              have KVF_I103 := gr_VF_f KVF_I87 p104 (by omega)
              have t116 := KVF_I103 (Int.toNat ((I 0 6))) (by omega)
              have A117 := gr_ATp_sr A100 p104 rfl
              refine gv_run 7 true hD (pcₚ := 243) (lvₚ := [(6, .inl (I87 13 (Int.toNat ((I 0 6))))), (0, .inr (.inr (some 0))), (1, .inl (I 0 6)), (2, .inr (.inl v2_8)), (4, .inl v4_8), (5, .inl v5_8)]) (stₚ := [.inl (I87 13 (Int.toNat ((I 0 6)))), .inl (8 * (I 0 6)), .inr (.inr (some 20))]) (hₚ := gr_h I103 J88) (C := (((((((True ∧ True) ∧ True) ∧ True) ∧ True) ∧ True) ∧ True) ∧ True)) rfl ⟨⟨⟨⟨⟨⟨⟨trivial, trivial⟩, trivial⟩, trivial⟩, trivial⟩, trivial⟩, trivial⟩, trivial⟩ ?_
              refine gv_run 3 true hD (pcₚ := 246) (lvₚ := [(6, .inl (I87 13 (Int.toNat ((I 0 6))))), (0, .inr (.inr (some 0))), (1, .inl (I 0 6)), (2, .inr (.inl v2_8)), (4, .inl v4_8), (5, .inl v5_8)]) (stₚ := []) (hₚ := gz_up (gr_h I103 J88) 20 (Int.toNat (((8 * (I 0 6)) + (I87 13 (Int.toNat ((I 0 6))))))) (.inr (.inl v2_8))) (C := (((True ∧ True) ∧ True) ∧ (0 ≤ (((8 * (I 0 6)) + (I87 13 (Int.toNat ((I 0 6)))))) ∧ (((8 * (I 0 6)) + (I87 13 (Int.toNat ((I 0 6)))))) < ((64 : Nat) : Int)))) rfl ⟨⟨⟨trivial, trivial⟩, trivial⟩, ⟨by omega, by omega⟩⟩ ?_
              refine gr_stJq FJ88 rfl rfl (fun J118 FJ118 q119 p119 => ?_)
              have A120 := gr_ATp_sj' A117 p119 rfl
              refine gv_run 2 true hD (pcₚ := 249) (lvₚ := [(7, .inl 0), (6, .inl (I87 13 (Int.toNat ((I 0 6))))), (0, .inr (.inr (some 0))), (1, .inl (I 0 6)), (2, .inr (.inl v2_8)), (4, .inl v4_8), (5, .inl v5_8)]) (stₚ := []) (hₚ := gr_h I103 J118) (C := ((True ∧ True) ∧ True)) rfl ⟨⟨trivial, trivial⟩, trivial⟩ ?_
              refine gv_pick [2, 3, 5, 1, 0] rfl ?_
              exact L249 _ I103 J118 ((I87 13 (Int.toNat ((I 0 6))))) 0 ((gs_done β N9 0 (I 0 78) p_8)) (Nat.lt_succ_self _) hI103 FI103 FJ118 KVF_I103 (by omega) A120 (by first | (exfalso; omega) | (rw [e3_8, e4_8, gs_vl_e e6_8 (by omega)]; unfold gs_fea1; have n9 := gs_cn_e (β := β) (N := N9) (m := Int.toNat (7 - v4_8)) (q := p_8) (by omega); (repeat first | rw [if_pos (by omega)] | rw [if_neg (by omega)]))) (by rw [e5_8, gs_cn_e (by omega)]; omega) (((g86 13 _ rfl).trans (e10_8.1 _))) (by have v9 : I87 13 (Int.toNat (I 0 6)) = I 13 (Int.toNat (I 0 6)) := ((g86 13 _ rfl).trans (e10_8.1 _)); exact gs_Ufe_0 (fun j => ⟨((g86 13 j rfl).trans (e10_8.1 j)), ((g86 14 j rfl).trans (e10_8.2.1 j)), ((g86 24 j rfl).trans (e10_8.2.2.1 j)), ((g86 25 j rfl).trans (e10_8.2.2.2.1 j)), ((k86 20 j rfl).trans (e10_8.2.2.2.2.1 j)), ((k86 21 j rfl).trans (e10_8.2.2.2.2.2 j))⟩) (by omega) p104 (by omega) (by omega) p119 (q119.trans e2_8)) (fun i hi => (((p119 62 i (fun q => absurd q.1 (by decide))).trans (k86 62 i rfl))).trans (e7_8 i (by omega))) (by omega)
            · have Q121 := q86.2.2.2.2.2.2.2.2.2.2.2.2
              rw [FI6 0 78 rfl] at Q121
              obtain ⟨u121, u121_⟩ := gs_or0 Q121 (by omega)
              refine gv_run 1 true hD (pcₚ := 219) (lvₚ := [(0, .inr (.inr (some 0))), (1, .inl (I 0 6)), (2, .inr (.inl v2_8)), (4, .inl v4_8), (5, .inl v5_8)]) (stₚ := [.inl 0]) (hₚ := gr_h I87 J88) (C := (True ∧ True)) rfl ⟨trivial, trivial⟩ ?_
              have b122 : (I87 0 71 = 5 ∨ I87 0 73 ≤ I87 0 69) ∧ (I87 0 72 ≤ I87 0 69) ∧ (I87 0 71 = 0 ∨ (I87 0 72 < I87 0 73 ∧ I87 0 72 < I87 0 69)) ∧ (I87 0 71 = 3 → 2 ≤ I87 0 73 - I87 0 72 ∧ I87 0 73 - I87 0 72 ≤ 14) ∧ (I87 0 72 ≤ I87 0 73) ∧ (I87 0 69 = I 0 69) ∧ (I 0 73 ≤ I87 0 73) ∧ (I 0 72 ≤ I87 0 72) := by omega
              exact gv_zret hD rfl (by omega) ⟨I87, J88, rfl, hI87, FI87, FJ88, KVF_I87, ⟨_, rfl, by omega, by omega, b122.1, b122.2.1, b122.2.2.1, b122.2.2.2.1, b122.2.2.2.2.1, b122.2.2.2.2.2.1, b122.2.2.2.2.2.2.1, b122.2.2.2.2.2.2.2, (Or.inr ⟨by omega, by first | (exfalso; omega) | (rw [e3_8, e4_8, gs_vl_e e6_8 (by omega)]; unfold gs_fea1; have n9 := gs_cn_e (β := β) (N := N9) (m := Int.toNat (7 - v4_8)) (q := p_8) (by omega); (repeat first | rw [if_pos (by omega)] | rw [if_neg (by omega)]); exact ⟨by omega, by omega, (fun j => ⟨((g86 13 j rfl).trans (e10_8.1 j)), ((g86 14 j rfl).trans (e10_8.2.1 j)), ((g86 24 j rfl).trans (e10_8.2.2.1 j)), ((g86 25 j rfl).trans (e10_8.2.2.2.1 j)), ((k86 20 j rfl).trans (e10_8.2.2.2.2.1 j)), ((k86 21 j rfl).trans (e10_8.2.2.2.2.2 j))⟩)⟩)⟩)⟩⟩
          · refine gv_run 2 true hD (pcₚ := 212) (lvₚ := [(0, .inr (.inr (some 0))), (1, .inl (I 0 6)), (2, .inr (.inl v2_8)), (4, .inl v4_8), (5, .inl v5_8)]) (stₚ := [.inl 1, .inr (.inr (some 0))]) (hₚ := gr_h I6 J7) (C := ((True ∧ True) ∧ True)) rfl ⟨⟨trivial, trivial⟩, trivial⟩ ?_
            obtain ⟨r123, h123, E123, P123⟩ := r_done_p (ws0 := ws0) (tb := tb) hws htb ext β N9 p_8 I6 J7 hI6 1 ⟨by omega, by omega⟩ (by omega) (by omega) (by omega) (by omega) (by omega) e1_8 (by omega)
            obtain ⟨I124, J125, rfl, hI124, g123, k123, ⟨z123, rfl, q123⟩⟩ := P123
            have FI124 := gr_frt FI6 g123 rfl rfl
            have FJ125 := gr_fjt FJ7 k123 rfl rfl
            have t126 := g123 0 69 rfl
            have t127 := g123 0 6 rfl
            have t128 := g123 13 (Int.toNat ((I 0 6))) rfl
            have t129 := g123 14 (Int.toNat ((I 0 6))) rfl
            have f130 := (gr_b_0_71 hI124)
            have f131 := (gr_b_0_72 hI124)
            have f132 := (gr_b_0_73 hI124)
            have f133 := (gr_b_0_69 hI124)
            have f134 := (gr_b_0_6 hI124)
            have KVF_I124 := gr_VF_fr KVF_I6 (fun k => g123 14 k rfl) (fun k => g123 13 k rfl)
            have t135 := KVF_I124 (Int.toNat ((I 0 6))) (by omega)
            refine gv_callV hD rfl (As := [.inl 1]) (st := []) rfl (by decide) rfl rfl (gr_lV hws rfl) (Nat.le_of_ble_eq_true rfl) (gz_Ev_mono (d := 11) (by decide) E123) ?_
            show gv_X _ _ (215, [(0, .inr (.inr (some 0))), (1, .inl (I 0 6)), (2, .inr (.inl v2_8)), (4, .inl v4_8), (5, .inl v5_8)], [.inl z123], gr_sh ++ ext, gr_h I124 J125)
            refine gv_if_ne (t := 220) hD rfl rfl ⟨by omega, by omega⟩ (fun c136 => ?_) (fun c136 => ?_)
            · have Q137 := q123.2.2.2.2.2.2.2.2.2.2.2.2
              rw [FI6 0 78 rfl] at Q137
              obtain ⟨u137, A137⟩ := gs_or1 Q137 (by omega)
              have t138 := gr_ATp_l A137
              have f139 := (gr_b_13 hI124 (Int.toNat ((I 0 6))))
              refine gv_run 5 true hD (pcₚ := 227) (lvₚ := [(0, .inr (.inr (some 0))), (1, .inl (I 0 6)), (2, .inr (.inl v2_8)), (4, .inl v4_8), (5, .inl v5_8)]) (stₚ := [.inl (I124 13 (Int.toNat ((I 0 6)))), .inl (I 0 6), .inr (.inr (some 13))]) (hₚ := gr_h I124 J125) (C := (((((True ∧ True) ∧ True) ∧ True) ∧ True) ∧ (0 ≤ (I 0 6) ∧ (I 0 6) < ((8 : Nat) : Int)))) rfl ⟨⟨⟨⟨⟨trivial, trivial⟩, trivial⟩, trivial⟩, trivial⟩, ⟨by omega, by omega⟩⟩ ?_
              refine gv_run 3 true hD (pcₚ := 230) (lvₚ := [(0, .inr (.inr (some 0))), (1, .inl (I 0 6)), (2, .inr (.inl v2_8)), (4, .inl v4_8), (5, .inl v5_8)]) (stₚ := [.inl ((I124 13 (Int.toNat ((I 0 6)))) + 1), .inl (I 0 6), .inr (.inr (some 13)), .inl (I124 13 (Int.toNat ((I 0 6))))]) (hₚ := gr_h I124 J125) (C := (((True ∧ True) ∧ True) ∧ True)) rfl ⟨⟨⟨trivial, trivial⟩, trivial⟩, trivial⟩ ?_
              refine gv_run 1 true hD (pcₚ := 231) (lvₚ := [(0, .inr (.inr (some 0))), (1, .inl (I 0 6)), (2, .inr (.inl v2_8)), (4, .inl v4_8), (5, .inl v5_8)]) (stₚ := [.inl (I124 13 (Int.toNat ((I 0 6))))]) (hₚ := gz_up (gr_h I124 J125) 13 (Int.toNat ((I 0 6))) (.inl (((I124 13 (Int.toNat ((I 0 6)))) + 1)))) (C := (True ∧ (0 ≤ (I 0 6) ∧ (I 0 6) < ((8 : Nat) : Int)))) rfl ⟨trivial, ⟨by omega, by omega⟩⟩ ?_
              refine gr_st hI124 FI124 rfl rfl ⟨⟨by show 0 ≤ _; omega, by show _ ≤ 8; omega⟩, trivial⟩ (fun I140 hI140 FI140 q141 p141 => ?_)
              have t142 := p141 0 71 (fun q => absurd q.1 (by decide))
              have t143 := p141 0 72 (fun q => absurd q.1 (by decide))
              have t144 := p141 0 73 (fun q => absurd q.1 (by decide))
              have t145 := p141 0 69 (fun q => absurd q.1 (by decide))
              have t146 := p141 0 6 (fun q => absurd q.1 (by decide))
              have t147 := p141 14 (Int.toNat ((I 0 6))) (fun q => absurd q.1 (by decide))
              have f148 := (gr_b_0_71 hI140)
              have f149 := (gr_b_0_72 hI140)
              have f150 := (gr_b_0_73 hI140)
              have f151 := (gr_b_0_69 hI140)
              have f152 := (gr_b_0_6 hI140)
              have KVF_I140 := gr_VF_f KVF_I124 p141 (by omega)
              have t153 := KVF_I140 (Int.toNat ((I 0 6))) (by omega)
              have A154 := gr_ATp_sr A137 p141 rfl
              refine gv_run 7 true hD (pcₚ := 243) (lvₚ := [(6, .inl (I124 13 (Int.toNat ((I 0 6))))), (0, .inr (.inr (some 0))), (1, .inl (I 0 6)), (2, .inr (.inl v2_8)), (4, .inl v4_8), (5, .inl v5_8)]) (stₚ := [.inl (I124 13 (Int.toNat ((I 0 6)))), .inl (8 * (I 0 6)), .inr (.inr (some 20))]) (hₚ := gr_h I140 J125) (C := (((((((True ∧ True) ∧ True) ∧ True) ∧ True) ∧ True) ∧ True) ∧ True)) rfl ⟨⟨⟨⟨⟨⟨⟨trivial, trivial⟩, trivial⟩, trivial⟩, trivial⟩, trivial⟩, trivial⟩, trivial⟩ ?_
              refine gv_run 3 true hD (pcₚ := 246) (lvₚ := [(6, .inl (I124 13 (Int.toNat ((I 0 6))))), (0, .inr (.inr (some 0))), (1, .inl (I 0 6)), (2, .inr (.inl v2_8)), (4, .inl v4_8), (5, .inl v5_8)]) (stₚ := []) (hₚ := gz_up (gr_h I140 J125) 20 (Int.toNat (((8 * (I 0 6)) + (I124 13 (Int.toNat ((I 0 6))))))) (.inr (.inl v2_8))) (C := (((True ∧ True) ∧ True) ∧ (0 ≤ (((8 * (I 0 6)) + (I124 13 (Int.toNat ((I 0 6)))))) ∧ (((8 * (I 0 6)) + (I124 13 (Int.toNat ((I 0 6)))))) < ((64 : Nat) : Int)))) rfl ⟨⟨⟨trivial, trivial⟩, trivial⟩, ⟨by omega, by omega⟩⟩ ?_
              refine gr_stJq FJ125 rfl rfl (fun J155 FJ155 q156 p156 => ?_)
              have A157 := gr_ATp_sj' A154 p156 rfl
              refine gv_run 2 true hD (pcₚ := 249) (lvₚ := [(7, .inl 0), (6, .inl (I124 13 (Int.toNat ((I 0 6))))), (0, .inr (.inr (some 0))), (1, .inl (I 0 6)), (2, .inr (.inl v2_8)), (4, .inl v4_8), (5, .inl v5_8)]) (stₚ := []) (hₚ := gr_h I140 J155) (C := ((True ∧ True) ∧ True)) rfl ⟨⟨trivial, trivial⟩, trivial⟩ ?_
              refine gv_pick [2, 3, 5, 1, 0] rfl ?_
              exact L249 _ I140 J155 ((I124 13 (Int.toNat ((I 0 6))))) 0 ((gs_done β N9 1 (I 0 78) p_8)) (Nat.lt_succ_self _) hI140 FI140 FJ155 KVF_I140 (by omega) A157 (by first | (exfalso; omega) | (rw [e3_8, e4_8, gs_vl_e e6_8 (by omega)]; unfold gs_fea1; have n9 := gs_cn_e (β := β) (N := N9) (m := Int.toNat (7 - v4_8)) (q := p_8) (by omega); (repeat first | rw [if_pos (by omega)] | rw [if_neg (by omega)]))) (by rw [e5_8, gs_cn_e (by omega)]; omega) (((g123 13 _ rfl).trans (e10_8.1 _))) (by have v9 : I124 13 (Int.toNat (I 0 6)) = I 13 (Int.toNat (I 0 6)) := ((g123 13 _ rfl).trans (e10_8.1 _)); exact gs_Ufe_0 (fun j => ⟨((g123 13 j rfl).trans (e10_8.1 j)), ((g123 14 j rfl).trans (e10_8.2.1 j)), ((g123 24 j rfl).trans (e10_8.2.2.1 j)), ((g123 25 j rfl).trans (e10_8.2.2.2.1 j)), ((k123 20 j rfl).trans (e10_8.2.2.2.2.1 j)), ((k123 21 j rfl).trans (e10_8.2.2.2.2.2 j))⟩) (by omega) p141 (by omega) (by omega) p156 (q156.trans e2_8)) (fun i hi => (((p156 62 i (fun q => absurd q.1 (by decide))).trans (k123 62 i rfl))).trans (e7_8 i (by omega))) (by omega)
            · have Q158 := q123.2.2.2.2.2.2.2.2.2.2.2.2
              rw [FI6 0 78 rfl] at Q158
              obtain ⟨u158, u158_⟩ := gs_or0 Q158 (by omega)
              refine gv_run 1 true hD (pcₚ := 219) (lvₚ := [(0, .inr (.inr (some 0))), (1, .inl (I 0 6)), (2, .inr (.inl v2_8)), (4, .inl v4_8), (5, .inl v5_8)]) (stₚ := [.inl 0]) (hₚ := gr_h I124 J125) (C := (True ∧ True)) rfl ⟨trivial, trivial⟩ ?_
              have b159 : (I124 0 71 = 5 ∨ I124 0 73 ≤ I124 0 69) ∧ (I124 0 72 ≤ I124 0 69) ∧ (I124 0 71 = 0 ∨ (I124 0 72 < I124 0 73 ∧ I124 0 72 < I124 0 69)) ∧ (I124 0 71 = 3 → 2 ≤ I124 0 73 - I124 0 72 ∧ I124 0 73 - I124 0 72 ≤ 14) ∧ (I124 0 72 ≤ I124 0 73) ∧ (I124 0 69 = I 0 69) ∧ (I 0 73 ≤ I124 0 73) ∧ (I 0 72 ≤ I124 0 72) := by omega
              exact gv_zret hD rfl (by omega) ⟨I124, J125, rfl, hI124, FI124, FJ125, KVF_I124, ⟨_, rfl, by omega, by omega, b159.1, b159.2.1, b159.2.2.1, b159.2.2.2.1, b159.2.2.2.2.1, b159.2.2.2.2.2.1, b159.2.2.2.2.2.2.1, b159.2.2.2.2.2.2.2, (Or.inr ⟨by omega, by first | (exfalso; omega) | (rw [e3_8, e4_8, gs_vl_e e6_8 (by omega)]; unfold gs_fea1; have n9 := gs_cn_e (β := β) (N := N9) (m := Int.toNat (7 - v4_8)) (q := p_8) (by omega); (repeat first | rw [if_pos (by omega)] | rw [if_neg (by omega)]); exact ⟨by omega, by omega, (fun j => ⟨((g123 13 j rfl).trans (e10_8.1 j)), ((g123 14 j rfl).trans (e10_8.2.1 j)), ((g123 24 j rfl).trans (e10_8.2.2.1 j)), ((g123 25 j rfl).trans (e10_8.2.2.2.1 j)), ((k123 20 j rfl).trans (e10_8.2.2.2.2.1 j)), ((k123 21 j rfl).trans (e10_8.2.2.2.2.2 j))⟩)⟩)⟩)⟩⟩
        · refine gv_run 3 true hD (pcₚ := 191) (lvₚ := [(0, .inr (.inr (some 0))), (1, .inl (I 0 6)), (2, .inr (.inl v2_8)), (4, .inl v4_8), (5, .inl v5_8)]) (stₚ := [.inl v5_8, .inl 5, .inr (.inr (some 0))]) (hₚ := gr_h I6 J7) (C := (((True ∧ True) ∧ True) ∧ True)) rfl ⟨⟨⟨trivial, trivial⟩, trivial⟩, trivial⟩ ?_
          obtain ⟨r160, h160, E160, P160⟩ := r_no_p (ws0 := ws0) (tb := tb) hws htb ext I6 J7 hI6 5 v5_8 ⟨by omega, by omega⟩ ⟨by omega, by omega⟩ 
          obtain ⟨I161, J162, rfl, hI161, g160, k160, ⟨z160, rfl, q160⟩⟩ := P160
          have FI161 := gr_frt FI6 g160 rfl rfl
          have FJ162 := gr_fjt FJ7 k160 rfl rfl
          have t163 := g160 0 71 rfl
          have t164 := g160 0 72 rfl
          have t165 := g160 0 73 rfl
          have t166 := g160 0 69 rfl
          have t167 := g160 0 6 rfl
          have t168 := g160 13 (Int.toNat ((I 0 6))) rfl
          have t169 := g160 14 (Int.toNat ((I 0 6))) rfl
          have f170 := (gr_b_0_71 hI161)
          have f171 := (gr_b_0_72 hI161)
          have f172 := (gr_b_0_73 hI161)
          have f173 := (gr_b_0_69 hI161)
          have f174 := (gr_b_0_6 hI161)
          have KVF_I161 := gr_VF_fr KVF_I6 (fun k => g160 14 k rfl) (fun k => g160 13 k rfl)
          have t175 := KVF_I161 (Int.toNat ((I 0 6))) (by omega)
          have A176 := gr_ATp_F e1_8 g160 k160 rfl
          have t177 := gr_ATp_l A176
          refine gv_callV hD rfl (As := [.inl 5, .inl v5_8]) (st := []) rfl (by decide) rfl rfl (gr_lV hws rfl) (Nat.le_of_ble_eq_true rfl) (gz_Ev_mono (d := 1) (by decide) E160) ?_
          show gv_X _ _ (194, [(0, .inr (.inr (some 0))), (1, .inl (I 0 6)), (2, .inr (.inl v2_8)), (4, .inl v4_8), (5, .inl v5_8)], [.inl z160], gr_sh ++ ext, gr_h I161 J162)
          have b178 : (I161 0 71 = 5 ∨ I161 0 73 ≤ I161 0 69) ∧ (I161 0 72 ≤ I161 0 69) ∧ (I161 0 71 = 0 ∨ (I161 0 72 < I161 0 73 ∧ I161 0 72 < I161 0 69)) ∧ (I161 0 71 = 3 → 2 ≤ I161 0 73 - I161 0 72 ∧ I161 0 73 - I161 0 72 ≤ 14) ∧ (I161 0 72 ≤ I161 0 73) ∧ (I161 0 69 = I 0 69) ∧ (I 0 73 ≤ I161 0 73) ∧ (I 0 72 ≤ I161 0 72) := by omega
          exact gv_zret hD rfl (by omega) ⟨I161, J162, rfl, hI161, FI161, FJ162, KVF_I161, ⟨_, rfl, by omega, by omega, b178.1, b178.2.1, b178.2.2.1, b178.2.2.2.1, b178.2.2.2.2.1, b178.2.2.2.2.2.1, b178.2.2.2.2.2.2.1, b178.2.2.2.2.2.2.2, (Or.inr ⟨by omega, by first | (exfalso; omega) | (rw [e3_8, e4_8, gs_vl_e e6_8 (by omega)]; unfold gs_fea1; have n9 := gs_cn_e (β := β) (N := N9) (m := Int.toNat (7 - v4_8)) (q := p_8) (by omega); (repeat first | rw [if_pos (by omega)] | rw [if_neg (by omega)]); exact ⟨by omega, by omega, (fun j => ⟨((g160 13 j rfl).trans (e10_8.1 j)), ((g160 14 j rfl).trans (e10_8.2.1 j)), ((g160 24 j rfl).trans (e10_8.2.2.1 j)), ((g160 25 j rfl).trans (e10_8.2.2.2.1 j)), ((k160 20 j rfl).trans (e10_8.2.2.2.2.1 j)), ((k160 21 j rfl).trans (e10_8.2.2.2.2.2 j))⟩)⟩)⟩)⟩⟩
      · refine gv_run 2 true hD (pcₚ := 177) (lvₚ := [(0, .inr (.inr (some 0))), (1, .inl (I 0 6)), (2, .inr (.inl v2_8)), (4, .inl v4_8), (5, .inl v5_8)]) (stₚ := [.inl 1, .inr (.inr (some 0))]) (hₚ := gr_h I6 J7) (C := ((True ∧ True) ∧ True)) rfl ⟨⟨trivial, trivial⟩, trivial⟩ ?_
        obtain ⟨r179, h179, E179, P179⟩ := r_no__p (ws0 := ws0) (tb := tb) hws htb ext β N9 p_8 I6 J7 hI6 1 ⟨by omega, by omega⟩ e1_8 (by omega)
        obtain ⟨I180, J181, rfl, hI180, g179, k179, ⟨z179, rfl, q179⟩⟩ := P179
        have FI180 := gr_frt FI6 g179 rfl rfl
        have FJ181 := gr_fjt FJ7 k179 rfl rfl
        have t182 := g179 0 71 rfl
        have t183 := g179 0 72 rfl
        have t184 := g179 0 73 rfl
        have t185 := g179 0 69 rfl
        have t186 := g179 0 6 rfl
        have t187 := g179 13 (Int.toNat ((I 0 6))) rfl
        have t188 := g179 14 (Int.toNat ((I 0 6))) rfl
        have f189 := (gr_b_0_71 hI180)
        have f190 := (gr_b_0_72 hI180)
        have f191 := (gr_b_0_73 hI180)
        have f192 := (gr_b_0_69 hI180)
        have f193 := (gr_b_0_6 hI180)
        have KVF_I180 := gr_VF_fr KVF_I6 (fun k => g179 14 k rfl) (fun k => g179 13 k rfl)
        have t194 := KVF_I180 (Int.toNat ((I 0 6))) (by omega)
        have A195 := gr_ATp_F e1_8 g179 k179 rfl
        have t196 := gr_ATp_l A195
        refine gv_callV hD rfl (As := [.inl 1]) (st := []) rfl (by decide) rfl rfl (gr_lV hws rfl) (Nat.le_of_ble_eq_true rfl) (gz_Ev_mono (d := 2) (by decide) E179) ?_
        show gv_X _ _ (180, [(0, .inr (.inr (some 0))), (1, .inl (I 0 6)), (2, .inr (.inl v2_8)), (4, .inl v4_8), (5, .inl v5_8)], [.inl z179], gr_sh ++ ext, gr_h I180 J181)
        have b197 : (I180 0 71 = 5 ∨ I180 0 73 ≤ I180 0 69) ∧ (I180 0 72 ≤ I180 0 69) ∧ (I180 0 71 = 0 ∨ (I180 0 72 < I180 0 73 ∧ I180 0 72 < I180 0 69)) ∧ (I180 0 71 = 3 → 2 ≤ I180 0 73 - I180 0 72 ∧ I180 0 73 - I180 0 72 ≤ 14) ∧ (I180 0 72 ≤ I180 0 73) ∧ (I180 0 69 = I 0 69) ∧ (I 0 73 ≤ I180 0 73) ∧ (I 0 72 ≤ I180 0 72) := by omega
        exact gv_zret hD rfl (by omega) ⟨I180, J181, rfl, hI180, FI180, FJ181, KVF_I180, ⟨_, rfl, by omega, by omega, b197.1, b197.2.1, b197.2.2.1, b197.2.2.2.1, b197.2.2.2.2.1, b197.2.2.2.2.2.1, b197.2.2.2.2.2.2.1, b197.2.2.2.2.2.2.2, (Or.inr ⟨by omega, by first | (exfalso; omega) | (rw [e3_8, e4_8, gs_vl_e e6_8 (by omega)]; unfold gs_fea1; have n9 := gs_cn_e (β := β) (N := N9) (m := Int.toNat (7 - v4_8)) (q := p_8) (by omega); (repeat first | rw [if_pos (by omega)] | rw [if_neg (by omega)]); exact ⟨by omega, by omega, (fun j => ⟨((g179 13 j rfl).trans (e10_8.1 j)), ((g179 14 j rfl).trans (e10_8.2.1 j)), ((g179 24 j rfl).trans (e10_8.2.2.1 j)), ((g179 25 j rfl).trans (e10_8.2.2.2.1 j)), ((k179 20 j rfl).trans (e10_8.2.2.2.2.1 j)), ((k179 21 j rfl).trans (e10_8.2.2.2.2.2 j))⟩)⟩)⟩)⟩⟩
    · have t198 := gr_ATp_k e1_8 (c := 1) ⟨by omega, by omega⟩
      refine gv_run 2 true hD (pcₚ := 89) (lvₚ := [(0, .inr (.inr (some 0))), (1, .inl (I 0 6)), (2, .inr (.inl v2_8)), (4, .inl v4_8), (5, .inl v5_8)]) (stₚ := [.inl 6, .inl v4_8]) (hₚ := gr_h I6 J7) (C := ((True ∧ True) ∧ True)) rfl ⟨⟨trivial, trivial⟩, trivial⟩ ?_
      refine gv_icmp_ne (t := 98) hD rfl rfl ⟨⟨by omega, by omega⟩, ⟨by omega, by omega⟩⟩ (fun c199 => ?_) (fun c199 => ?_)
      · refine gv_run 7 true hD (pcₚ := 110) (lvₚ := [(0, .inr (.inr (some 0))), (1, .inl (I 0 6)), (2, .inr (.inl v2_8)), (4, .inl v4_8), (5, .inl v5_8)]) (stₚ := [.inr (.inr (some 14)), .inl (48 * (I 0 6)), .inr (.inr (some 21))]) (hₚ := gr_h I6 J7) (C := (((((((True ∧ True) ∧ True) ∧ True) ∧ True) ∧ True) ∧ True) ∧ True)) rfl ⟨⟨⟨⟨⟨⟨⟨trivial, trivial⟩, trivial⟩, trivial⟩, trivial⟩, trivial⟩, trivial⟩, trivial⟩ ?_
        have f200 := (gr_b_14 hI6 (Int.toNat ((I 0 6))))
        refine gv_run 2 true hD (pcₚ := 112) (lvₚ := [(0, .inr (.inr (some 0))), (1, .inl (I 0 6)), (2, .inr (.inl v2_8)), (4, .inl v4_8), (5, .inl v5_8)]) (stₚ := [.inl (I6 14 (Int.toNat ((I 0 6)))), .inl (48 * (I 0 6)), .inr (.inr (some 21))]) (hₚ := gr_h I6 J7) (C := ((True ∧ True) ∧ (0 ≤ (I 0 6) ∧ (I 0 6) < ((8 : Nat) : Int)))) rfl ⟨⟨trivial, trivial⟩, ⟨by omega, by omega⟩⟩ ?_
        refine gv_run 2 true hD (pcₚ := 116) (lvₚ := [(0, .inr (.inr (some 0))), (1, .inl (I 0 6)), (2, .inr (.inl v2_8)), (4, .inl v4_8), (5, .inl v5_8)]) (stₚ := [.inr (.inl (J7 0 75)), .inl (I6 14 (Int.toNat ((I 0 6)))), .inl (48 * (I 0 6)), .inr (.inr (some 21))]) (hₚ := gr_h I6 J7) (C := ((True ∧ True) ∧ True)) rfl ⟨⟨trivial, trivial⟩, trivial⟩ ?_
        obtain ⟨r201, h201, E201, P201⟩ := r_find_21_p (ws0 := ws0) (tb := tb) hws htb ext I6 J7 hI6 ((48 * (I 0 6))) ((I6 14 (Int.toNat ((I 0 6))))) (J7 0 75) ⟨by omega, by omega⟩ ⟨by omega, by omega⟩ (by omega)
        obtain ⟨rfl, ⟨z201, rfl, q201⟩⟩ := P201
        have t202 := q201.2.2.2.trans (gs_lt_eq (J := J) (row := 21) (o := 48 * I 0 6) (n := I 14 (Int.toNat (I 0 6))) (w := gs_rn β N9 p_8) (fun k => (e10_8.2.2.2.2.2 k)) (by omega) (by first | exact (e10_8.2.1 _) | (rw [show ((I 0 6)) = I 0 6 from by omega]; exact (e10_8.2.1 _))) (gr_ATp_w e1_8))
        refine gv_callS hD rfl (As := [.inr (.inr (some 21)), .inl (48 * (I 0 6)), .inl (I6 14 (Int.toNat ((I 0 6)))), .inr (.inl (J7 0 75))]) (st := []) rfl (gr_lS hws rfl) (Nat.le_of_ble_eq_true rfl) (gz_Ev_mono (d := 1) (by decide) E201) ?_
        show gv_X _ _ (119, [(0, .inr (.inr (some 0))), (1, .inl (I 0 6)), (2, .inr (.inl v2_8)), (4, .inl v4_8), (5, .inl v5_8)], [.inl z201], gr_sh ++ ext, gr_h I6 J7)
        refine gv_if_ge (t := 139) hD rfl rfl ⟨by omega, by omega⟩ (fun c203 => ?_) (fun c203 => ?_)
        · refine gv_run 2 true hD (pcₚ := 141) (lvₚ := [(0, .inr (.inr (some 0))), (1, .inl (I 0 6)), (2, .inr (.inl v2_8)), (4, .inl v4_8), (5, .inl v5_8)]) (stₚ := [.inl 4, .inr (.inr (some 0))]) (hₚ := gr_h I6 J7) (C := ((True ∧ True) ∧ True)) rfl ⟨⟨trivial, trivial⟩, trivial⟩ ?_
          obtain ⟨r204, h204, E204, P204⟩ := r_no__p (ws0 := ws0) (tb := tb) hws htb ext β N9 p_8 I6 J7 hI6 4 ⟨by omega, by omega⟩ e1_8 (by omega)
          obtain ⟨I205, J206, rfl, hI205, g204, k204, ⟨z204, rfl, q204⟩⟩ := P204
          have FI205 := gr_frt FI6 g204 rfl rfl
          have FJ206 := gr_fjt FJ7 k204 rfl rfl
          have t207 := g204 0 71 rfl
          have t208 := g204 0 72 rfl
          have t209 := g204 0 73 rfl
          have t210 := g204 0 69 rfl
          have t211 := g204 0 6 rfl
          have t212 := g204 13 (Int.toNat ((I 0 6))) rfl
          have t213 := g204 14 (Int.toNat ((I 0 6))) rfl
          have f214 := (gr_b_0_71 hI205)
          have f215 := (gr_b_0_72 hI205)
          have f216 := (gr_b_0_73 hI205)
          have f217 := (gr_b_0_69 hI205)
          have f218 := (gr_b_0_6 hI205)
          have KVF_I205 := gr_VF_fr KVF_I6 (fun k => g204 14 k rfl) (fun k => g204 13 k rfl)
          have t219 := KVF_I205 (Int.toNat ((I 0 6))) (by omega)
          have A220 := gr_ATp_F e1_8 g204 k204 rfl
          have t221 := gr_ATp_l A220
          refine gv_callV hD rfl (As := [.inl 4]) (st := []) rfl (by decide) rfl rfl (gr_lV hws rfl) (Nat.le_of_ble_eq_true rfl) (gz_Ev_mono (d := 2) (by decide) E204) ?_
          show gv_X _ _ (144, [(0, .inr (.inr (some 0))), (1, .inl (I 0 6)), (2, .inr (.inl v2_8)), (4, .inl v4_8), (5, .inl v5_8)], [.inl z204], gr_sh ++ ext, gr_h I205 J206)
          have b222 : (I205 0 71 = 5 ∨ I205 0 73 ≤ I205 0 69) ∧ (I205 0 72 ≤ I205 0 69) ∧ (I205 0 71 = 0 ∨ (I205 0 72 < I205 0 73 ∧ I205 0 72 < I205 0 69)) ∧ (I205 0 71 = 3 → 2 ≤ I205 0 73 - I205 0 72 ∧ I205 0 73 - I205 0 72 ≤ 14) ∧ (I205 0 72 ≤ I205 0 73) ∧ (I205 0 69 = I 0 69) ∧ (I 0 73 ≤ I205 0 73) ∧ (I 0 72 ≤ I205 0 72) := by omega
          exact gv_zret hD rfl (by omega) ⟨I205, J206, rfl, hI205, FI205, FJ206, KVF_I205, ⟨_, rfl, by omega, by omega, b222.1, b222.2.1, b222.2.2.1, b222.2.2.2.1, b222.2.2.2.2.1, b222.2.2.2.2.2.1, b222.2.2.2.2.2.2.1, b222.2.2.2.2.2.2.2, (Or.inr ⟨by omega, by first | (exfalso; omega) | (rw [e3_8, e4_8, gs_vl_x e6_8 (by omega) (by omega)]; unfold gs_fea1; (repeat first | rw [if_pos (by omega)] | rw [if_neg (by omega)]); exact ⟨by omega, by omega, (fun j => ⟨((g204 13 j rfl).trans (e10_8.1 j)), ((g204 14 j rfl).trans (e10_8.2.1 j)), ((g204 24 j rfl).trans (e10_8.2.2.1 j)), ((g204 25 j rfl).trans (e10_8.2.2.2.1 j)), ((k204 20 j rfl).trans (e10_8.2.2.2.2.1 j)), ((k204 21 j rfl).trans (e10_8.2.2.2.2.2 j))⟩)⟩)⟩)⟩⟩
        · refine gv_run 6 true hD (pcₚ := 133) (lvₚ := [(0, .inr (.inr (some 0))), (1, .inl (I 0 6)), (2, .inr (.inl v2_8)), (4, .inl v4_8), (5, .inl v5_8)]) (stₚ := [.inr (.inl (J7 0 75)), .inl v4_8, .inl 0, .inr (.inr (some 62))]) (hₚ := gr_h I6 J7) (C := ((((((True ∧ True) ∧ True) ∧ True) ∧ True) ∧ True) ∧ True)) rfl ⟨⟨⟨⟨⟨⟨trivial, trivial⟩, trivial⟩, trivial⟩, trivial⟩, trivial⟩, trivial⟩ ?_
          obtain ⟨r223, h223, E223, P223⟩ := r_find_62_p (ws0 := ws0) (tb := tb) hws htb ext I6 J7 hI6 0 v4_8 (J7 0 75) ⟨by omega, by omega⟩ ⟨by omega, by omega⟩ (by omega)
          obtain ⟨rfl, ⟨z223, rfl, q223⟩⟩ := P223
          have t224 := q223.2.2.2.trans (gs_find_eq (g := fun i => gs_rn β N9 (gs_nx β N9 (Int.toNat (0 + i)) (gs_need β N9 61 (gs_X β N9 p9)))) (v := gs_rn β N9 p_8) (fun j h1 h2 => by rw [show J7 62 (Int.toNat (0 + j)) = gs_rn β N9 (gs_nx β N9 (Int.toNat (0 + j)) (gs_need β N9 61 (gs_X β N9 p9))) from (rfl).trans (e7_8 _ (by omega)), gr_ATp_w e1_8]))
          refine gv_callS hD rfl (As := [.inr (.inr (some 62)), .inl 0, .inl v4_8, .inr (.inl (J7 0 75))]) (st := []) rfl (gr_lS hws rfl) (Nat.le_of_ble_eq_true rfl) (gz_Ev_mono (d := 1) (by decide) E223) ?_
          show gv_X _ _ (136, [(0, .inr (.inr (some 0))), (1, .inl (I 0 6)), (2, .inr (.inl v2_8)), (4, .inl v4_8), (5, .inl v5_8)], [.inl z223], gr_sh ++ ext, gr_h I6 J7)
          refine gv_if_lt (t := 145) hD rfl rfl ⟨by omega, by omega⟩ (fun c225 => ?_) (fun c225 => ?_)
          · refine gv_run 6 true hD (pcₚ := 158) (lvₚ := [(4, .inl (v4_8 + 1)), (0, .inr (.inr (some 0))), (1, .inl (I 0 6)), (2, .inr (.inl v2_8)), (5, .inl v5_8)]) (stₚ := [.inr (.inl (J7 0 75)), .inl v4_8, .inr (.inr (some 62))]) (hₚ := gr_h I6 J7) (C := ((((((True ∧ True) ∧ True) ∧ True) ∧ True) ∧ True) ∧ True)) rfl ⟨⟨⟨⟨⟨⟨trivial, trivial⟩, trivial⟩, trivial⟩, trivial⟩, trivial⟩, trivial⟩ ?_
            refine gv_run 1 true hD (pcₚ := 159) (lvₚ := [(4, .inl (v4_8 + 1)), (0, .inr (.inr (some 0))), (1, .inl (I 0 6)), (2, .inr (.inl v2_8)), (5, .inl v5_8)]) (stₚ := []) (hₚ := gz_up (gr_h I6 J7) 62 (Int.toNat v4_8) (.inr (.inl (J7 0 75)))) (C := (True ∧ (0 ≤ v4_8 ∧ v4_8 < ((6 : Nat) : Int)))) rfl ⟨trivial, ⟨by omega, by omega⟩⟩ ?_
            refine gr_stJq FJ7 rfl rfl (fun J226 FJ226 q227 p227 => ?_)
            have A228 := gr_ATp_sj' e1_8 p227 rfl
            refine gv_run 1 true hD (pcₚ := 160) (lvₚ := [(4, .inl (v4_8 + 1)), (0, .inr (.inr (some 0))), (1, .inl (I 0 6)), (2, .inr (.inl v2_8)), (5, .inl v5_8)]) (stₚ := [.inr (.inr (some 0))]) (hₚ := gr_h I6 J226) (C := (True ∧ True)) rfl ⟨trivial, trivial⟩ ?_
            obtain ⟨r229, h229, E229, P229⟩ := r_next_p (ws0 := ws0) (tb := tb) hws htb ext β N9 I6 J226 hI6   (by omega) A228.1.1 A228.1.2
            obtain ⟨I230, J231, rfl, hI230, g229, k229, ⟨rfl, q229⟩⟩ := P229
            have FI230 := gr_frt FI6 g229 rfl rfl
            have FJ231 := gr_fjt FJ226 k229 rfl rfl
            have t232 := g229 0 69 rfl
            have t233 := g229 0 6 rfl
            have t234 := g229 13 (Int.toNat ((I 0 6))) rfl
            have t235 := g229 14 (Int.toNat ((I 0 6))) rfl
            have f236 := (gr_b_0_71 hI230)
            have f237 := (gr_b_0_72 hI230)
            have f238 := (gr_b_0_73 hI230)
            have f239 := (gr_b_0_69 hI230)
            have f240 := (gr_b_0_6 hI230)
            have KVF_I230 := gr_VF_fr KVF_I6 (fun k => g229 14 k rfl) (fun k => g229 13 k rfl)
            have t241 := KVF_I230 (Int.toNat ((I 0 6))) (by omega)
            have A242 := gr_ATp_nx A228 q229.2.2.2.2.2
            have t243 := gr_ATp_l A242
            refine gv_callV hD rfl (As := []) (st := []) rfl (by decide) rfl rfl (gr_lV hws rfl) (Nat.le_of_ble_eq_true rfl) (gz_Ev_mono (d := 10) (by decide) E229) ?_
            show gv_X _ _ (163, [(4, .inl (v4_8 + 1)), (0, .inr (.inr (some 0))), (1, .inl (I 0 6)), (2, .inr (.inl v2_8)), (5, .inl v5_8)], [], gr_sh ++ ext, gr_h I230 J231)
            refine gv_run 1 true hD (pcₚ := 77) (lvₚ := [(4, .inl (v4_8 + 1)), (0, .inr (.inr (some 0))), (1, .inl (I 0 6)), (2, .inr (.inl v2_8)), (5, .inl v5_8)]) (stₚ := []) (hₚ := gr_h I230 J231) (C := (True ∧ True)) rfl ⟨trivial, trivial⟩ ?_
            refine gv_pick [1, 2, 3, 0, 4] rfl ?_
            exact ih77 I230 J231 (I 0 6) v2_8 (v4_8 + 1) v5_8 (gs_X β N9 p_8) (by omega) hI230 FI230 FJ231 KVF_I230 (by omega) A242 e2_8 e3_8 (e4_8.trans (gs_vl_s e6_8 (by omega) (by omega) (by omega) (by omega))) (e5_8.trans (gs_cn7_s (by omega) (by omega))) (by rw [show Int.toNat (v4_8 + 1) = Int.toNat v4_8 + 1 from by omega]; show gs_X β N9 _ = gs_X β N9 _; rw [← e6_8]) (fun i hi => ((k229 62 i rfl)).trans (by by_cases c : i = Int.toNat v4_8; (rw [show i = (Int.toNat v4_8) from by omega, q227, show (Int.toNat v4_8) = Int.toNat v4_8 from by omega, ← e6_8]; exact gr_ATp_w e1_8); exact (p227 62 i (fun h => c (by have h9 := h.2; omega))).trans ((Eq.refl _).trans (e7_8 i (by omega))))) e8_8 rfl ⟨(fun k => ((g229 13 k rfl).trans (e10_8.1 k))), (fun k => ((g229 14 k rfl).trans (e10_8.2.1 k))), (fun k => ((g229 24 k rfl).trans (e10_8.2.2.1 k))), (fun k => ((g229 25 k rfl).trans (e10_8.2.2.2.1 k))), (fun k => (((k229 20 k rfl).trans (p227 20 k (fun q => absurd q.1 (by decide)))).trans (e10_8.2.2.2.2.1 k))), (fun k => (((k229 21 k rfl).trans (p227 21 k (fun q => absurd q.1 (by decide)))).trans (e10_8.2.2.2.2.2 k)))⟩
          · refine gv_run 2 true hD (pcₚ := 141) (lvₚ := [(0, .inr (.inr (some 0))), (1, .inl (I 0 6)), (2, .inr (.inl v2_8)), (4, .inl v4_8), (5, .inl v5_8)]) (stₚ := [.inl 4, .inr (.inr (some 0))]) (hₚ := gr_h I6 J7) (C := ((True ∧ True) ∧ True)) rfl ⟨⟨trivial, trivial⟩, trivial⟩ ?_
            obtain ⟨r244, h244, E244, P244⟩ := r_no__p (ws0 := ws0) (tb := tb) hws htb ext β N9 p_8 I6 J7 hI6 4 ⟨by omega, by omega⟩ e1_8 (by omega)
            obtain ⟨I245, J246, rfl, hI245, g244, k244, ⟨z244, rfl, q244⟩⟩ := P244
            have FI245 := gr_frt FI6 g244 rfl rfl
            have FJ246 := gr_fjt FJ7 k244 rfl rfl
            have t247 := g244 0 71 rfl
            have t248 := g244 0 72 rfl
            have t249 := g244 0 73 rfl
            have t250 := g244 0 69 rfl
            have t251 := g244 0 6 rfl
            have t252 := g244 13 (Int.toNat ((I 0 6))) rfl
            have t253 := g244 14 (Int.toNat ((I 0 6))) rfl
            have f254 := (gr_b_0_71 hI245)
            have f255 := (gr_b_0_72 hI245)
            have f256 := (gr_b_0_73 hI245)
            have f257 := (gr_b_0_69 hI245)
            have f258 := (gr_b_0_6 hI245)
            have KVF_I245 := gr_VF_fr KVF_I6 (fun k => g244 14 k rfl) (fun k => g244 13 k rfl)
            have t259 := KVF_I245 (Int.toNat ((I 0 6))) (by omega)
            have A260 := gr_ATp_F e1_8 g244 k244 rfl
            have t261 := gr_ATp_l A260
            refine gv_callV hD rfl (As := [.inl 4]) (st := []) rfl (by decide) rfl rfl (gr_lV hws rfl) (Nat.le_of_ble_eq_true rfl) (gz_Ev_mono (d := 2) (by decide) E244) ?_
            show gv_X _ _ (144, [(0, .inr (.inr (some 0))), (1, .inl (I 0 6)), (2, .inr (.inl v2_8)), (4, .inl v4_8), (5, .inl v5_8)], [.inl z244], gr_sh ++ ext, gr_h I245 J246)
            have b262 : (I245 0 71 = 5 ∨ I245 0 73 ≤ I245 0 69) ∧ (I245 0 72 ≤ I245 0 69) ∧ (I245 0 71 = 0 ∨ (I245 0 72 < I245 0 73 ∧ I245 0 72 < I245 0 69)) ∧ (I245 0 71 = 3 → 2 ≤ I245 0 73 - I245 0 72 ∧ I245 0 73 - I245 0 72 ≤ 14) ∧ (I245 0 72 ≤ I245 0 73) ∧ (I245 0 69 = I 0 69) ∧ (I 0 73 ≤ I245 0 73) ∧ (I 0 72 ≤ I245 0 72) := by omega
            exact gv_zret hD rfl (by omega) ⟨I245, J246, rfl, hI245, FI245, FJ246, KVF_I245, ⟨_, rfl, by omega, by omega, b262.1, b262.2.1, b262.2.2.1, b262.2.2.2.1, b262.2.2.2.2.1, b262.2.2.2.2.2.1, b262.2.2.2.2.2.2.1, b262.2.2.2.2.2.2.2, (Or.inr ⟨by omega, by first | (exfalso; omega) | (rw [e3_8, e4_8, gs_vl_x e6_8 (by omega) (by omega)]; unfold gs_fea1; (repeat first | rw [if_pos (by omega)] | rw [if_neg (by omega)]); exact ⟨by omega, by omega, (fun j => ⟨((g244 13 j rfl).trans (e10_8.1 j)), ((g244 14 j rfl).trans (e10_8.2.1 j)), ((g244 24 j rfl).trans (e10_8.2.2.1 j)), ((g244 25 j rfl).trans (e10_8.2.2.2.1 j)), ((k244 20 j rfl).trans (e10_8.2.2.2.2.1 j)), ((k244 21 j rfl).trans (e10_8.2.2.2.2.2 j))⟩)⟩)⟩)⟩⟩
      · refine gv_run 2 true hD (pcₚ := 94) (lvₚ := [(0, .inr (.inr (some 0))), (1, .inl (I 0 6)), (2, .inr (.inl v2_8)), (4, .inl v4_8), (5, .inl v5_8)]) (stₚ := [.inl 5, .inr (.inr (some 0))]) (hₚ := gr_h I6 J7) (C := ((True ∧ True) ∧ True)) rfl ⟨⟨trivial, trivial⟩, trivial⟩ ?_
        obtain ⟨r263, h263, E263, P263⟩ := r_no__p (ws0 := ws0) (tb := tb) hws htb ext β N9 p_8 I6 J7 hI6 5 ⟨by omega, by omega⟩ e1_8 (by omega)
        obtain ⟨I264, J265, rfl, hI264, g263, k263, ⟨z263, rfl, q263⟩⟩ := P263
        have FI264 := gr_frt FI6 g263 rfl rfl
        have FJ265 := gr_fjt FJ7 k263 rfl rfl
        have t266 := g263 0 71 rfl
        have t267 := g263 0 72 rfl
        have t268 := g263 0 73 rfl
        have t269 := g263 0 69 rfl
        have t270 := g263 0 6 rfl
        have t271 := g263 13 (Int.toNat ((I 0 6))) rfl
        have t272 := g263 14 (Int.toNat ((I 0 6))) rfl
        have f273 := (gr_b_0_71 hI264)
        have f274 := (gr_b_0_72 hI264)
        have f275 := (gr_b_0_73 hI264)
        have f276 := (gr_b_0_69 hI264)
        have f277 := (gr_b_0_6 hI264)
        have KVF_I264 := gr_VF_fr KVF_I6 (fun k => g263 14 k rfl) (fun k => g263 13 k rfl)
        have t278 := KVF_I264 (Int.toNat ((I 0 6))) (by omega)
        have A279 := gr_ATp_F e1_8 g263 k263 rfl
        have t280 := gr_ATp_l A279
        refine gv_callV hD rfl (As := [.inl 5]) (st := []) rfl (by decide) rfl rfl (gr_lV hws rfl) (Nat.le_of_ble_eq_true rfl) (gz_Ev_mono (d := 2) (by decide) E263) ?_
        show gv_X _ _ (97, [(0, .inr (.inr (some 0))), (1, .inl (I 0 6)), (2, .inr (.inl v2_8)), (4, .inl v4_8), (5, .inl v5_8)], [.inl z263], gr_sh ++ ext, gr_h I264 J265)
        have b281 : (I264 0 71 = 5 ∨ I264 0 73 ≤ I264 0 69) ∧ (I264 0 72 ≤ I264 0 69) ∧ (I264 0 71 = 0 ∨ (I264 0 72 < I264 0 73 ∧ I264 0 72 < I264 0 69)) ∧ (I264 0 71 = 3 → 2 ≤ I264 0 73 - I264 0 72 ∧ I264 0 73 - I264 0 72 ≤ 14) ∧ (I264 0 72 ≤ I264 0 73) ∧ (I264 0 69 = I 0 69) ∧ (I 0 73 ≤ I264 0 73) ∧ (I 0 72 ≤ I264 0 72) := by omega
        exact gv_zret hD rfl (by omega) ⟨I264, J265, rfl, hI264, FI264, FJ265, KVF_I264, ⟨_, rfl, by omega, by omega, b281.1, b281.2.1, b281.2.2.1, b281.2.2.2.1, b281.2.2.2.2.1, b281.2.2.2.2.2.1, b281.2.2.2.2.2.2.1, b281.2.2.2.2.2.2.2, (Or.inr ⟨by omega, by first | (exfalso; omega) | (rw [e3_8, e4_8, gs_vl_x e6_8 (by omega) (by omega)]; unfold gs_fea1; (repeat first | rw [if_pos (by omega)] | rw [if_neg (by omega)]); exact ⟨by omega, by omega, (fun j => ⟨((g263 13 j rfl).trans (e10_8.1 j)), ((g263 14 j rfl).trans (e10_8.2.1 j)), ((g263 24 j rfl).trans (e10_8.2.2.1 j)), ((g263 25 j rfl).trans (e10_8.2.2.2.1 j)), ((k263 20 j rfl).trans (e10_8.2.2.2.2.1 j)), ((k263 21 j rfl).trans (e10_8.2.2.2.2.2 j))⟩)⟩)⟩)⟩⟩
set_option maxHeartbeats 8000000 in
set_option maxRecDepth 100000 in
theorem r_feature_p {ws0 : List Cond} {tb : String → gz_T} (hws : ∀ w ∈ gr_ws, w ∈ ws0) (htb : tb RX13 = gr_T) (ext : gz_Sh) (β : Int → Int) (N9 : Int) (p9 : Int) (I : gr_I) (J : gr_J) (hI : gr_Inv I)   (x0 : I 0 71 = 5 ∨ I 0 73 ≤ I 0 69) (x1 : I 0 72 ≤ I 0 69) (x2 : I 0 71 = 0 ∨ (I 0 72 < I 0 73 ∧ I 0 72 < I 0 69)) (x3 : I 0 71 = 3 → 2 ≤ I 0 73 - I 0 72 ∧ I 0 73 - I 0 72 ≤ 14) (x4 : I 0 72 ≤ I 0 73) (x5 : 0 ≤ I 0 6) (x6 : gr_ATp β N9 p9 I J) (x7 : 0 ≤ p9) (KVF_I : gr_VF I) : ∃ r hₚ, gz_Ev ws0 tb 12 (yX13_feature, cX13_feature, 9, (some .boolean)) [.inr (.inr (some 0))] (gr_sh ++ ext) (gr_h I J) r (gr_sh ++ ext) hₚ 0 0 ∧ (∃ (Iₚ : gr_I) (Jₚ : gr_J), hₚ = gr_h Iₚ Jₚ ∧ gr_Inv Iₚ ∧ gr_fr [71, 72, 73, 74, 75, 76, 77] [13, 14, 20, 21, 24, 25, 62] I Iₚ ∧ gr_fj [71, 72, 73, 74, 75, 76, 77] [13, 14, 20, 21, 24, 25, 62] J Jₚ ∧ gr_VF Iₚ ∧ (∃ z : Int, r = some (.inl z) ∧ 0 ≤ z ∧ z ≤ 1 ∧ (Iₚ 0 71 = 5 ∨ Iₚ 0 73 ≤ Iₚ 0 69) ∧ (Iₚ 0 72 ≤ Iₚ 0 69) ∧ (Iₚ 0 71 = 0 ∨ (Iₚ 0 72 < Iₚ 0 73 ∧ Iₚ 0 72 < Iₚ 0 69)) ∧ (Iₚ 0 71 = 3 → 2 ≤ Iₚ 0 73 - Iₚ 0 72 ∧ Iₚ 0 73 - Iₚ 0 72 ≤ 14) ∧ (Iₚ 0 72 ≤ Iₚ 0 73) ∧ (Iₚ 0 69 = I 0 69) ∧ (I 0 73 ≤ Iₚ 0 73) ∧ (I 0 72 ≤ Iₚ 0 72) ∧ (gs_Or z (0 ≤ (gs_fea β N9 I J (I 0 78) p9) ∧ gr_ATp β N9 (gs_fea β N9 I J (I 0 78) p9) Iₚ Jₚ ∧ gs_Ufe (gs_rn β N9 p9) (fun i => gs_rn β N9 (gs_nx β N9 i (gs_need β N9 61 (gs_X β N9 p9)))) (Int.toNat (gs_cn β N9 7 (gs_need β N9 61 (gs_X β N9 p9)))) I J Iₚ Jₚ) ((gs_fea β N9 I J (I 0 78) p9) < 0 ∧ Iₚ 0 77 = -1 - (gs_fea β N9 I J (I 0 78) p9) ∧ gs_Sfe I J Iₚ Jₚ)))) := by
  have FI : gr_fr [71, 72, 73, 74, 75, 76, 77] [13, 14, 20, 21, 24, 25, 62] I I := fun _ _ _ => rfl
  have FJ : gr_fj [71, 72, 73, 74, 75, 76, 77] [13, 14, 20, 21, 24, 25, 62] J J := fun _ _ _ => rfl
  have hD : gv_D (gr_E ws0 tb 11 (yX13_feature, cX13_feature, 9, (some .boolean)) kX13_feature) := gq_of oX13_feature
  refine gr_ev (d := 11) (l := kX13_feature) (Po := fun r hₚ => (∃ (Iₚ : gr_I) (Jₚ : gr_J), hₚ = gr_h Iₚ Jₚ ∧ gr_Inv Iₚ ∧ gr_fr [71, 72, 73, 74, 75, 76, 77] [13, 14, 20, 21, 24, 25, 62] I Iₚ ∧ gr_fj [71, 72, 73, 74, 75, 76, 77] [13, 14, 20, 21, 24, 25, 62] J Jₚ ∧ gr_VF Iₚ ∧ (∃ z : Int, r = some (.inl z) ∧ 0 ≤ z ∧ z ≤ 1 ∧ (Iₚ 0 71 = 5 ∨ Iₚ 0 73 ≤ Iₚ 0 69) ∧ (Iₚ 0 72 ≤ Iₚ 0 69) ∧ (Iₚ 0 71 = 0 ∨ (Iₚ 0 72 < Iₚ 0 73 ∧ Iₚ 0 72 < Iₚ 0 69)) ∧ (Iₚ 0 71 = 3 → 2 ≤ Iₚ 0 73 - Iₚ 0 72 ∧ Iₚ 0 73 - Iₚ 0 72 ≤ 14) ∧ (Iₚ 0 72 ≤ Iₚ 0 73) ∧ (Iₚ 0 69 = I 0 69) ∧ (I 0 73 ≤ Iₚ 0 73) ∧ (I 0 72 ≤ Iₚ 0 72) ∧ (gs_Or z (0 ≤ (gs_fea β N9 I J (I 0 78) p9) ∧ gr_ATp β N9 (gs_fea β N9 I J (I 0 78) p9) Iₚ Jₚ ∧ gs_Ufe (gs_rn β N9 p9) (fun i => gs_rn β N9 (gs_nx β N9 i (gs_need β N9 61 (gs_X β N9 p9)))) (Int.toNat (gs_cn β N9 7 (gs_need β N9 61 (gs_X β N9 p9)))) I J Iₚ Jₚ) ((gs_fea β N9 I J (I 0 78) p9) < 0 ∧ Iₚ 0 77 = -1 - (gs_fea β N9 I J (I 0 78) p9) ∧ gs_Sfe I J Iₚ Jₚ))))) htb rfl (Nat.le_of_ble_eq_true rfl) ?_
  have tAT := gr_ATp_l x6
  have f1 := (gr_b_0_71 hI)
  have f2 := (gr_b_0_72 hI)
  have f3 := (gr_b_0_73 hI)
  have f4 := (gr_b_0_69 hI)
  have f5 := (gr_b_0_6 hI)
  have L77 : ∀ (n : Nat) (I6 : gr_I) (J7 : gr_J) (v1_8 : Int) (v2_8 : Int64) (v4_8 : Int) (v5_8 : Int) (p_8 : Int), (1001 - I6 0 72).toNat < n → gr_Inv I6 → gr_fr [71, 72, 73, 74, 75, 76, 77] [13, 14, 20, 21, 24, 25, 62] I I6 → gr_fj [71, 72, 73, 74, 75, 76, 77] [13, 14, 20, 21, 24, 25, 62] J J7 → gr_VF I6 → ((0 ≤ v1_8 ∧ v1_8 ≤ 7) ∧ (0 ≤ v4_8 ∧ v4_8 ≤ 6) ∧ (0 ≤ v5_8 ∧ v5_8 ≤ 1000) ∧ (0 ≤ p_8) ∧ (I6 0 71 = 5 ∨ I6 0 73 ≤ I6 0 69) ∧ (I6 0 72 ≤ I6 0 69) ∧ (I6 0 71 = 0 ∨ (I6 0 72 < I6 0 73 ∧ I6 0 72 < I6 0 69)) ∧ (I6 0 71 = 3 → 2 ≤ I6 0 73 - I6 0 72 ∧ I6 0 73 - I6 0 72 ≤ 14) ∧ (I6 0 72 ≤ I6 0 73) ∧ (I6 0 69 = I 0 69) ∧ (I 0 73 ≤ I6 0 73) ∧ (I 0 72 ≤ I6 0 72) ∧ (I6 0 6 = I 0 6)) → (gr_ATp β N9 p_8 I6 J7) → (v2_8 = (gs_rn β N9 p9)) → ((gs_fea β N9 I J (I 0 78) p9) = gs_fea1 β N9 I (I 0 78) (gs_need β N9 61 (gs_X β N9 p9)) (gs_vl β N9 I J (gs_need β N9 61 (gs_X β N9 p9)) 6 0)) → (gs_vl β N9 I J (gs_need β N9 61 (gs_X β N9 p9)) 6 0 = gs_vl β N9 I J (gs_need β N9 61 (gs_X β N9 p9)) (Int.toNat (6 - v4_8)) v4_8) → (gs_cn β N9 7 (gs_need β N9 61 (gs_X β N9 p9)) = v4_8 + gs_cn β N9 (Int.toNat (7 - v4_8)) p_8) → (p_8 = gs_nx β N9 (Int.toNat v4_8) (gs_need β N9 61 (gs_X β N9 p9))) → (∀ i : Nat, i < Int.toNat v4_8 → J7 62 i = gs_rn β N9 (gs_nx β N9 i (gs_need β N9 61 (gs_X β N9 p9)))) → (v5_8 = gs_A β N9 (gs_need β N9 61 (gs_X β N9 p9))) → (v1_8 = I 0 6) → ((∀ k, I6 13 k = I 13 k) ∧ (∀ k, I6 14 k = I 14 k) ∧ (∀ k, I6 24 k = I 24 k) ∧ (∀ k, I6 25 k = I 25 k) ∧ (∀ k, J7 20 k = J 20 k) ∧ (∀ k, J7 21 k = J 21 k)) → gv_X (gr_E ws0 tb 11 (yX13_feature, cX13_feature, 9, (some .boolean)) kX13_feature) (gv_Q cX13_feature (some .boolean) (gr_sh ++ ext) (fun r hₚ => (∃ (Iₚ : gr_I) (Jₚ : gr_J), hₚ = gr_h Iₚ Jₚ ∧ gr_Inv Iₚ ∧ gr_fr [71, 72, 73, 74, 75, 76, 77] [13, 14, 20, 21, 24, 25, 62] I Iₚ ∧ gr_fj [71, 72, 73, 74, 75, 76, 77] [13, 14, 20, 21, 24, 25, 62] J Jₚ ∧ gr_VF Iₚ ∧ (∃ z : Int, r = some (.inl z) ∧ 0 ≤ z ∧ z ≤ 1 ∧ (Iₚ 0 71 = 5 ∨ Iₚ 0 73 ≤ Iₚ 0 69) ∧ (Iₚ 0 72 ≤ Iₚ 0 69) ∧ (Iₚ 0 71 = 0 ∨ (Iₚ 0 72 < Iₚ 0 73 ∧ Iₚ 0 72 < Iₚ 0 69)) ∧ (Iₚ 0 71 = 3 → 2 ≤ Iₚ 0 73 - Iₚ 0 72 ∧ Iₚ 0 73 - Iₚ 0 72 ≤ 14) ∧ (Iₚ 0 72 ≤ Iₚ 0 73) ∧ (Iₚ 0 69 = I 0 69) ∧ (I 0 73 ≤ Iₚ 0 73) ∧ (I 0 72 ≤ Iₚ 0 72) ∧ (gs_Or z (0 ≤ (gs_fea β N9 I J (I 0 78) p9) ∧ gr_ATp β N9 (gs_fea β N9 I J (I 0 78) p9) Iₚ Jₚ ∧ gs_Ufe (gs_rn β N9 p9) (fun i => gs_rn β N9 (gs_nx β N9 i (gs_need β N9 61 (gs_X β N9 p9)))) (Int.toNat (gs_cn β N9 7 (gs_need β N9 61 (gs_X β N9 p9)))) I J Iₚ Jₚ) ((gs_fea β N9 I J (I 0 78) p9) < 0 ∧ Iₚ 0 77 = -1 - (gs_fea β N9 I J (I 0 78) p9) ∧ gs_Sfe I J Iₚ Jₚ)))))) (77, [(0, .inr (.inr (some 0))), (1, .inl v1_8), (2, .inr (.inl v2_8)), (4, .inl v4_8), (5, .inl v5_8)], [], gr_sh ++ ext, gr_h I6 J7) := r_feature_p_L77 (ws0 := ws0) (tb := tb) hws htb ext β N9 p9 I J hI x0 x1 x2 x3 x4 x5 x6 x7 KVF_I
  have f282 := (gr_b_0_6 hI)
  refine gv_run 4 true hD (pcₚ := 6) (lvₚ := [(1, .inl (I 0 6)), (0, .inr (.inr (some 0)))]) (stₚ := [.inr (.inr (some 0))]) (hₚ := gr_h I J) (C := ((((True ∧ True) ∧ True) ∧ True) ∧ True)) rfl ⟨⟨⟨⟨trivial, trivial⟩, trivial⟩, trivial⟩, trivial⟩ ?_
  obtain ⟨r283, h283, E283, P283⟩ := r_name_p (ws0 := ws0) (tb := tb) hws htb ext β N9 p9 I J hI   x6 (by omega)
  obtain ⟨I284, J285, rfl, hI284, g283, k283, ⟨z283, rfl, q283⟩⟩ := P283
  have FI284 := gr_frt FI g283 rfl rfl
  have FJ285 := gr_fjt FJ k283 rfl rfl
  have t286 := g283 0 71 rfl
  have t287 := g283 0 72 rfl
  have t288 := g283 0 73 rfl
  have t289 := g283 0 69 rfl
  have t290 := g283 0 6 rfl
  have t291 := g283 13 (Int.toNat ((I 0 6))) rfl
  have t292 := g283 14 (Int.toNat ((I 0 6))) rfl
  have f293 := (gr_b_0_71 hI284)
  have f294 := (gr_b_0_72 hI284)
  have f295 := (gr_b_0_73 hI284)
  have f296 := (gr_b_0_69 hI284)
  have f297 := (gr_b_0_6 hI284)
  have KVF_I284 := gr_VF_fr KVF_I (fun k => g283 14 k rfl) (fun k => g283 13 k rfl)
  have t298 := KVF_I284 (Int.toNat ((I 0 6))) (by omega)
  have A299 := gr_ATp_F x6 g283 k283 rfl
  have t300 := gr_ATp_l A299
  refine gv_callV hD rfl (As := []) (st := []) rfl (by decide) rfl rfl (gr_lV hws rfl) (Nat.le_of_ble_eq_true rfl) (gz_Ev_mono (d := 3) (by decide) E283) ?_
  show gv_X _ _ (9, [(1, .inl (I 0 6)), (0, .inr (.inr (some 0)))], [.inl z283], gr_sh ++ ext, gr_h I284 J285)
  refine gv_if_ne (t := 14) hD rfl rfl ⟨by omega, by omega⟩ (fun c301 => ?_) (fun c301 => ?_)
  · refine gv_run 7 true hD (pcₚ := 26) (lvₚ := [(2, .inr (.inl (J285 0 75))), (1, .inl (I 0 6)), (0, .inr (.inr (some 0)))]) (stₚ := [.inl (I 0 6), .inl 8, .inr (.inr (some 20))]) (hₚ := gr_h I284 J285) (C := (((((((True ∧ True) ∧ True) ∧ True) ∧ True) ∧ True) ∧ True) ∧ True)) rfl ⟨⟨⟨⟨⟨⟨⟨trivial, trivial⟩, trivial⟩, trivial⟩, trivial⟩, trivial⟩, trivial⟩, trivial⟩ ?_
    have f302 := (gr_b_13 hI284 (Int.toNat ((I 0 6))))
    refine gv_run 5 true hD (pcₚ := 33) (lvₚ := [(2, .inr (.inl (J285 0 75))), (1, .inl (I 0 6)), (0, .inr (.inr (some 0)))]) (stₚ := [.inl (I284 13 (Int.toNat ((I 0 6)))), .inl (8 * (I 0 6)), .inr (.inr (some 20))]) (hₚ := gr_h I284 J285) (C := (((((True ∧ True) ∧ True) ∧ True) ∧ True) ∧ (0 ≤ (I 0 6) ∧ (I 0 6) < ((8 : Nat) : Int)))) rfl ⟨⟨⟨⟨⟨trivial, trivial⟩, trivial⟩, trivial⟩, trivial⟩, ⟨by omega, by omega⟩⟩ ?_
    refine gv_run 1 true hD (pcₚ := 34) (lvₚ := [(2, .inr (.inl (J285 0 75))), (1, .inl (I 0 6)), (0, .inr (.inr (some 0)))]) (stₚ := [.inr (.inl (J285 0 75)), .inl (I284 13 (Int.toNat ((I 0 6)))), .inl (8 * (I 0 6)), .inr (.inr (some 20))]) (hₚ := gr_h I284 J285) (C := (True ∧ True)) rfl ⟨trivial, trivial⟩ ?_
    obtain ⟨r303, h303, E303, P303⟩ := r_find_20_p (ws0 := ws0) (tb := tb) hws htb ext I284 J285 hI284 ((8 * (I 0 6))) ((I284 13 (Int.toNat ((I 0 6))))) (J285 0 75) ⟨by omega, by omega⟩ ⟨by omega, by omega⟩ (by omega)
    obtain ⟨rfl, ⟨z303, rfl, q303⟩⟩ := P303
    have t304 := q303.2.2.2.trans (gs_lt_eq (J := J) (row := 20) (o := 8 * I 0 6) (n := I 13 (Int.toNat (I 0 6))) (w := gs_rn β N9 p9) (fun k => (k283 20 k rfl)) (by omega) (by first | exact (g283 13 _ rfl) | (rw [show ((I 0 6)) = I 0 6 from by omega]; exact (g283 13 _ rfl))) (gr_ATp_w A299))
    refine gv_callS hD rfl (As := [.inr (.inr (some 20)), .inl (8 * (I 0 6)), .inl (I284 13 (Int.toNat ((I 0 6)))), .inr (.inl (J285 0 75))]) (st := []) rfl (gr_lS hws rfl) (Nat.le_of_ble_eq_true rfl) (gz_Ev_mono (d := 1) (by decide) E303) ?_
    show gv_X _ _ (37, [(2, .inr (.inl (J285 0 75))), (1, .inl (I 0 6)), (0, .inr (.inr (some 0)))], [.inl z303], gr_sh ++ ext, gr_h I284 J285)
    refine gv_if_lt (t := 46) hD rfl rfl ⟨by omega, by omega⟩ (fun c305 => ?_) (fun c305 => ?_)
    · refine gv_run 1 true hD (pcₚ := 47) (lvₚ := [(2, .inr (.inl (J285 0 75))), (1, .inl (I 0 6)), (0, .inr (.inr (some 0)))]) (stₚ := [.inr (.inr (some 0))]) (hₚ := gr_h I284 J285) (C := (True ∧ True)) rfl ⟨trivial, trivial⟩ ?_
      obtain ⟨r306, h306, E306, P306⟩ := r_next_p (ws0 := ws0) (tb := tb) hws htb ext β N9 I284 J285 hI284   (by omega) A299.1.1 A299.1.2
      obtain ⟨I307, J308, rfl, hI307, g306, k306, ⟨rfl, q306⟩⟩ := P306
      have FI307 := gr_frt FI284 g306 rfl rfl
      have FJ308 := gr_fjt FJ285 k306 rfl rfl
      have t309 := g306 0 69 rfl
      have t310 := g306 0 6 rfl
      have t311 := g306 13 (Int.toNat ((I 0 6))) rfl
      have t312 := g306 14 (Int.toNat ((I 0 6))) rfl
      have f313 := (gr_b_0_71 hI307)
      have f314 := (gr_b_0_72 hI307)
      have f315 := (gr_b_0_73 hI307)
      have f316 := (gr_b_0_69 hI307)
      have f317 := (gr_b_0_6 hI307)
      have KVF_I307 := gr_VF_fr KVF_I284 (fun k => g306 14 k rfl) (fun k => g306 13 k rfl)
      have t318 := KVF_I307 (Int.toNat ((I 0 6))) (by omega)
      have A319 := gr_ATp_nx A299 q306.2.2.2.2.2
      have t320 := gr_ATp_l A319
      refine gv_callV hD rfl (As := []) (st := []) rfl (by decide) rfl rfl (gr_lV hws rfl) (Nat.le_of_ble_eq_true rfl) (gz_Ev_mono (d := 10) (by decide) E306) ?_
      show gv_X _ _ (50, [(2, .inr (.inl (J285 0 75))), (1, .inl (I 0 6)), (0, .inr (.inr (some 0)))], [], gr_sh ++ ext, gr_h I307 J308)
      refine gv_run 2 true hD (pcₚ := 53) (lvₚ := [(2, .inr (.inl (J285 0 75))), (1, .inl (I 0 6)), (0, .inr (.inr (some 0)))]) (stₚ := [.inl 61, .inr (.inr (some 0))]) (hₚ := gr_h I307 J308) (C := ((True ∧ True) ∧ True)) rfl ⟨⟨trivial, trivial⟩, trivial⟩ ?_
      obtain ⟨r321, h321, E321, P321⟩ := r_need_p (ws0 := ws0) (tb := tb) hws htb ext β N9 (gs_X β N9 p9) I307 J308 hI307 61 ⟨by omega, by omega⟩ (by omega) (by omega) (by omega) (by omega) (by omega) A319 (by omega)
      obtain ⟨I322, J323, rfl, hI322, g321, k321, ⟨z321, rfl, q321⟩⟩ := P321
      have FI322 := gr_frt FI307 g321 rfl rfl
      have FJ323 := gr_fjt FJ308 k321 rfl rfl
      have t324 := g321 0 69 rfl
      have t325 := g321 0 6 rfl
      have t326 := g321 13 (Int.toNat ((I 0 6))) rfl
      have t327 := g321 14 (Int.toNat ((I 0 6))) rfl
      have f328 := (gr_b_0_71 hI322)
      have f329 := (gr_b_0_72 hI322)
      have f330 := (gr_b_0_73 hI322)
      have f331 := (gr_b_0_69 hI322)
      have f332 := (gr_b_0_6 hI322)
      have KVF_I322 := gr_VF_fr KVF_I307 (fun k => g321 14 k rfl) (fun k => g321 13 k rfl)
      have t333 := KVF_I322 (Int.toNat ((I 0 6))) (by omega)
      refine gv_callV hD rfl (As := [.inl 61]) (st := []) rfl (by decide) rfl rfl (gr_lV hws rfl) (Nat.le_of_ble_eq_true rfl) (gz_Ev_mono (d := 11) (by decide) E321) ?_
      show gv_X _ _ (56, [(2, .inr (.inl (J285 0 75))), (1, .inl (I 0 6)), (0, .inr (.inr (some 0)))], [.inl z321], gr_sh ++ ext, gr_h I322 J323)
      refine gv_if_eq (t := 66) hD rfl rfl ⟨by omega, by omega⟩ (fun c334 => ?_) (fun c334 => ?_)
      · obtain ⟨u335, u335_⟩ := gs_or0 q321.2.2.2.2.2.2.2.2.2.2.2 (by omega)
        refine gv_run 1 true hD (pcₚ := 67) (lvₚ := [(2, .inr (.inl (J285 0 75))), (1, .inl (I 0 6)), (0, .inr (.inr (some 0)))]) (stₚ := [.inl 0]) (hₚ := gr_h I322 J323) (C := (True ∧ True)) rfl ⟨trivial, trivial⟩ ?_
        have b336 : (I322 0 71 = 5 ∨ I322 0 73 ≤ I322 0 69) ∧ (I322 0 72 ≤ I322 0 69) ∧ (I322 0 71 = 0 ∨ (I322 0 72 < I322 0 73 ∧ I322 0 72 < I322 0 69)) ∧ (I322 0 71 = 3 → 2 ≤ I322 0 73 - I322 0 72 ∧ I322 0 73 - I322 0 72 ≤ 14) ∧ (I322 0 72 ≤ I322 0 73) ∧ (I322 0 69 = I 0 69) ∧ (I 0 73 ≤ I322 0 73) ∧ (I 0 72 ≤ I322 0 72) := by omega
        exact gv_zret hD rfl (by omega) ⟨I322, J323, rfl, hI322, FI322, FJ323, KVF_I322, ⟨_, rfl, by omega, by omega, b336.1, b336.2.1, b336.2.2.1, b336.2.2.2.1, b336.2.2.2.2.1, b336.2.2.2.2.2.1, b336.2.2.2.2.2.2.1, b336.2.2.2.2.2.2.2, (Or.inr ⟨by omega, by unfold gs_fea gs_fea0; (repeat first | rw [if_pos (by omega)] | rw [if_neg (by omega)]); exact ⟨by omega, by omega, (fun j => ⟨(((g321 13 j rfl).trans (g306 13 j rfl)).trans (g283 13 j rfl)), (((g321 14 j rfl).trans (g306 14 j rfl)).trans (g283 14 j rfl)), (((g321 24 j rfl).trans (g306 24 j rfl)).trans (g283 24 j rfl)), (((g321 25 j rfl).trans (g306 25 j rfl)).trans (g283 25 j rfl)), (((k321 20 j rfl).trans (k306 20 j rfl)).trans (k283 20 j rfl)), (((k321 21 j rfl).trans (k306 21 j rfl)).trans (k283 21 j rfl))⟩)⟩⟩)⟩⟩
      · obtain ⟨u337, A337⟩ := gs_or1 q321.2.2.2.2.2.2.2.2.2.2.2 (by omega)
        have t338 := gr_ATp_l A337
        refine gv_run 1 true hD (pcₚ := 60) (lvₚ := [(2, .inr (.inl (J285 0 75))), (1, .inl (I 0 6)), (0, .inr (.inr (some 0)))]) (stₚ := [.inr (.inr (some 0))]) (hₚ := gr_h I322 J323) (C := (True ∧ True)) rfl ⟨trivial, trivial⟩ ?_
        obtain ⟨r339, h339, E339, P339⟩ := r_name_p (ws0 := ws0) (tb := tb) hws htb ext β N9 ((gs_need β N9 61 (gs_X β N9 p9))) I322 J323 hI322   A337 (by omega)
        obtain ⟨I340, J341, rfl, hI340, g339, k339, ⟨z339, rfl, q339⟩⟩ := P339
        have FI340 := gr_frt FI322 g339 rfl rfl
        have FJ341 := gr_fjt FJ323 k339 rfl rfl
        have t342 := g339 0 71 rfl
        have t343 := g339 0 72 rfl
        have t344 := g339 0 73 rfl
        have t345 := g339 0 69 rfl
        have t346 := g339 0 6 rfl
        have t347 := g339 13 (Int.toNat ((I 0 6))) rfl
        have t348 := g339 14 (Int.toNat ((I 0 6))) rfl
        have f349 := (gr_b_0_71 hI340)
        have f350 := (gr_b_0_72 hI340)
        have f351 := (gr_b_0_73 hI340)
        have f352 := (gr_b_0_69 hI340)
        have f353 := (gr_b_0_6 hI340)
        have KVF_I340 := gr_VF_fr KVF_I322 (fun k => g339 14 k rfl) (fun k => g339 13 k rfl)
        have t354 := KVF_I340 (Int.toNat ((I 0 6))) (by omega)
        have A355 := gr_ATp_F A337 g339 k339 rfl
        have t356 := gr_ATp_l A355
        refine gv_callV hD rfl (As := []) (st := []) rfl (by decide) rfl rfl (gr_lV hws rfl) (Nat.le_of_ble_eq_true rfl) (gz_Ev_mono (d := 3) (by decide) E339) ?_
        show gv_X _ _ (63, [(2, .inr (.inl (J285 0 75))), (1, .inl (I 0 6)), (0, .inr (.inr (some 0)))], [.inl z339], gr_sh ++ ext, gr_h I340 J341)
        refine gv_if_ne (t := 68) hD rfl rfl ⟨by omega, by omega⟩ (fun c357 => ?_) (fun c357 => ?_)
        · have f358 := (gr_b_0_72 hI340)
          refine gv_run 5 true hD (pcₚ := 77) (lvₚ := [(5, .inl (I340 0 72)), (4, .inl 0), (2, .inr (.inl (J285 0 75))), (1, .inl (I 0 6)), (0, .inr (.inr (some 0)))]) (stₚ := []) (hₚ := gr_h I340 J341) (C := (((((True ∧ True) ∧ True) ∧ True) ∧ True) ∧ True)) rfl ⟨⟨⟨⟨⟨trivial, trivial⟩, trivial⟩, trivial⟩, trivial⟩, trivial⟩ ?_
          refine gv_pick [4, 3, 2, 1, 0] rfl ?_
          exact L77 _ I340 J341 (I 0 6) (J285 0 75) 0 (I340 0 72) ((gs_need β N9 61 (gs_X β N9 p9))) (Nat.lt_succ_self _) hI340 FI340 FJ341 KVF_I340 (by omega) A355 (gr_ATp_w A299) (by unfold gs_fea gs_fea0; (repeat first | rw [if_pos (by omega)] | rw [if_neg (by omega)])) rfl (by show _ = (0 : Int) + gs_cn β N9 7 (gs_need β N9 61 (gs_X β N9 p9)); omega) rfl (fun i h => absurd h (by omega)) (by omega) rfl ⟨(fun k => ((((g339 13 k rfl).trans (g321 13 k rfl)).trans (g306 13 k rfl)).trans (g283 13 k rfl))), (fun k => ((((g339 14 k rfl).trans (g321 14 k rfl)).trans (g306 14 k rfl)).trans (g283 14 k rfl))), (fun k => ((((g339 24 k rfl).trans (g321 24 k rfl)).trans (g306 24 k rfl)).trans (g283 24 k rfl))), (fun k => ((((g339 25 k rfl).trans (g321 25 k rfl)).trans (g306 25 k rfl)).trans (g283 25 k rfl))), (fun k => ((((k339 20 k rfl).trans (k321 20 k rfl)).trans (k306 20 k rfl)).trans (k283 20 k rfl))), (fun k => ((((k339 21 k rfl).trans (k321 21 k rfl)).trans (k306 21 k rfl)).trans (k283 21 k rfl)))⟩
        · refine gv_run 1 true hD (pcₚ := 67) (lvₚ := [(2, .inr (.inl (J285 0 75))), (1, .inl (I 0 6)), (0, .inr (.inr (some 0)))]) (stₚ := [.inl 0]) (hₚ := gr_h I340 J341) (C := (True ∧ True)) rfl ⟨trivial, trivial⟩ ?_
          have b359 : (I340 0 71 = 5 ∨ I340 0 73 ≤ I340 0 69) ∧ (I340 0 72 ≤ I340 0 69) ∧ (I340 0 71 = 0 ∨ (I340 0 72 < I340 0 73 ∧ I340 0 72 < I340 0 69)) ∧ (I340 0 71 = 3 → 2 ≤ I340 0 73 - I340 0 72 ∧ I340 0 73 - I340 0 72 ≤ 14) ∧ (I340 0 72 ≤ I340 0 73) ∧ (I340 0 69 = I 0 69) ∧ (I 0 73 ≤ I340 0 73) ∧ (I 0 72 ≤ I340 0 72) := by omega
          exact gv_zret hD rfl (by omega) ⟨I340, J341, rfl, hI340, FI340, FJ341, KVF_I340, ⟨_, rfl, by omega, by omega, b359.1, b359.2.1, b359.2.2.1, b359.2.2.2.1, b359.2.2.2.2.1, b359.2.2.2.2.2.1, b359.2.2.2.2.2.2.1, b359.2.2.2.2.2.2.2, (Or.inr ⟨by omega, by unfold gs_fea gs_fea0; (repeat first | rw [if_pos (by omega)] | rw [if_neg (by omega)]); exact ⟨by omega, by omega, (fun j => ⟨((((g339 13 j rfl).trans (g321 13 j rfl)).trans (g306 13 j rfl)).trans (g283 13 j rfl)), ((((g339 14 j rfl).trans (g321 14 j rfl)).trans (g306 14 j rfl)).trans (g283 14 j rfl)), ((((g339 24 j rfl).trans (g321 24 j rfl)).trans (g306 24 j rfl)).trans (g283 24 j rfl)), ((((g339 25 j rfl).trans (g321 25 j rfl)).trans (g306 25 j rfl)).trans (g283 25 j rfl)), ((((k339 20 j rfl).trans (k321 20 j rfl)).trans (k306 20 j rfl)).trans (k283 20 j rfl)), ((((k339 21 j rfl).trans (k321 21 j rfl)).trans (k306 21 j rfl)).trans (k283 21 j rfl))⟩)⟩⟩)⟩⟩
    · refine gv_run 2 true hD (pcₚ := 42) (lvₚ := [(2, .inr (.inl (J285 0 75))), (1, .inl (I 0 6)), (0, .inr (.inr (some 0)))]) (stₚ := [.inl 4, .inr (.inr (some 0))]) (hₚ := gr_h I284 J285) (C := ((True ∧ True) ∧ True)) rfl ⟨⟨trivial, trivial⟩, trivial⟩ ?_
      obtain ⟨r360, h360, E360, P360⟩ := r_no__p (ws0 := ws0) (tb := tb) hws htb ext β N9 p9 I284 J285 hI284 4 ⟨by omega, by omega⟩ A299 (by omega)
      obtain ⟨I361, J362, rfl, hI361, g360, k360, ⟨z360, rfl, q360⟩⟩ := P360
      have FI361 := gr_frt FI284 g360 rfl rfl
      have FJ362 := gr_fjt FJ285 k360 rfl rfl
      have t363 := g360 0 71 rfl
      have t364 := g360 0 72 rfl
      have t365 := g360 0 73 rfl
      have t366 := g360 0 69 rfl
      have t367 := g360 0 6 rfl
      have t368 := g360 13 (Int.toNat ((I 0 6))) rfl
      have t369 := g360 14 (Int.toNat ((I 0 6))) rfl
      have f370 := (gr_b_0_71 hI361)
      have f371 := (gr_b_0_72 hI361)
      have f372 := (gr_b_0_73 hI361)
      have f373 := (gr_b_0_69 hI361)
      have f374 := (gr_b_0_6 hI361)
      have KVF_I361 := gr_VF_fr KVF_I284 (fun k => g360 14 k rfl) (fun k => g360 13 k rfl)
      have t375 := KVF_I361 (Int.toNat ((I 0 6))) (by omega)
      have A376 := gr_ATp_F A299 g360 k360 rfl
      have t377 := gr_ATp_l A376
      refine gv_callV hD rfl (As := [.inl 4]) (st := []) rfl (by decide) rfl rfl (gr_lV hws rfl) (Nat.le_of_ble_eq_true rfl) (gz_Ev_mono (d := 2) (by decide) E360) ?_
      show gv_X _ _ (45, [(2, .inr (.inl (J285 0 75))), (1, .inl (I 0 6)), (0, .inr (.inr (some 0)))], [.inl z360], gr_sh ++ ext, gr_h I361 J362)
      have b378 : (I361 0 71 = 5 ∨ I361 0 73 ≤ I361 0 69) ∧ (I361 0 72 ≤ I361 0 69) ∧ (I361 0 71 = 0 ∨ (I361 0 72 < I361 0 73 ∧ I361 0 72 < I361 0 69)) ∧ (I361 0 71 = 3 → 2 ≤ I361 0 73 - I361 0 72 ∧ I361 0 73 - I361 0 72 ≤ 14) ∧ (I361 0 72 ≤ I361 0 73) ∧ (I361 0 69 = I 0 69) ∧ (I 0 73 ≤ I361 0 73) ∧ (I 0 72 ≤ I361 0 72) := by omega
      exact gv_zret hD rfl (by omega) ⟨I361, J362, rfl, hI361, FI361, FJ362, KVF_I361, ⟨_, rfl, by omega, by omega, b378.1, b378.2.1, b378.2.2.1, b378.2.2.2.1, b378.2.2.2.2.1, b378.2.2.2.2.2.1, b378.2.2.2.2.2.2.1, b378.2.2.2.2.2.2.2, (Or.inr ⟨by omega, by unfold gs_fea gs_fea0; (repeat first | rw [if_pos (by omega)] | rw [if_neg (by omega)]); exact ⟨by omega, by omega, (fun j => ⟨((g360 13 j rfl).trans (g283 13 j rfl)), ((g360 14 j rfl).trans (g283 14 j rfl)), ((g360 24 j rfl).trans (g283 24 j rfl)), ((g360 25 j rfl).trans (g283 25 j rfl)), ((k360 20 j rfl).trans (k283 20 j rfl)), ((k360 21 j rfl).trans (k283 21 j rfl))⟩)⟩⟩)⟩⟩
  · refine gv_run 1 true hD (pcₚ := 13) (lvₚ := [(1, .inl (I 0 6)), (0, .inr (.inr (some 0)))]) (stₚ := [.inl 0]) (hₚ := gr_h I284 J285) (C := (True ∧ True)) rfl ⟨trivial, trivial⟩ ?_
    have b379 : (I284 0 71 = 5 ∨ I284 0 73 ≤ I284 0 69) ∧ (I284 0 72 ≤ I284 0 69) ∧ (I284 0 71 = 0 ∨ (I284 0 72 < I284 0 73 ∧ I284 0 72 < I284 0 69)) ∧ (I284 0 71 = 3 → 2 ≤ I284 0 73 - I284 0 72 ∧ I284 0 73 - I284 0 72 ≤ 14) ∧ (I284 0 72 ≤ I284 0 73) ∧ (I284 0 69 = I 0 69) ∧ (I 0 73 ≤ I284 0 73) ∧ (I 0 72 ≤ I284 0 72) := by omega
    exact gv_zret hD rfl (by omega) ⟨I284, J285, rfl, hI284, FI284, FJ285, KVF_I284, ⟨_, rfl, by omega, by omega, b379.1, b379.2.1, b379.2.2.1, b379.2.2.2.1, b379.2.2.2.2.1, b379.2.2.2.2.2.1, b379.2.2.2.2.2.2.1, b379.2.2.2.2.2.2.2, (Or.inr ⟨by omega, by unfold gs_fea gs_fea0; (repeat first | rw [if_pos (by omega)] | rw [if_neg (by omega)]); exact ⟨by omega, by omega, (fun j => ⟨(g283 13 j rfl), (g283 14 j rfl), (g283 24 j rfl), (g283 25 j rfl), (k283 20 j rfl), (k283 21 j rfl)⟩)⟩⟩)⟩⟩
