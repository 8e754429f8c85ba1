def gr_NM (I : gr_I) : Prop := ∀ x : Nat, (x : Int) < I 0 157 → I 92 x ≤ I 0 158
theorem gr_NM_fr {I I' : gr_I} (h : gr_NM I) (h1 : ∀ k, I' 92 k = I 92 k) (h2 : I' 0 157 = I 0 157) (h3 : I 0 158 ≤ I' 0 158) : gr_NM I' := fun x hx => by
  rw [h1]
  have h9 := h x (by omega)
  omega
theorem gr_NM_st {I I' : gr_I} {x : Nat} (h : gr_NM I) (hx : (x : Int) < I 0 157) (hn : I' 0 157 = I 0 157) (hw : I' 0 158 = I 0 158 + 1) (e : I' 92 x = I 92 x + 1) (f : ∀ z, ¬ z = x → I' 92 z = I 92 z) : gr_NM I' := fun z hz => by
  by_cases c : z = x
  · subst c
    have h9 := h z hx
    omega
  · rw [f z c]
    have h9 := h z (by omega)
    omega
def gr_NP (p : Nat → Nat) (I : gr_I) : Prop := ∀ x : Nat, (x : Int) < I 0 157 → I 90 x < I 0 157 ∧ (0 ≤ I 90 x → p (Int.toNat (I 90 x)) < p x)
def gr_NX (I : gr_I) : Prop := ∃ p : Nat → Nat, gr_NP p I
def gr_SB (I : gr_I) : Prop := ∀ i j k : Nat, (i : Int) ≤ I 0 143 → (j : Int) ≤ I 0 143 → k < 32 → I 93 ((25 * i + j) * 32 + k) < I 0 157
theorem gr_SB_at {I : gr_I} (h : gr_SB I) {i j k : Int} (hi : 0 ≤ i ∧ i ≤ I 0 143) (hj : 0 ≤ j ∧ j ≤ I 0 143) (hk : 0 ≤ k ∧ k ≤ 31) : I 93 (Int.toNat ((25 * i + j) * 32 + k)) < I 0 157 := by
  rw [show Int.toNat ((25 * i + j) * 32 + k) = (25 * Int.toNat i + Int.toNat j) * 32 + Int.toNat k from by omega]
  exact h _ _ _ (by omega) (by omega) (by omega)
theorem gr_NP_fr {p : Nat → Nat} {I I' : gr_I} (h : gr_NP p I) (h1 : ∀ k, I' 90 k = I 90 k) (h2 : I' 0 157 = I 0 157) : gr_NP p I' := fun x hx => by
  rw [h1, h2]
  exact h x (by omega)
theorem gr_SB_fr {I I' : gr_I} (h : gr_SB I) (h1 : ∀ k, I' 93 k = I 93 k) (h2 : I 0 157 ≤ I' 0 157) (h3 : I' 0 143 = I 0 143) : gr_SB I' := fun i j k hi hj hk => by
  rw [h1]
  have h9 := h i j k (by omega) (by omega) hk
  omega
theorem gr_SB_st {I I' : gr_I} {s : Nat} (h : gr_SB I) (h1 : ∀ k, ¬ k = s → I' 93 k = I 93 k) (h0 : I' 93 s < I' 0 157) (h2 : I 0 157 ≤ I' 0 157) (h3 : I' 0 143 = I 0 143) : gr_SB I' := fun i j k hi hj hk => by
  by_cases e : (25 * i + j) * 32 + k = s
  · rw [e]
    exact h0
  · rw [h1 _ e]
    have h9 := h i j k (by omega) (by omega) hk
    omega
theorem gr_NX_ins {p : Nat → Nat} {I I' : gr_I} {y b : Nat} {x : Int} (h : gr_NP p I) (hy : (y : Int) = I 0 157) (hn : I' 0 157 = I 0 157 + 1) (hx : x < I 0 157) (e1 : I' 90 y = x) (hb : (b : Int) < I 0 157) (e0 : I 90 b = x) (e2 : I' 90 b = (y : Int)) (e3 : ∀ z, ¬ z = y → ¬ z = b → I' 90 z = I 90 z) : gr_NX I' := by
  refine ⟨fun z => if z = y then 2 * p b + 1 else 2 * p z + 2, fun z hz => ?_⟩
  have hb9 := h b hb
  rw [e0] at hb9
  by_cases c1 : z = y
  · subst c1
    rw [e1]
    refine ⟨by omega, fun h0 => ?_⟩
    have h8 := hb9.2 h0
    show (if Int.toNat x = z then 2 * p b + 1 else 2 * p (Int.toNat x) + 2) < (if z = z then 2 * p b + 1 else 2 * p z + 2)
    rw [if_neg (by omega), if_pos rfl]
    omega
  by_cases c2 : z = b
  · subst c2
    rw [e2]
    refine ⟨by omega, fun _ => ?_⟩
    show (if Int.toNat (y : Int) = y then 2 * p z + 1 else 2 * p (Int.toNat (y : Int)) + 2) < (if z = y then 2 * p z + 1 else 2 * p z + 2)
    rw [if_pos (by omega), if_neg c1]
    omega
  have h9 := h z (by omega)
  rw [e3 z c1 c2]
  refine ⟨by omega, fun h0 => ?_⟩
  have h8 := h9.2 h0
  show (if Int.toNat (I 90 z) = y then 2 * p b + 1 else 2 * p (Int.toNat (I 90 z)) + 2) < (if z = y then 2 * p b + 1 else 2 * p z + 2)
  rw [if_neg (by omega), if_neg c1]
  omega
theorem gr_NX_top {p : Nat → Nat} {I I' : gr_I} {y : Nat} {x : Int} (h : gr_NP p I) (hy : (y : Int) = I 0 157) (hn : I' 0 157 = I 0 157 + 1) (hx : x < I 0 157) (e1 : I' 90 y = x) (e3 : ∀ z, ¬ z = y → I' 90 z = I 90 z) : gr_NX I' := by
  refine ⟨fun z => if z = y then 2 * p (Int.toNat x) + 3 else 2 * p z + 2, fun z hz => ?_⟩
  by_cases c1 : z = y
  · subst c1
    rw [e1]
    refine ⟨by omega, fun h0 => ?_⟩
    show (if Int.toNat x = z then 2 * p (Int.toNat x) + 3 else 2 * p (Int.toNat x) + 2) < (if z = z then 2 * p (Int.toNat x) + 3 else 2 * p z + 2)
    rw [if_neg (by omega), if_pos rfl]
    omega
  have h9 := h z (by omega)
  rw [e3 z c1]
  refine ⟨by omega, fun h0 => ?_⟩
  have h8 := h9.2 h0
  show (if Int.toNat (I 90 z) = y then 2 * p (Int.toNat x) + 3 else 2 * p (Int.toNat (I 90 z)) + 2) < (if z = y then 2 * p (Int.toNat x) + 3 else 2 * p z + 2)
  rw [if_neg (by omega), if_neg c1]
  omega
theorem gr_NM_new {I I' : gr_I} {y : Nat} (h : gr_NM I) (hy : (y : Int) = I 0 157) (hn : I' 0 157 = I 0 157 + 1) (hw : I' 0 158 = I 0 158) (h0 : 0 ≤ I 0 158) (e : I' 92 y = 0) (f : ∀ z, ¬ z = y → I' 92 z = I 92 z) : gr_NM I' := fun z hz => by
  by_cases c : z = y
  · subst c
    omega
  · rw [f z c]
    have h9 := h z (by omega)
    omega
set_option maxHeartbeats 4000000 in
set_option maxRecDepth 100000 in
theorem r_nodeOf {ws0 : List Cond} {tb : String → gz_T} (hws : ∀ w ∈ gr_ws, w ∈ ws0) (htb : tb RX13 = gr_T) (ext : gz_Sh) (p : Nat → Nat) (I : gr_I) (J : gr_J) (hI : gr_Inv I) (a1 : Int) (a2 : Int) (a3 : Int) (a4 : Int) (ha1 : 0 ≤ a1 ∧ a1 ≤ 31) (ha2 : 0 ≤ a2 ∧ a2 ≤ 24) (ha3 : 0 ≤ a3 ∧ a3 ≤ 24) (ha4 : 0 ≤ a4 ∧ a4 ≤ 16777215) (x0 : gr_NP p I) (x1 : gr_SB I) (x2 : a2 ≤ I 0 143) (x3 : a3 ≤ I 0 143) (x4 : gr_NM I) : ∃ r h', gz_Ev ws0 tb 2 (yX13_nodeOf, cX13_nodeOf, 9, (some .int)) [.inr (.inr (some 0)), .inl a1, .inl a2, .inl a3, .inl a4] (gr_sh ++ ext) (gr_h I J) r (gr_sh ++ ext) h' 0 0 ∧ (∃ (I' : gr_I) (J' : gr_J), h' = gr_h I' J' ∧ gr_Inv I' ∧ gr_fr [157, 160] [87, 88, 89, 90, 92, 93] I I' ∧ gr_fj [157, 160] [87, 88, 89, 90, 92, 93] J J' ∧ (∃ z : Int, r = some (.inl z) ∧ (-1) ≤ z ∧ z ≤ 2999 ∧ (gr_NX I') ∧ (gr_SB I') ∧ (I 0 157 ≤ I' 0 157) ∧ (z < I' 0 157) ∧ (gr_NM I') ∧ (I' 0 158 = I 0 158))) := by
  have FI : gr_fr [157, 160] [87, 88, 89, 90, 92, 93] I I := fun _ _ _ => rfl
  have FJ : gr_fj [157, 160] [87, 88, 89, 90, 92, 93] J J := fun _ _ _ => rfl
  have hD : gv_D (gr_E ws0 tb 1 (yX13_nodeOf, cX13_nodeOf, 9, (some .int)) kX13_nodeOf) := gq_ok oX13_nodeOf
  refine gr_ev (d := 1) (l := kX13_nodeOf) (Po := fun r h' => (∃ (I' : gr_I) (J' : gr_J), h' = gr_h I' J' ∧ gr_Inv I' ∧ gr_fr [157, 160] [87, 88, 89, 90, 92, 93] I I' ∧ gr_fj [157, 160] [87, 88, 89, 90, 92, 93] J J' ∧ (∃ z : Int, r = some (.inl z) ∧ (-1) ≤ z ∧ z ≤ 2999 ∧ (gr_NX I') ∧ (gr_SB I') ∧ (I 0 157 ≤ I' 0 157) ∧ (z < I' 0 157) ∧ (gr_NM I') ∧ (I' 0 158 = I 0 158)))) htb rfl (Nat.le_of_ble_eq_true rfl) ?_
  have f1 := (show 0 ≤ I 0 157 ∧ I 0 157 ≤ 3000 from (hI 0 157).1)
  have f2 := (show 0 ≤ I 0 143 ∧ I 0 143 ≤ 24 from (hI 0 143).1)
  have f3 := (show 0 ≤ I 0 158 ∧ I 0 158 ≤ 9000 from (hI 0 158).1)
  have L25 : ∀ (n : Nat) (v5_4 : Int) (v6_4 : Int) (v7_4 : Int), (if v7_4 < 0 then (0 : Int) else ((p (Int.toNat v7_4) : Nat) : Int) + 1).toNat < n → ((0 ≤ a1 ∧ a1 ≤ 31) ∧ (0 ≤ a3 ∧ a3 ≤ 24) ∧ (0 ≤ a4 ∧ a4 ≤ 16777215) ∧ (0 ≤ v5_4 ∧ v5_4 ≤ 19999) ∧ ((-1) ≤ v6_4 ∧ v6_4 ≤ 2999) ∧ ((-1) ≤ v7_4 ∧ v7_4 ≤ 2999) ∧ (v7_4 < I 0 157) ∧ (v6_4 < I 0 157) ∧ (v6_4 < 0 ∨ I 90 (Int.toNat v6_4) = v7_4)) → gv_X (gr_E ws0 tb 1 (yX13_nodeOf, cX13_nodeOf, 9, (some .int)) kX13_nodeOf) (gv_Q cX13_nodeOf (some .int) (gr_sh ++ ext) (fun r h' => (∃ (I' : gr_I) (J' : gr_J), h' = gr_h I' J' ∧ gr_Inv I' ∧ gr_fr [157, 160] [87, 88, 89, 90, 92, 93] I I' ∧ gr_fj [157, 160] [87, 88, 89, 90, 92, 93] J J' ∧ (∃ z : Int, r = some (.inl z) ∧ (-1) ≤ z ∧ z ≤ 2999 ∧ (gr_NX I') ∧ (gr_SB I') ∧ (I 0 157 ≤ I' 0 157) ∧ (z < I' 0 157) ∧ (gr_NM I') ∧ (I' 0 158 = I 0 158))))) (25, [(0, .inr (.inr (some 0))), (1, .inl a1), (3, .inl a3), (4, .inl a4), (5, .inl v5_4), (6, .inl v6_4), (7, .inl v7_4)], [], gr_sh ++ ext, gr_h I J) := by
    intro n
    induction n with
    | zero => intro v5_4 v6_4 v7_4 hn; omega
    | succ n ih25 =>
      intro v5_4 v6_4 v7_4 hn m_4
      obtain ⟨ha1_4, ha3_4, ha4_4, hv5_4, hv6_4, hv7_4, e0_4, e1_4, e2_4⟩ := m_4
      have f5 := (show 0 ≤ I 0 157 ∧ I 0 157 ≤ 3000 from (hI 0 157).1)
      have f6 := (show 0 ≤ I 0 143 ∧ I 0 143 ≤ 24 from (hI 0 143).1)
      have f7 := (show 0 ≤ I 0 158 ∧ I 0 158 ≤ 9000 from (hI 0 158).1)
      have L61 : ((0 ≤ a1 ∧ a1 ≤ 31) ∧ (0 ≤ a3 ∧ a3 ≤ 24) ∧ (0 ≤ a4 ∧ a4 ≤ 16777215) ∧ (0 ≤ v5_4 ∧ v5_4 ≤ 19999) ∧ ((-1) ≤ v6_4 ∧ v6_4 ≤ 2999) ∧ ((-1) ≤ v7_4 ∧ v7_4 ≤ 2999) ∧ (v7_4 < I 0 157) ∧ (v6_4 < I 0 157) ∧ (v6_4 < 0 ∨ I 90 (Int.toNat v6_4) = v7_4)) → gv_X (gr_E ws0 tb 1 (yX13_nodeOf, cX13_nodeOf, 9, (some .int)) kX13_nodeOf) (gv_Q cX13_nodeOf (some .int) (gr_sh ++ ext) (fun r h' => (∃ (I' : gr_I) (J' : gr_J), h' = gr_h I' J' ∧ gr_Inv I' ∧ gr_fr [157, 160] [87, 88, 89, 90, 92, 93] I I' ∧ gr_fj [157, 160] [87, 88, 89, 90, 92, 93] J J' ∧ (∃ z : Int, r = some (.inl z) ∧ (-1) ≤ z ∧ z ≤ 2999 ∧ (gr_NX I') ∧ (gr_SB I') ∧ (I 0 157 ≤ I' 0 157) ∧ (z < I' 0 157) ∧ (gr_NM I') ∧ (I' 0 158 = I 0 158))))) (61, [(0, .inr (.inr (some 0))), (1, .inl a1), (3, .inl a3), (4, .inl a4), (5, .inl v5_4), (6, .inl v6_4), (7, .inl v7_4)], [], gr_sh ++ ext, gr_h I J) := by
        intro m_8
        obtain ⟨ha1_8, ha3_8, ha4_8, hv5_4_8, hv6_4_8, hv7_4_8, e0_8, e1_8, e2_8⟩ := m_8
        have f9 := (show 0 ≤ I 0 157 ∧ I 0 157 ≤ 3000 from (hI 0 157).1)
        have f10 := (show 0 ≤ I 0 143 ∧ I 0 143 ≤ 24 from (hI 0 143).1)
        have f11 := (show 0 ≤ I 0 158 ∧ I 0 158 ≤ 9000 from (hI 0 158).1)
        have L81 : ((0 ≤ a1 ∧ a1 ≤ 31) ∧ (0 ≤ a3 ∧ a3 ≤ 24) ∧ (0 ≤ a4 ∧ a4 ≤ 16777215) ∧ (0 ≤ v5_4 ∧ v5_4 ≤ 19999) ∧ ((-1) ≤ v6_4 ∧ v6_4 ≤ 2999) ∧ ((-1) ≤ v7_4 ∧ v7_4 ≤ 2999) ∧ (v7_4 < I 0 157) ∧ (v6_4 < I 0 157) ∧ (v6_4 < 0 ∨ I 90 (Int.toNat v6_4) = v7_4)) → gv_X (gr_E ws0 tb 1 (yX13_nodeOf, cX13_nodeOf, 9, (some .int)) kX13_nodeOf) (gv_Q cX13_nodeOf (some .int) (gr_sh ++ ext) (fun r h' => (∃ (I' : gr_I) (J' : gr_J), h' = gr_h I' J' ∧ gr_Inv I' ∧ gr_fr [157, 160] [87, 88, 89, 90, 92, 93] I I' ∧ gr_fj [157, 160] [87, 88, 89, 90, 92, 93] J J' ∧ (∃ z : Int, r = some (.inl z) ∧ (-1) ≤ z ∧ z ≤ 2999 ∧ (gr_NX I') ∧ (gr_SB I') ∧ (I 0 157 ≤ I' 0 157) ∧ (z < I' 0 157) ∧ (gr_NM I') ∧ (I' 0 158 = I 0 158))))) (81, [(0, .inr (.inr (some 0))), (1, .inl a1), (3, .inl a3), (4, .inl a4), (5, .inl v5_4), (6, .inl v6_4), (7, .inl v7_4)], [], gr_sh ++ ext, gr_h I J) := by
          intro m_12
          obtain ⟨ha1_12, ha3_12, ha4_12, hv5_4_12, hv6_4_12, hv7_4_12, e0_12, e1_12, e2_12⟩ := m_12
          have f13 := (show 0 ≤ I 0 157 ∧ I 0 157 ≤ 3000 from (hI 0 157).1)
          have f14 := (show 0 ≤ I 0 143 ∧ I 0 143 ≤ 24 from (hI 0 143).1)
          have f15 := (show 0 ≤ I 0 158 ∧ I 0 158 ≤ 9000 from (hI 0 158).1)
          have L179 : ∀ (I16 : gr_I) (J17 : gr_J) (v8_18 : Int), gr_Inv I16 → gr_fr [157, 160] [87, 88, 89, 90, 92, 93] I I16 → gr_fj [157, 160] [87, 88, 89, 90, 92, 93] J J17 → ((0 ≤ v8_18 ∧ v8_18 ≤ 2999) ∧ (I16 0 157 = I 0 157 + 1) ∧ (v8_18 = I 0 157) ∧ (I16 0 158 = I 0 158)) → (gr_NX I16) → (gr_SB I16) → (gr_NM I16) → gv_X (gr_E ws0 tb 1 (yX13_nodeOf, cX13_nodeOf, 9, (some .int)) kX13_nodeOf) (gv_Q cX13_nodeOf (some .int) (gr_sh ++ ext) (fun r h' => (∃ (I' : gr_I) (J' : gr_J), h' = gr_h I' J' ∧ gr_Inv I' ∧ gr_fr [157, 160] [87, 88, 89, 90, 92, 93] I I' ∧ gr_fj [157, 160] [87, 88, 89, 90, 92, 93] J J' ∧ (∃ z : Int, r = some (.inl z) ∧ (-1) ≤ z ∧ z ≤ 2999 ∧ (gr_NX I') ∧ (gr_SB I') ∧ (I 0 157 ≤ I' 0 157) ∧ (z < I' 0 157) ∧ (gr_NM I') ∧ (I' 0 158 = I 0 158))))) (179, [(8, .inl v8_18)], [], gr_sh ++ ext, gr_h I16 J17) := by
            intro I16 J17 v8_18 hI16 FI16 FJ17 m_18 e0_18 e1_18 e4_18
            clear ha1_12 ha3_12 ha4_12 hv5_4_12 hv6_4_12 hv7_4_12 e0_12 e1_12 e2_12 f13 f14 f15 ha1_8 ha3_8 ha4_8 hv5_4_8 hv6_4_8 hv7_4_8 e0_8 e1_8 e2_8 f9 f10 f11 ha1_4 ha3_4 ha4_4 hv5_4 hv6_4 hv7_4 e0_4 e1_4 e2_4 f5 f6 f7
            obtain ⟨hv8_18, e2_18, e3_18, e5_18⟩ := m_18
            have f19 := (show 0 ≤ I16 0 157 ∧ I16 0 157 ≤ 3000 from (hI16 0 157).1)
            have f20 := (show 0 ≤ I16 0 143 ∧ I16 0 143 ≤ 24 from (hI16 0 143).1)
            have f21 := (show 0 ≤ I16 0 158 ∧ I16 0 158 ≤ 9000 from (hI16 0 158).1)
            refine gv_run 1 true hD (pc' := 181) (lv' := [(8, .inl v8_18)]) (st' := [.inl v8_18]) (h' := gr_h I16 J17) (C := (True ∧ True)) rfl ⟨trivial, trivial⟩ ?_
            exact gv_iret hD rfl ⟨I16, J17, rfl, hI16, FI16, FJ17, ⟨_, rfl, by omega, by omega, e0_18, e1_18, by omega, by omega, e4_18, by omega⟩⟩
          have f22 := (show 0 ≤ I 0 157 ∧ I 0 157 ≤ 3000 from (hI 0 157).1)
          refine gv_run 3 true hD (pc' := 88) (lv' := [(0, .inr (.inr (some 0))), (1, .inl a1), (3, .inl a3), (4, .inl a4), (5, .inl v5_4), (6, .inl v6_4), (7, .inl v7_4)]) (st' := [.inl 3000, .inl (I 0 157)]) (h' := gr_h I J) (C := (((True ∧ True) ∧ True) ∧ True)) rfl ⟨⟨⟨trivial, trivial⟩, trivial⟩, trivial⟩ ?_
          refine gv_icmp_ne (t := 98) hD rfl rfl ⟨⟨by omega, by omega⟩, ⟨by omega, by omega⟩⟩ (fun c23 => ?_) (fun c23 => ?_)
          · have f24 := (show 0 ≤ I 0 157 ∧ I 0 157 ≤ 3000 from (hI 0 157).1)
            refine gv_run 6 true hD (pc' := 106) (lv' := [(0, .inr (.inr (some 0))), (1, .inl a1), (3, .inl a3), (4, .inl a4), (5, .inl v5_4), (6, .inl v6_4), (7, .inl v7_4)]) (st' := [.inl ((I 0 157) + 1), .inr (.inr (some 0)), .inl (I 0 157)]) (h' := gr_h I J) (C := ((((((True ∧ True) ∧ True) ∧ True) ∧ True) ∧ True) ∧ True)) rfl ⟨⟨⟨⟨⟨⟨trivial, trivial⟩, trivial⟩, trivial⟩, trivial⟩, trivial⟩, trivial⟩ ?_
            refine gv_run 1 true hD (pc' := 109) (lv' := [(0, .inr (.inr (some 0))), (1, .inl a1), (3, .inl a3), (4, .inl a4), (5, .inl v5_4), (6, .inl v6_4), (7, .inl v7_4)]) (st' := [.inl (I 0 157)]) (h' := gz_up (gr_h I J) 0 157 (.inl (((I 0 157) + 1)))) (C := (True ∧ True)) rfl ⟨trivial, trivial⟩ ?_
            refine gr_st hI FI rfl rfl ⟨⟨by show 0 ≤ _; omega, by show _ ≤ 3000; omega⟩, trivial⟩ (fun I25 hI25 FI25 q26 p26 => ?_)
            have t27 := p26 0 143 (by decide)
            have t28 := p26 0 158 (by decide)
            have f29 := (show 0 ≤ I25 0 157 ∧ I25 0 157 ≤ 3000 from (hI25 0 157).1)
            have f30 := (show 0 ≤ I25 0 143 ∧ I25 0 143 ≤ 24 from (hI25 0 143).1)
            have f31 := (show 0 ≤ I25 0 158 ∧ I25 0 158 ≤ 9000 from (hI25 0 158).1)
            refine gv_run 5 true hD (pc' := 118) (lv' := [(8, .inl (I 0 157)), (0, .inr (.inr (some 0))), (1, .inl a1), (3, .inl a3), (4, .inl a4), (5, .inl v5_4), (6, .inl v6_4), (7, .inl v7_4)]) (st' := [.inl a1, .inl (I 0 157), .inr (.inr (some 87))]) (h' := gr_h I25 J) (C := (((((True ∧ True) ∧ True) ∧ True) ∧ True) ∧ True)) rfl ⟨⟨⟨⟨⟨trivial, trivial⟩, trivial⟩, trivial⟩, trivial⟩, trivial⟩ ?_
            refine gv_run 1 true hD (pc' := 119) (lv' := [(8, .inl (I 0 157)), (0, .inr (.inr (some 0))), (1, .inl a1), (3, .inl a3), (4, .inl a4), (5, .inl v5_4), (6, .inl v6_4), (7, .inl v7_4)]) (st' := []) (h' := gz_up (gr_h I25 J) 87 (Int.toNat ((I 0 157))) (.inl a1)) (C := (True ∧ (0 ≤ (I 0 157) ∧ (I 0 157) < ((3000 : Nat) : Int)))) rfl ⟨trivial, ⟨by omega, by omega⟩⟩ ?_
            refine gr_st hI25 FI25 rfl rfl ⟨⟨by show 0 ≤ _; omega, by show _ ≤ 31; omega⟩, trivial⟩ (fun I32 hI32 FI32 q33 p33 => ?_)
            have t34 := p33 0 157 (fun q => absurd q.1 (by decide))
            have t35 := p33 0 143 (fun q => absurd q.1 (by decide))
            have t36 := p33 0 158 (fun q => absurd q.1 (by decide))
            have f37 := (show 0 ≤ I32 0 157 ∧ I32 0 157 ≤ 3000 from (hI32 0 157).1)
            have f38 := (show 0 ≤ I32 0 143 ∧ I32 0 143 ≤ 24 from (hI32 0 143).1)
            have f39 := (show 0 ≤ I32 0 158 ∧ I32 0 158 ≤ 9000 from (hI32 0 158).1)
            refine gv_run 4 true hD (pc' := 126) (lv' := [(8, .inl (I 0 157)), (0, .inr (.inr (some 0))), (1, .inl a1), (3, .inl a3), (4, .inl a4), (5, .inl v5_4), (6, .inl v6_4), (7, .inl v7_4)]) (st' := [.inl a3, .inl (I 0 157), .inr (.inr (some 88))]) (h' := gr_h I32 J) (C := ((((True ∧ True) ∧ True) ∧ True) ∧ True)) rfl ⟨⟨⟨⟨trivial, trivial⟩, trivial⟩, trivial⟩, trivial⟩ ?_
            refine gv_run 1 true hD (pc' := 127) (lv' := [(8, .inl (I 0 157)), (0, .inr (.inr (some 0))), (1, .inl a1), (3, .inl a3), (4, .inl a4), (5, .inl v5_4), (6, .inl v6_4), (7, .inl v7_4)]) (st' := []) (h' := gz_up (gr_h I32 J) 88 (Int.toNat ((I 0 157))) (.inl a3)) (C := (True ∧ (0 ≤ (I 0 157) ∧ (I 0 157) < ((3000 : Nat) : Int)))) rfl ⟨trivial, ⟨by omega, by omega⟩⟩ ?_
            refine gr_st hI32 FI32 rfl rfl ⟨⟨by show 0 ≤ _; omega, by show _ ≤ 24; omega⟩, trivial⟩ (fun I40 hI40 FI40 q41 p41 => ?_)
            have t42 := p41 0 157 (fun q => absurd q.1 (by decide))
            have t43 := p41 0 143 (fun q => absurd q.1 (by decide))
            have t44 := p41 0 158 (fun q => absurd q.1 (by decide))
            have f45 := (show 0 ≤ I40 0 157 ∧ I40 0 157 ≤ 3000 from (hI40 0 157).1)
            have f46 := (show 0 ≤ I40 0 143 ∧ I40 0 143 ≤ 24 from (hI40 0 143).1)
            have f47 := (show 0 ≤ I40 0 158 ∧ I40 0 158 ≤ 9000 from (hI40 0 158).1)
            refine gv_run 4 true hD (pc' := 135) (lv' := [(8, .inl (I 0 157)), (0, .inr (.inr (some 0))), (1, .inl a1), (3, .inl a3), (4, .inl a4), (5, .inl v5_4), (6, .inl v6_4), (7, .inl v7_4)]) (st' := [.inl a4, .inl (I 0 157), .inr (.inr (some 89))]) (h' := gr_h I40 J) (C := ((((True ∧ True) ∧ True) ∧ True) ∧ True)) rfl ⟨⟨⟨⟨trivial, trivial⟩, trivial⟩, trivial⟩, trivial⟩ ?_
            refine gv_run 1 true hD (pc' := 136) (lv' := [(8, .inl (I 0 157)), (0, .inr (.inr (some 0))), (1, .inl a1), (3, .inl a3), (4, .inl a4), (5, .inl v5_4), (6, .inl v6_4), (7, .inl v7_4)]) (st' := []) (h' := gz_up (gr_h I40 J) 89 (Int.toNat ((I 0 157))) (.inl a4)) (C := (True ∧ (0 ≤ (I 0 157) ∧ (I 0 157) < ((3000 : Nat) : Int)))) rfl ⟨trivial, ⟨by omega, by omega⟩⟩ ?_
            refine gr_st hI40 FI40 rfl rfl ⟨⟨by show 0 ≤ _; omega, by show _ ≤ 16777215; omega⟩, trivial⟩ (fun I48 hI48 FI48 q49 p49 => ?_)
            have t50 := p49 0 157 (fun q => absurd q.1 (by decide))
            have t51 := p49 0 143 (fun q => absurd q.1 (by decide))
            have t52 := p49 0 158 (fun q => absurd q.1 (by decide))
            have f53 := (show 0 ≤ I48 0 157 ∧ I48 0 157 ≤ 3000 from (hI48 0 157).1)
            have f54 := (show 0 ≤ I48 0 143 ∧ I48 0 143 ≤ 24 from (hI48 0 143).1)
            have f55 := (show 0 ≤ I48 0 158 ∧ I48 0 158 ≤ 9000 from (hI48 0 158).1)
            refine gv_run 4 true hD (pc' := 143) (lv' := [(8, .inl (I 0 157)), (0, .inr (.inr (some 0))), (1, .inl a1), (3, .inl a3), (4, .inl a4), (5, .inl v5_4), (6, .inl v6_4), (7, .inl v7_4)]) (st' := [.inl 0, .inl (I 0 157), .inr (.inr (some 92))]) (h' := gr_h I48 J) (C := ((((True ∧ True) ∧ True) ∧ True) ∧ True)) rfl ⟨⟨⟨⟨trivial, trivial⟩, trivial⟩, trivial⟩, trivial⟩ ?_
            refine gv_run 1 true hD (pc' := 144) (lv' := [(8, .inl (I 0 157)), (0, .inr (.inr (some 0))), (1, .inl a1), (3, .inl a3), (4, .inl a4), (5, .inl v5_4), (6, .inl v6_4), (7, .inl v7_4)]) (st' := []) (h' := gz_up (gr_h I48 J) 92 (Int.toNat ((I 0 157))) (.inl 0)) (C := (True ∧ (0 ≤ (I 0 157) ∧ (I 0 157) < ((3000 : Nat) : Int)))) rfl ⟨trivial, ⟨by omega, by omega⟩⟩ ?_
            refine gr_st hI48 FI48 rfl rfl ⟨⟨by show 0 ≤ _; omega, by show _ ≤ 9000; omega⟩, trivial⟩ (fun I56 hI56 FI56 q57 p57 => ?_)
            have t58 := p57 0 157 (fun q => absurd q.1 (by decide))
            have t59 := p57 0 143 (fun q => absurd q.1 (by decide))
            have t60 := p57 0 158 (fun q => absurd q.1 (by decide))
            have f61 := (show 0 ≤ I56 0 157 ∧ I56 0 157 ≤ 3000 from (hI56 0 157).1)
            have f62 := (show 0 ≤ I56 0 143 ∧ I56 0 143 ≤ 24 from (hI56 0 143).1)
            have f63 := (show 0 ≤ I56 0 158 ∧ I56 0 158 ≤ 9000 from (hI56 0 158).1)
            refine gv_run 4 true hD (pc' := 152) (lv' := [(8, .inl (I 0 157)), (0, .inr (.inr (some 0))), (1, .inl a1), (3, .inl a3), (4, .inl a4), (5, .inl v5_4), (6, .inl v6_4), (7, .inl v7_4)]) (st' := [.inl v7_4, .inl (I 0 157), .inr (.inr (some 90))]) (h' := gr_h I56 J) (C := ((((True ∧ True) ∧ True) ∧ True) ∧ True)) rfl ⟨⟨⟨⟨trivial, trivial⟩, trivial⟩, trivial⟩, trivial⟩ ?_
            refine gv_run 1 true hD (pc' := 153) (lv' := [(8, .inl (I 0 157)), (0, .inr (.inr (some 0))), (1, .inl a1), (3, .inl a3), (4, .inl a4), (5, .inl v5_4), (6, .inl v6_4), (7, .inl v7_4)]) (st' := []) (h' := gz_up (gr_h I56 J) 90 (Int.toNat ((I 0 157))) (.inl v7_4)) (C := (True ∧ (0 ≤ (I 0 157) ∧ (I 0 157) < ((3000 : Nat) : Int)))) rfl ⟨trivial, ⟨by omega, by omega⟩⟩ ?_
            refine gr_st hI56 FI56 rfl rfl ⟨⟨by show (-1) ≤ _; omega, by show _ ≤ 2999; omega⟩, trivial⟩ (fun I64 hI64 FI64 q65 p65 => ?_)
            have t66 := p65 0 157 (fun q => absurd q.1 (by decide))
            have t67 := p65 0 143 (fun q => absurd q.1 (by decide))
            have t68 := p65 0 158 (fun q => absurd q.1 (by decide))
            have f69 := (show 0 ≤ I64 0 157 ∧ I64 0 157 ≤ 3000 from (hI64 0 157).1)
            have f70 := (show 0 ≤ I64 0 143 ∧ I64 0 143 ≤ 24 from (hI64 0 143).1)
            have f71 := (show 0 ≤ I64 0 158 ∧ I64 0 158 ≤ 9000 from (hI64 0 158).1)
            refine gv_run 1 true hD (pc' := 155) (lv' := [(8, .inl (I 0 157)), (0, .inr (.inr (some 0))), (1, .inl a1), (3, .inl a3), (4, .inl a4), (5, .inl v5_4), (6, .inl v6_4), (7, .inl v7_4)]) (st' := [.inl v6_4]) (h' := gr_h I64 J) (C := (True ∧ True)) rfl ⟨trivial, trivial⟩ ?_
            refine gv_if_ge (t := 170) hD rfl rfl ⟨by omega, by omega⟩ (fun c72 => ?_) (fun c72 => ?_)
            · refine gv_run 4 true hD (pc' := 178) (lv' := [(8, .inl (I 0 157)), (0, .inr (.inr (some 0))), (1, .inl a1), (3, .inl a3), (4, .inl a4), (5, .inl v5_4), (6, .inl v6_4), (7, .inl v7_4)]) (st' := [.inl (I 0 157), .inl v6_4, .inr (.inr (some 90))]) (h' := gr_h I64 J) (C := ((((True ∧ True) ∧ True) ∧ True) ∧ True)) rfl ⟨⟨⟨⟨trivial, trivial⟩, trivial⟩, trivial⟩, trivial⟩ ?_
              refine gv_run 1 true hD (pc' := 179) (lv' := [(8, .inl (I 0 157)), (0, .inr (.inr (some 0))), (1, .inl a1), (3, .inl a3), (4, .inl a4), (5, .inl v5_4), (6, .inl v6_4), (7, .inl v7_4)]) (st' := []) (h' := gz_up (gr_h I64 J) 90 (Int.toNat v6_4) (.inl (I 0 157))) (C := (True ∧ (0 ≤ v6_4 ∧ v6_4 < ((3000 : Nat) : Int)))) rfl ⟨trivial, ⟨by omega, by omega⟩⟩ ?_
              refine gr_st hI64 FI64 rfl rfl ⟨⟨by show (-1) ≤ _; omega, by show _ ≤ 2999; omega⟩, trivial⟩ (fun I73 hI73 FI73 q74 p74 => ?_)
              have t75 := p74 0 157 (fun q => absurd q.1 (by decide))
              have t76 := p74 0 143 (fun q => absurd q.1 (by decide))
              have t77 := p74 0 158 (fun q => absurd q.1 (by decide))
              have f78 := (show 0 ≤ I73 0 157 ∧ I73 0 157 ≤ 3000 from (hI73 0 157).1)
              have f79 := (show 0 ≤ I73 0 143 ∧ I73 0 143 ≤ 24 from (hI73 0 143).1)
              have f80 := (show 0 ≤ I73 0 158 ∧ I73 0 158 ≤ 9000 from (hI73 0 158).1)
              refine gv_pick [0] rfl ?_
              exact L179 I73 J (I 0 157) hI73 FI73 FJ (by omega) (gr_NX_ins (y := (Int.toNat (I 0 157))) (b := Int.toNat v6_4) (x := v7_4) x0 (by omega) (by omega) (by omega) (by rw [p74 90 (Int.toNat (I 0 157)) (fun q => by have := q.2; omega)]; exact q65) (by omega) (by omega) (by rw [q74]; omega) (fun z h1 h2 => by rw [p74 90 z (fun q => h2 q.2), p65 90 z (fun q => h1 q.2), p57 90 z (fun q => absurd q.1 (by decide)), p49 90 z (fun q => absurd q.1 (by decide)), p41 90 z (fun q => absurd q.1 (by decide)), p33 90 z (fun q => absurd q.1 (by decide)), p26 90 z (fun q => absurd q.1 (by decide))])) (gr_SB_fr x1 (fun k => by rw [p74 93 k (fun q => absurd q.1 (by decide)), p65 93 k (fun q => absurd q.1 (by decide)), p57 93 k (fun q => absurd q.1 (by decide)), p49 93 k (fun q => absurd q.1 (by decide)), p41 93 k (fun q => absurd q.1 (by decide)), p33 93 k (fun q => absurd q.1 (by decide)), p26 93 k (fun q => absurd q.1 (by decide))]) (by omega) (by omega)) (gr_NM_new (y := (Int.toNat (I 0 157))) x4 (by omega) (by omega) (by omega) (by omega) (by rw [p74 92 (Int.toNat (I 0 157)) (fun q => absurd q.1 (by decide)), p65 92 (Int.toNat (I 0 157)) (fun q => absurd q.1 (by decide))]; exact q57) (fun z hz => by rw [p74 92 z (fun q => absurd q.1 (by decide)), p65 92 z (fun q => absurd q.1 (by decide)), p57 92 z (fun q => hz q.2), p49 92 z (fun q => absurd q.1 (by decide)), p41 92 z (fun q => absurd q.1 (by decide)), p33 92 z (fun q => absurd q.1 (by decide)), p26 92 z (fun q => absurd q.1 (by decide))]))
            · refine gv_run 4 true hD (pc' := 166) (lv' := [(8, .inl (I 0 157)), (0, .inr (.inr (some 0))), (1, .inl a1), (3, .inl a3), (4, .inl a4), (5, .inl v5_4), (6, .inl v6_4), (7, .inl v7_4)]) (st' := [.inl (I 0 157), .inl v5_4, .inr (.inr (some 93))]) (h' := gr_h I64 J) (C := ((((True ∧ True) ∧ True) ∧ True) ∧ True)) rfl ⟨⟨⟨⟨trivial, trivial⟩, trivial⟩, trivial⟩, trivial⟩ ?_
              refine gv_run 1 true hD (pc' := 167) (lv' := [(8, .inl (I 0 157)), (0, .inr (.inr (some 0))), (1, .inl a1), (3, .inl a3), (4, .inl a4), (5, .inl v5_4), (6, .inl v6_4), (7, .inl v7_4)]) (st' := []) (h' := gz_up (gr_h I64 J) 93 (Int.toNat v5_4) (.inl (I 0 157))) (C := (True ∧ (0 ≤ v5_4 ∧ v5_4 < ((20000 : Nat) : Int)))) rfl ⟨trivial, ⟨by omega, by omega⟩⟩ ?_
              refine gr_st hI64 FI64 rfl rfl ⟨⟨by show (-1) ≤ _; omega, by show _ ≤ 2999; omega⟩, trivial⟩ (fun I81 hI81 FI81 q82 p82 => ?_)
              have t83 := p82 0 157 (fun q => absurd q.1 (by decide))
              have t84 := p82 0 143 (fun q => absurd q.1 (by decide))
              have t85 := p82 0 158 (fun q => absurd q.1 (by decide))
              have f86 := (show 0 ≤ I81 0 157 ∧ I81 0 157 ≤ 3000 from (hI81 0 157).1)
              have f87 := (show 0 ≤ I81 0 143 ∧ I81 0 143 ≤ 24 from (hI81 0 143).1)
              have f88 := (show 0 ≤ I81 0 158 ∧ I81 0 158 ≤ 9000 from (hI81 0 158).1)
              refine gv_run 1 true hD (pc' := 179) (lv' := [(8, .inl (I 0 157)), (0, .inr (.inr (some 0))), (1, .inl a1), (3, .inl a3), (4, .inl a4), (5, .inl v5_4), (6, .inl v6_4), (7, .inl v7_4)]) (st' := []) (h' := gr_h I81 J) (C := (True ∧ True)) rfl ⟨trivial, trivial⟩ ?_
              refine gv_pick [0] rfl ?_
              exact L179 I81 J (I 0 157) hI81 FI81 FJ (by omega) (gr_NX_top (y := (Int.toNat (I 0 157))) (x := v7_4) x0 (by omega) (by omega) (by omega) (by rw [p82 90 (Int.toNat (I 0 157)) (fun q => absurd q.1 (by decide))]; exact q65) (fun z h1 => by rw [p82 90 z (fun q => absurd q.1 (by decide)), p65 90 z (fun q => h1 q.2), p57 90 z (fun q => absurd q.1 (by decide)), p49 90 z (fun q => absurd q.1 (by decide)), p41 90 z (fun q => absurd q.1 (by decide)), p33 90 z (fun q => absurd q.1 (by decide)), p26 90 z (fun q => absurd q.1 (by decide))])) (gr_SB_st (s := Int.toNat v5_4) x1 (fun k hk => by rw [p82 93 k (fun q => hk q.2), p65 93 k (fun q => absurd q.1 (by decide)), p57 93 k (fun q => absurd q.1 (by decide)), p49 93 k (fun q => absurd q.1 (by decide)), p41 93 k (fun q => absurd q.1 (by decide)), p33 93 k (fun q => absurd q.1 (by decide)), p26 93 k (fun q => absurd q.1 (by decide))]) (by rw [q82]; omega) (by omega) (by omega)) (gr_NM_new (y := (Int.toNat (I 0 157))) x4 (by omega) (by omega) (by omega) (by omega) (by rw [p82 92 (Int.toNat (I 0 157)) (fun q => absurd q.1 (by decide)), p65 92 (Int.toNat (I 0 157)) (fun q => absurd q.1 (by decide))]; exact q57) (fun z hz => by rw [p82 92 z (fun q => absurd q.1 (by decide)), p65 92 z (fun q => absurd q.1 (by decide)), p57 92 z (fun q => hz q.2), p49 92 z (fun q => absurd q.1 (by decide)), p41 92 z (fun q => absurd q.1 (by decide)), p33 92 z (fun q => absurd q.1 (by decide)), p26 92 z (fun q => absurd q.1 (by decide))]))
          · refine gv_run 3 true hD (pc' := 96) (lv' := [(0, .inr (.inr (some 0))), (1, .inl a1), (3, .inl a3), (4, .inl a4), (5, .inl v5_4), (6, .inl v6_4), (7, .inl v7_4)]) (st' := []) (h' := gz_up (gr_h I J) 0 160 (.inl 1)) (C := (((True ∧ True) ∧ True) ∧ (1 = 0 ∨ 1 = 1))) rfl ⟨⟨⟨trivial, trivial⟩, trivial⟩, (by omega)⟩ ?_
            refine gr_st hI FI rfl rfl ⟨⟨by show 0 ≤ _; omega, by show _ ≤ 1; omega⟩, trivial⟩ (fun I89 hI89 FI89 q90 p90 => ?_)
            have t91 := p90 0 157 (by decide)
            have t92 := p90 0 143 (by decide)
            have t93 := p90 0 158 (by decide)
            have f94 := (show 0 ≤ I89 0 157 ∧ I89 0 157 ≤ 3000 from (hI89 0 157).1)
            have f95 := (show 0 ≤ I89 0 143 ∧ I89 0 143 ≤ 24 from (hI89 0 143).1)
            have f96 := (show 0 ≤ I89 0 158 ∧ I89 0 158 ≤ 9000 from (hI89 0 158).1)
            refine gv_run 1 true hD (pc' := 97) (lv' := [(0, .inr (.inr (some 0))), (1, .inl a1), (3, .inl a3), (4, .inl a4), (5, .inl v5_4), (6, .inl v6_4), (7, .inl v7_4)]) (st' := [.inl (-1)]) (h' := gr_h I89 J) (C := (True ∧ True)) rfl ⟨trivial, trivial⟩ ?_
            exact gv_iret hD rfl ⟨I89, J, rfl, hI89, FI89, FJ, ⟨_, rfl, by omega, by omega, ⟨p, gr_NP_fr x0 (fun k => by rw [p90 90 k (fun q => absurd q.1 (by decide))]) (by omega)⟩, (gr_SB_fr x1 (fun k => by rw [p90 93 k (fun q => absurd q.1 (by decide))]) (by omega) (by omega)), by omega, by omega, (gr_NM_fr x4 (fun k => by rw [p90 92 k (fun q => absurd q.1 (by decide))]) (by omega) (by omega)), by omega⟩⟩
        refine gv_run 1 true hD (pc' := 63) (lv' := [(0, .inr (.inr (some 0))), (1, .inl a1), (3, .inl a3), (4, .inl a4), (5, .inl v5_4), (6, .inl v6_4), (7, .inl v7_4)]) (st' := [.inl v7_4]) (h' := gr_h I J) (C := (True ∧ True)) rfl ⟨trivial, trivial⟩ ?_
        refine gv_if_lt (t := 81) hD rfl rfl ⟨by omega, by omega⟩ (fun c97 => ?_) (fun c97 => ?_)
        · exact L81 (by omega)
        · have f98 := (show 0 ≤ I 89 (Int.toNat v7_4) ∧ I 89 (Int.toNat v7_4) ≤ 16777215 from (hI 89 (Int.toNat v7_4)).1)
          refine gv_run 4 true hD (pc' := 73) (lv' := [(0, .inr (.inr (some 0))), (1, .inl a1), (3, .inl a3), (4, .inl a4), (5, .inl v5_4), (6, .inl v6_4), (7, .inl v7_4)]) (st' := [.inl (I 89 (Int.toNat v7_4))]) (h' := gr_h I J) (C := ((((True ∧ True) ∧ True) ∧ True) ∧ (0 ≤ v7_4 ∧ v7_4 < ((3000 : Nat) : Int)))) rfl ⟨⟨⟨⟨trivial, trivial⟩, trivial⟩, trivial⟩, ⟨by omega, by omega⟩⟩ ?_
          refine gv_run 1 true hD (pc' := 75) (lv' := [(0, .inr (.inr (some 0))), (1, .inl a1), (3, .inl a3), (4, .inl a4), (5, .inl v5_4), (6, .inl v6_4), (7, .inl v7_4)]) (st' := [.inl a4, .inl (I 89 (Int.toNat v7_4))]) (h' := gr_h I J) (C := (True ∧ True)) rfl ⟨trivial, trivial⟩ ?_
          refine gv_icmp_ne (t := 81) hD rfl rfl ⟨⟨by omega, by omega⟩, ⟨by omega, by omega⟩⟩ (fun c99 => ?_) (fun c99 => ?_)
          · exact L81 (by omega)
          · refine gv_run 1 true hD (pc' := 80) (lv' := [(0, .inr (.inr (some 0))), (1, .inl a1), (3, .inl a3), (4, .inl a4), (5, .inl v5_4), (6, .inl v6_4), (7, .inl v7_4)]) (st' := [.inl v7_4]) (h' := gr_h I J) (C := (True ∧ True)) rfl ⟨trivial, trivial⟩ ?_
            exact gv_iret hD rfl ⟨I, J, rfl, hI, FI, FJ, ⟨_, rfl, by omega, by omega, ⟨p, x0⟩, x1, by omega, by omega, x4, by omega⟩⟩
      refine gv_run 1 true hD (pc' := 27) (lv' := [(0, .inr (.inr (some 0))), (1, .inl a1), (3, .inl a3), (4, .inl a4), (5, .inl v5_4), (6, .inl v6_4), (7, .inl v7_4)]) (st' := [.inl v7_4]) (h' := gr_h I J) (C := (True ∧ True)) rfl ⟨trivial, trivial⟩ ?_
      refine gv_if_lt (t := 61) hD rfl rfl ⟨by omega, by omega⟩ (fun c100 => ?_) (fun c100 => ?_)
      · exact L61 (by omega)
      · have f101 := (show 0 ≤ I 89 (Int.toNat v7_4) ∧ I 89 (Int.toNat v7_4) ≤ 16777215 from (hI 89 (Int.toNat v7_4)).1)
        refine gv_run 4 true hD (pc' := 37) (lv' := [(0, .inr (.inr (some 0))), (1, .inl a1), (3, .inl a3), (4, .inl a4), (5, .inl v5_4), (6, .inl v6_4), (7, .inl v7_4)]) (st' := [.inl (I 89 (Int.toNat v7_4))]) (h' := gr_h I J) (C := ((((True ∧ True) ∧ True) ∧ True) ∧ (0 ≤ v7_4 ∧ v7_4 < ((3000 : Nat) : Int)))) rfl ⟨⟨⟨⟨trivial, trivial⟩, trivial⟩, trivial⟩, ⟨by omega, by omega⟩⟩ ?_
        refine gv_run 1 true hD (pc' := 39) (lv' := [(0, .inr (.inr (some 0))), (1, .inl a1), (3, .inl a3), (4, .inl a4), (5, .inl v5_4), (6, .inl v6_4), (7, .inl v7_4)]) (st' := [.inl a4, .inl (I 89 (Int.toNat v7_4))]) (h' := gr_h I J) (C := (True ∧ True)) rfl ⟨trivial, trivial⟩ ?_
        obtain ⟨r102, h102, E102, P102⟩ := r_compare (ws0 := ws0) (tb := tb) hws htb ext I J hI ((I 89 (Int.toNat v7_4))) a4 ⟨by omega, by omega⟩ ⟨by omega, by omega⟩ 
        obtain ⟨rfl, ⟨z102, rfl, q102⟩⟩ := P102
        refine gv_callS hD rfl (As := [.inl (I 89 (Int.toNat v7_4)), .inl a4]) (st := []) rfl (gr_lS hws rfl) (Nat.le_of_ble_eq_true rfl) (gz_Ev_mono (d := 1) (by decide) E102) ?_
        show gv_X _ _ (42, [(0, .inr (.inr (some 0))), (1, .inl a1), (3, .inl a3), (4, .inl a4), (5, .inl v5_4), (6, .inl v6_4), (7, .inl v7_4)], [.inl z102], gr_sh ++ ext, gr_h I J)
        refine gv_if_ge (t := 61) hD rfl rfl ⟨by omega, by omega⟩ (fun c103 => ?_) (fun c103 => ?_)
        · exact L61 (by omega)
        · refine gv_run 2 true hD (pc' := 49) (lv' := [(6, .inl v7_4), (0, .inr (.inr (some 0))), (1, .inl a1), (3, .inl a3), (4, .inl a4), (5, .inl v5_4), (7, .inl v7_4)]) (st' := []) (h' := gr_h I J) (C := ((True ∧ True) ∧ True)) rfl ⟨⟨trivial, trivial⟩, trivial⟩ ?_
          have t104 := x0 (Int.toNat v7_4) (by omega)
          have f105 := (show (-1) ≤ I 90 (Int.toNat v7_4) ∧ I 90 (Int.toNat v7_4) ≤ 2999 from (hI 90 (Int.toNat v7_4)).1)
          refine gv_run 4 true hD (pc' := 56) (lv' := [(6, .inl v7_4), (0, .inr (.inr (some 0))), (1, .inl a1), (3, .inl a3), (4, .inl a4), (5, .inl v5_4), (7, .inl v7_4)]) (st' := [.inl (I 90 (Int.toNat v7_4))]) (h' := gr_h I J) (C := ((((True ∧ True) ∧ True) ∧ True) ∧ (0 ≤ v7_4 ∧ v7_4 < ((3000 : Nat) : Int)))) rfl ⟨⟨⟨⟨trivial, trivial⟩, trivial⟩, trivial⟩, ⟨by omega, by omega⟩⟩ ?_
          refine gv_run 2 true hD (pc' := 25) (lv' := [(7, .inl (I 90 (Int.toNat v7_4))), (6, .inl v7_4), (0, .inr (.inr (some 0))), (1, .inl a1), (3, .inl a3), (4, .inl a4), (5, .inl v5_4)]) (st' := []) (h' := gr_h I J) (C := ((True ∧ True) ∧ True)) rfl ⟨⟨trivial, trivial⟩, trivial⟩ ?_
          refine gv_pick [2, 3, 4, 5, 6, 1, 0] rfl ?_
          exact ih25 v5_4 v7_4 ((I 90 (Int.toNat v7_4))) (by omega) (by omega)
  refine gv_run 7 true hD (pc' := 9) (lv' := [(0, .inr (.inr (some 0))), (1, .inl a1), (2, .inl a2), (3, .inl a3), (4, .inl a4)]) (st' := [.inl (((25 * a2) + a3) * 32)]) (h' := gr_h I J) (C := (((((((True ∧ True) ∧ True) ∧ True) ∧ True) ∧ True) ∧ True) ∧ True)) rfl ⟨⟨⟨⟨⟨⟨⟨trivial, trivial⟩, trivial⟩, trivial⟩, trivial⟩, trivial⟩, trivial⟩, trivial⟩ ?_
  refine gv_run 5 true hD (pc' := 16) (lv' := [(6, .inl (-1)), (5, .inl ((((25 * a2) + a3) * 32) + a1)), (0, .inr (.inr (some 0))), (1, .inl a1), (2, .inl a2), (3, .inl a3), (4, .inl a4)]) (st' := []) (h' := gr_h I J) (C := (((((True ∧ True) ∧ True) ∧ True) ∧ True) ∧ True)) rfl ⟨⟨⟨⟨⟨trivial, trivial⟩, trivial⟩, trivial⟩, trivial⟩, trivial⟩ ?_
  have t106 := gr_SB_at x1 (i := a2) (j := a3) (k := a1) ⟨by omega, by omega⟩ ⟨by omega, by omega⟩ ⟨by omega, by omega⟩
  have f107 := (show (-1) ≤ I 93 (Int.toNat (((((25 * a2) + a3) * 32) + a1))) ∧ I 93 (Int.toNat (((((25 * a2) + a3) * 32) + a1))) ≤ 2999 from (hI 93 (Int.toNat (((((25 * a2) + a3) * 32) + a1)))).1)
  refine gv_run 4 true hD (pc' := 23) (lv' := [(6, .inl (-1)), (5, .inl ((((25 * a2) + a3) * 32) + a1)), (0, .inr (.inr (some 0))), (1, .inl a1), (2, .inl a2), (3, .inl a3), (4, .inl a4)]) (st' := [.inl (I 93 (Int.toNat (((((25 * a2) + a3) * 32) + a1))))]) (h' := gr_h I J) (C := ((((True ∧ True) ∧ True) ∧ True) ∧ (0 ≤ (((((25 * a2) + a3) * 32) + a1)) ∧ (((((25 * a2) + a3) * 32) + a1)) < ((20000 : Nat) : Int)))) rfl ⟨⟨⟨⟨trivial, trivial⟩, trivial⟩, trivial⟩, ⟨by omega, by omega⟩⟩ ?_
  refine gv_run 1 true hD (pc' := 25) (lv' := [(7, .inl (I 93 (Int.toNat (((((25 * a2) + a3) * 32) + a1))))), (6, .inl (-1)), (5, .inl ((((25 * a2) + a3) * 32) + a1)), (0, .inr (.inr (some 0))), (1, .inl a1), (2, .inl a2), (3, .inl a3), (4, .inl a4)]) (st' := []) (h' := gr_h I J) (C := (True ∧ True)) rfl ⟨trivial, trivial⟩ ?_
  refine gv_pick [3, 4, 6, 7, 2, 1, 0] rfl ?_
  exact L25 _ (((((25 * a2) + a3) * 32) + a1)) (-1) ((I 93 (Int.toNat (((((25 * a2) + a3) * 32) + a1))))) (Nat.lt_succ_self _) (by omega)
theorem r_nodeOf_x {ws0 : List Cond} {tb : String → gz_T} (hws : ∀ w ∈ gr_ws, w ∈ ws0) (htb : tb RX13 = gr_T) (ext : gz_Sh) (I : gr_I) (J : gr_J) (hI : gr_Inv I) (a1 : Int) (a2 : Int) (a3 : Int) (a4 : Int) (ha1 : 0 ≤ a1 ∧ a1 ≤ 31) (ha2 : 0 ≤ a2 ∧ a2 ≤ 24) (ha3 : 0 ≤ a3 ∧ a3 ≤ 24) (ha4 : 0 ≤ a4 ∧ a4 ≤ 16777215) (x0 : gr_NX I) (x1 : gr_SB I) (x2 : a2 ≤ I 0 143) (x3 : a3 ≤ I 0 143) (x4 : gr_NM I) : ∃ r h', gz_Ev ws0 tb 2 (yX13_nodeOf, cX13_nodeOf, 9, (some .int)) [.inr (.inr (some 0)), .inl a1, .inl a2, .inl a3, .inl a4] (gr_sh ++ ext) (gr_h I J) r (gr_sh ++ ext) h' 0 0 ∧ (∃ (I' : gr_I) (J' : gr_J), h' = gr_h I' J' ∧ gr_Inv I' ∧ gr_fr [157, 160] [87, 88, 89, 90, 92, 93] I I' ∧ gr_fj [157, 160] [87, 88, 89, 90, 92, 93] J J' ∧ (∃ z : Int, r = some (.inl z) ∧ (-1) ≤ z ∧ z ≤ 2999 ∧ (gr_NX I') ∧ (gr_SB I') ∧ (I 0 157 ≤ I' 0 157) ∧ (z < I' 0 157) ∧ (gr_NM I') ∧ (I' 0 158 = I 0 158))) := by
  obtain ⟨p, hp⟩ := x0
  exact r_nodeOf hws htb ext p I J hI a1 a2 a3 a4 ha1 ha2 ha3 ha4 hp x1 x2 x3 x4
theorem gr_NX_fr {I I' : gr_I} (h : gr_NX I) (h1 : ∀ k, I' 90 k = I 90 k) (h2 : I' 0 157 = I 0 157) : gr_NX I' := h.elim (fun p hp => ⟨p, gr_NP_fr hp h1 h2⟩)
