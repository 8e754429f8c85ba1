def gr_NP (p : Nat → Nat) (I : gr_I) : Prop := ∀ x : Nat, (x : Int) < I 0 157 → I 90 x < I 0 157 ∧ (0 ≤ I 90 x → p (Int.toNat (I 90 x)) < p x)
def gr_NX (I : gr_I) : Prop := ∃ p : Nat → Nat, gr_NP p I
def gr_SB (I : gr_I) : Prop := ∀ i j k : Nat, (i : Int) ≤ I 0 143 → (j : Int) ≤ I 0 143 → k < 32 → I 93 ((25 * i + j) * 32 + k) < I 0 157
theorem gr_SB_at {I : gr_I} (h : gr_SB I) {i j k : Int} (hi : 0 ≤ i ∧ i ≤ I 0 143) (hj : 0 ≤ j ∧ j ≤ I 0 143) (hk : 0 ≤ k ∧ k ≤ 31) : I 93 (Int.toNat ((25 * i + j) * 32 + k)) < I 0 157 := by
  rw [show Int.toNat ((25 * i + j) * 32 + k) = (25 * Int.toNat i + Int.toNat j) * 32 + Int.toNat k from by omega]
  exact h _ _ _ (by omega) (by omega) (by omega)
theorem gr_NP_fr {p : Nat → Nat} {I I' : gr_I} (h : gr_NP p I) (h1 : ∀ k, I' 90 k = I 90 k) (h2 : I' 0 157 = I 0 157) : gr_NP p I' := fun x hx => by
  rw [h1, h2]
  exact h x (by omega)
theorem gr_SB_fr {I I' : gr_I} (h : gr_SB I) (h1 : ∀ k, I' 93 k = I 93 k) (h2 : I 0 157 ≤ I' 0 157) (h3 : I' 0 143 = I 0 143) : gr_SB I' := fun i j k hi hj hk => by
  rw [h1]
  have h9 := h i j k (by omega) (by omega) hk
  omega
theorem gr_SB_st {I I' : gr_I} {s : Nat} (h : gr_SB I) (h1 : ∀ k, ¬ k = s → I' 93 k = I 93 k) (h0 : I' 93 s < I' 0 157) (h2 : I 0 157 ≤ I' 0 157) (h3 : I' 0 143 = I 0 143) : gr_SB I' := fun i j k hi hj hk => by
  by_cases e : (25 * i + j) * 32 + k = s
  · rw [e]
    exact h0
  · rw [h1 _ e]
    have h9 := h i j k (by omega) (by omega) hk
    omega
theorem gr_NX_ins {p : Nat → Nat} {I I' : gr_I} {y b : Nat} {x : Int} (h : gr_NP p I) (hy : (y : Int) = I 0 157) (hn : I' 0 157 = I 0 157 + 1) (hx : x < I 0 157) (e1 : I' 90 y = x) (hb : (b : Int) < I 0 157) (e0 : I 90 b = x) (e2 : I' 90 b = (y : Int)) (e3 : ∀ z, ¬ z = y → ¬ z = b → I' 90 z = I 90 z) : gr_NX I' := by
  refine ⟨fun z => if z = y then 2 * p b + 1 else 2 * p z + 2, fun z hz => ?_⟩
  have hb9 := h b hb
  rw [e0] at hb9
  by_cases c1 : z = y
  · subst c1
    rw [e1]
    refine ⟨by omega, fun h0 => ?_⟩
    have h8 := hb9.2 h0
    show (if Int.toNat x = z then 2 * p b + 1 else 2 * p (Int.toNat x) + 2) < (if z = z then 2 * p b + 1 else 2 * p z + 2)
    rw [if_neg (by omega), if_pos rfl]
    omega
  by_cases c2 : z = b
  · subst c2
    rw [e2]
    refine ⟨by omega, fun _ => ?_⟩
    show (if Int.toNat (y : Int) = y then 2 * p z + 1 else 2 * p (Int.toNat (y : Int)) + 2) < (if z = y then 2 * p z + 1 else 2 * p z + 2)
    rw [if_pos (by omega), if_neg c1]
    omega
  have h9 := h z (by omega)
  rw [e3 z c1 c2]
  refine ⟨by omega, fun h0 => ?_⟩
  have h8 := h9.2 h0
  show (if Int.toNat (I 90 z) = y then 2 * p b + 1 else 2 * p (Int.toNat (I 90 z)) + 2) < (if z = y then 2 * p b + 1 else 2 * p z + 2)
  rw [if_neg (by omega), if_neg c1]
  omega
theorem gr_NX_top {p : Nat → Nat} {I I' : gr_I} {y : Nat} {x : Int} (h : gr_NP p I) (hy : (y : Int) = I 0 157) (hn : I' 0 157 = I 0 157 + 1) (hx : x < I 0 157) (e1 : I' 90 y = x) (e3 : ∀ z, ¬ z = y → I' 90 z = I 90 z) : gr_NX I' := by
  refine ⟨fun z => if z = y then 2 * p (Int.toNat x) + 3 else 2 * p z + 2, fun z hz => ?_⟩
  by_cases c1 : z = y
  · subst c1
    rw [e1]
    refine ⟨by omega, fun h0 => ?_⟩
    show (if Int.toNat x = z then 2 * p (Int.toNat x) + 3 else 2 * p (Int.toNat x) + 2) < (if z = z then 2 * p (Int.toNat x) + 3 else 2 * p z + 2)
    rw [if_neg (by omega), if_pos rfl]
    omega
  have h9 := h z (by omega)
  rw [e3 z c1]
  refine ⟨by omega, fun h0 => ?_⟩
  have h8 := h9.2 h0
  show (if Int.toNat (I 90 z) = y then 2 * p (Int.toNat x) + 3 else 2 * p (Int.toNat (I 90 z)) + 2) < (if z = y then 2 * p (Int.toNat x) + 3 else 2 * p z + 2)
  rw [if_neg (by omega), if_neg c1]
  omega
set_option maxHeartbeats 4000000 in
set_option maxRecDepth 100000 in
theorem r_nodeOf {ws0 : List Cond} {tb : String → gz_T} (hws : ∀ w ∈ gr_ws, w ∈ ws0) (htb : tb RX13 = gr_T) (ext : gz_Sh) (p : Nat → Nat) (I : gr_I) (J : gr_J) (hI : gr_Inv I) (a1 : Int) (a2 : Int) (a3 : Int) (a4 : Int) (ha1 : 0 ≤ a1 ∧ a1 ≤ 31) (ha2 : 0 ≤ a2 ∧ a2 ≤ 24) (ha3 : 0 ≤ a3 ∧ a3 ≤ 24) (ha4 : 0 ≤ a4 ∧ a4 ≤ 16777215) (x0 : gr_NP p I) (x1 : gr_SB I) (x2 : a2 ≤ I 0 143) (x3 : a3 ≤ I 0 143) : ∃ r h', gz_Ev ws0 tb 2 (yX13_nodeOf, cX13_nodeOf, 9, (some .int)) [.inr (.inr (some 0)), .inl a1, .inl a2, .inl a3, .inl a4] (gr_sh ++ ext) (gr_h I J) r (gr_sh ++ ext) h' 0 0 ∧ (∃ (I' : gr_I) (J' : gr_J), h' = gr_h I' J' ∧ gr_Inv I' ∧ gr_fr [157, 160] [87, 88, 89, 90, 92, 93] I I' ∧ gr_fj [157, 160] [87, 88, 89, 90, 92, 93] J J' ∧ (∃ z : Int, r = some (.inl z) ∧ (-1) ≤ z ∧ z ≤ 2999 ∧ (gr_NX I') ∧ (gr_SB I') ∧ (I 0 157 ≤ I' 0 157) ∧ (z < I' 0 157))) := by
  have FI : gr_fr [157, 160] [87, 88, 89, 90, 92, 93] I I := fun _ _ _ => rfl
  have FJ : gr_fj [157, 160] [87, 88, 89, 90, 92, 93] J J := fun _ _ _ => rfl
  have hD : gv_D (gr_E ws0 tb 1 (yX13_nodeOf, cX13_nodeOf, 9, (some .int)) kX13_nodeOf) := gq_ok oX13_nodeOf
  refine gr_ev (d := 1) (l := kX13_nodeOf) (Po := fun r h' => (∃ (I' : gr_I) (J' : gr_J), h' = gr_h I' J' ∧ gr_Inv I' ∧ gr_fr [157, 160] [87, 88, 89, 90, 92, 93] I I' ∧ gr_fj [157, 160] [87, 88, 89, 90, 92, 93] J J' ∧ (∃ z : Int, r = some (.inl z) ∧ (-1) ≤ z ∧ z ≤ 2999 ∧ (gr_NX I') ∧ (gr_SB I') ∧ (I 0 157 ≤ I' 0 157) ∧ (z < I' 0 157)))) htb rfl (Nat.le_of_ble_eq_true rfl) ?_
  have f1 := (show 0 ≤ I 0 157 ∧ I 0 157 ≤ 3000 from (hI 0 157).1)
  have f2 := (show 0 ≤ I 0 143 ∧ I 0 143 ≤ 24 from (hI 0 143).1)
  have L25 : ∀ (n : Nat) (v5_3 : Int) (v6_3 : Int) (v7_3 : Int), (if v7_3 < 0 then (0 : Int) else ((p (Int.toNat v7_3) : Nat) : Int) + 1).toNat < n → ((0 ≤ a1 ∧ a1 ≤ 31) ∧ (0 ≤ a3 ∧ a3 ≤ 24) ∧ (0 ≤ a4 ∧ a4 ≤ 16777215) ∧ (0 ≤ v5_3 ∧ v5_3 ≤ 19999) ∧ ((-1) ≤ v6_3 ∧ v6_3 ≤ 2999) ∧ ((-1) ≤ v7_3 ∧ v7_3 ≤ 2999) ∧ (v7_3 < I 0 157) ∧ (v6_3 < I 0 157) ∧ (v6_3 < 0 ∨ I 90 (Int.toNat v6_3) = v7_3)) → gv_X (gr_E ws0 tb 1 (yX13_nodeOf, cX13_nodeOf, 9, (some .int)) kX13_nodeOf) (gv_Q cX13_nodeOf (some .int) (gr_sh ++ ext) (fun r h' => (∃ (I' : gr_I) (J' : gr_J), h' = gr_h I' J' ∧ gr_Inv I' ∧ gr_fr [157, 160] [87, 88, 89, 90, 92, 93] I I' ∧ gr_fj [157, 160] [87, 88, 89, 90, 92, 93] J J' ∧ (∃ z : Int, r = some (.inl z) ∧ (-1) ≤ z ∧ z ≤ 2999 ∧ (gr_NX I') ∧ (gr_SB I') ∧ (I 0 157 ≤ I' 0 157) ∧ (z < I' 0 157))))) (25, [(0, .inr (.inr (some 0))), (1, .inl a1), (3, .inl a3), (4, .inl a4), (5, .inl v5_3), (6, .inl v6_3), (7, .inl v7_3)], [], gr_sh ++ ext, gr_h I J) := by
    intro n
    induction n with
    | zero => intro v5_3 v6_3 v7_3 hn; omega
    | succ n ih25 =>
      intro v5_3 v6_3 v7_3 hn m_3
      obtain ⟨ha1_3, ha3_3, ha4_3, hv5_3, hv6_3, hv7_3, e0_3, e1_3, e2_3⟩ := m_3
      have f4 := (show 0 ≤ I 0 157 ∧ I 0 157 ≤ 3000 from (hI 0 157).1)
      have f5 := (show 0 ≤ I 0 143 ∧ I 0 143 ≤ 24 from (hI 0 143).1)
      have L61 : ((0 ≤ a1 ∧ a1 ≤ 31) ∧ (0 ≤ a3 ∧ a3 ≤ 24) ∧ (0 ≤ a4 ∧ a4 ≤ 16777215) ∧ (0 ≤ v5_3 ∧ v5_3 ≤ 19999) ∧ ((-1) ≤ v6_3 ∧ v6_3 ≤ 2999) ∧ ((-1) ≤ v7_3 ∧ v7_3 ≤ 2999) ∧ (v7_3 < I 0 157) ∧ (v6_3 < I 0 157) ∧ (v6_3 < 0 ∨ I 90 (Int.toNat v6_3) = v7_3)) → gv_X (gr_E ws0 tb 1 (yX13_nodeOf, cX13_nodeOf, 9, (some .int)) kX13_nodeOf) (gv_Q cX13_nodeOf (some .int) (gr_sh ++ ext) (fun r h' => (∃ (I' : gr_I) (J' : gr_J), h' = gr_h I' J' ∧ gr_Inv I' ∧ gr_fr [157, 160] [87, 88, 89, 90, 92, 93] I I' ∧ gr_fj [157, 160] [87, 88, 89, 90, 92, 93] J J' ∧ (∃ z : Int, r = some (.inl z) ∧ (-1) ≤ z ∧ z ≤ 2999 ∧ (gr_NX I') ∧ (gr_SB I') ∧ (I 0 157 ≤ I' 0 157) ∧ (z < I' 0 157))))) (61, [(0, .inr (.inr (some 0))), (1, .inl a1), (3, .inl a3), (4, .inl a4), (5, .inl v5_3), (6, .inl v6_3), (7, .inl v7_3)], [], gr_sh ++ ext, gr_h I J) := by
        intro m_6
        obtain ⟨ha1_6, ha3_6, ha4_6, hv5_3_6, hv6_3_6, hv7_3_6, e0_6, e1_6, e2_6⟩ := m_6
        have f7 := (show 0 ≤ I 0 157 ∧ I 0 157 ≤ 3000 from (hI 0 157).1)
        have f8 := (show 0 ≤ I 0 143 ∧ I 0 143 ≤ 24 from (hI 0 143).1)
        have L81 : ((0 ≤ a1 ∧ a1 ≤ 31) ∧ (0 ≤ a3 ∧ a3 ≤ 24) ∧ (0 ≤ a4 ∧ a4 ≤ 16777215) ∧ (0 ≤ v5_3 ∧ v5_3 ≤ 19999) ∧ ((-1) ≤ v6_3 ∧ v6_3 ≤ 2999) ∧ ((-1) ≤ v7_3 ∧ v7_3 ≤ 2999) ∧ (v7_3 < I 0 157) ∧ (v6_3 < I 0 157) ∧ (v6_3 < 0 ∨ I 90 (Int.toNat v6_3) = v7_3)) → gv_X (gr_E ws0 tb 1 (yX13_nodeOf, cX13_nodeOf, 9, (some .int)) kX13_nodeOf) (gv_Q cX13_nodeOf (some .int) (gr_sh ++ ext) (fun r h' => (∃ (I' : gr_I) (J' : gr_J), h' = gr_h I' J' ∧ gr_Inv I' ∧ gr_fr [157, 160] [87, 88, 89, 90, 92, 93] I I' ∧ gr_fj [157, 160] [87, 88, 89, 90, 92, 93] J J' ∧ (∃ z : Int, r = some (.inl z) ∧ (-1) ≤ z ∧ z ≤ 2999 ∧ (gr_NX I') ∧ (gr_SB I') ∧ (I 0 157 ≤ I' 0 157) ∧ (z < I' 0 157))))) (81, [(0, .inr (.inr (some 0))), (1, .inl a1), (3, .inl a3), (4, .inl a4), (5, .inl v5_3), (6, .inl v6_3), (7, .inl v7_3)], [], gr_sh ++ ext, gr_h I J) := by
          intro m_9
          obtain ⟨ha1_9, ha3_9, ha4_9, hv5_3_9, hv6_3_9, hv7_3_9, e0_9, e1_9, e2_9⟩ := m_9
          have f10 := (show 0 ≤ I 0 157 ∧ I 0 157 ≤ 3000 from (hI 0 157).1)
          have f11 := (show 0 ≤ I 0 143 ∧ I 0 143 ≤ 24 from (hI 0 143).1)
          have L179 : ∀ (I12 : gr_I) (J13 : gr_J) (v8_14 : Int), gr_Inv I12 → gr_fr [157, 160] [87, 88, 89, 90, 92, 93] I I12 → gr_fj [157, 160] [87, 88, 89, 90, 92, 93] J J13 → ((0 ≤ v8_14 ∧ v8_14 ≤ 2999) ∧ (I12 0 157 = I 0 157 + 1) ∧ (v8_14 = I 0 157)) → (gr_NX I12) → (gr_SB I12) → gv_X (gr_E ws0 tb 1 (yX13_nodeOf, cX13_nodeOf, 9, (some .int)) kX13_nodeOf) (gv_Q cX13_nodeOf (some .int) (gr_sh ++ ext) (fun r h' => (∃ (I' : gr_I) (J' : gr_J), h' = gr_h I' J' ∧ gr_Inv I' ∧ gr_fr [157, 160] [87, 88, 89, 90, 92, 93] I I' ∧ gr_fj [157, 160] [87, 88, 89, 90, 92, 93] J J' ∧ (∃ z : Int, r = some (.inl z) ∧ (-1) ≤ z ∧ z ≤ 2999 ∧ (gr_NX I') ∧ (gr_SB I') ∧ (I 0 157 ≤ I' 0 157) ∧ (z < I' 0 157))))) (179, [(8, .inl v8_14)], [], gr_sh ++ ext, gr_h I12 J13) := by
            intro I12 J13 v8_14 hI12 FI12 FJ13 m_14 e0_14 e1_14
            clear ha1_9 ha3_9 ha4_9 hv5_3_9 hv6_3_9 hv7_3_9 e0_9 e1_9 e2_9 f10 f11 ha1_6 ha3_6 ha4_6 hv5_3_6 hv6_3_6 hv7_3_6 e0_6 e1_6 e2_6 f7 f8 ha1_3 ha3_3 ha4_3 hv5_3 hv6_3 hv7_3 e0_3 e1_3 e2_3 f4 f5
            obtain ⟨hv8_14, e2_14, e3_14⟩ := m_14
            have f15 := (show 0 ≤ I12 0 157 ∧ I12 0 157 ≤ 3000 from (hI12 0 157).1)
            have f16 := (show 0 ≤ I12 0 143 ∧ I12 0 143 ≤ 24 from (hI12 0 143).1)
            refine gv_run 1 true hD (pc' := 181) (lv' := [(8, .inl v8_14)]) (st' := [.inl v8_14]) (h' := gr_h I12 J13) (C := (True ∧ True)) rfl ⟨trivial, trivial⟩ ?_
            exact gv_iret hD rfl ⟨I12, J13, rfl, hI12, FI12, FJ13, ⟨_, rfl, by omega, by omega, e0_14, e1_14, by omega, by omega⟩⟩
          have f17 := (show 0 ≤ I 0 157 ∧ I 0 157 ≤ 3000 from (hI 0 157).1)
          refine gv_run 3 true hD (pc' := 88) (lv' := [(0, .inr (.inr (some 0))), (1, .inl a1), (3, .inl a3), (4, .inl a4), (5, .inl v5_3), (6, .inl v6_3), (7, .inl v7_3)]) (st' := [.inl 3000, .inl (I 0 157)]) (h' := gr_h I J) (C := (((True ∧ True) ∧ True) ∧ True)) rfl ⟨⟨⟨trivial, trivial⟩, trivial⟩, trivial⟩ ?_
          refine gv_icmp_ne (t := 98) hD rfl rfl ⟨⟨by omega, by omega⟩, ⟨by omega, by omega⟩⟩ (fun c18 => ?_) (fun c18 => ?_)
          · have f19 := (show 0 ≤ I 0 157 ∧ I 0 157 ≤ 3000 from (hI 0 157).1)
            refine gv_run 6 true hD (pc' := 106) (lv' := [(0, .inr (.inr (some 0))), (1, .inl a1), (3, .inl a3), (4, .inl a4), (5, .inl v5_3), (6, .inl v6_3), (7, .inl v7_3)]) (st' := [.inl ((I 0 157) + 1), .inr (.inr (some 0)), .inl (I 0 157)]) (h' := gr_h I J) (C := ((((((True ∧ True) ∧ True) ∧ True) ∧ True) ∧ True) ∧ True)) rfl ⟨⟨⟨⟨⟨⟨trivial, trivial⟩, trivial⟩, trivial⟩, trivial⟩, trivial⟩, trivial⟩ ?_
            refine gv_run 1 true hD (pc' := 109) (lv' := [(0, .inr (.inr (some 0))), (1, .inl a1), (3, .inl a3), (4, .inl a4), (5, .inl v5_3), (6, .inl v6_3), (7, .inl v7_3)]) (st' := [.inl (I 0 157)]) (h' := gz_up (gr_h I J) 0 157 (.inl (((I 0 157) + 1)))) (C := (True ∧ True)) rfl ⟨trivial, trivial⟩ ?_
            refine gr_st hI FI rfl rfl ⟨⟨by show 0 ≤ _; omega, by show _ ≤ 3000; omega⟩, trivial⟩ (fun I20 hI20 FI20 q21 p21 => ?_)
            have t22 := p21 0 143 (by decide)
            have f23 := (show 0 ≤ I20 0 157 ∧ I20 0 157 ≤ 3000 from (hI20 0 157).1)
            have f24 := (show 0 ≤ I20 0 143 ∧ I20 0 143 ≤ 24 from (hI20 0 143).1)
            refine gv_run 5 true hD (pc' := 118) (lv' := [(8, .inl (I 0 157)), (0, .inr (.inr (some 0))), (1, .inl a1), (3, .inl a3), (4, .inl a4), (5, .inl v5_3), (6, .inl v6_3), (7, .inl v7_3)]) (st' := [.inl a1, .inl (I 0 157), .inr (.inr (some 87))]) (h' := gr_h I20 J) (C := (((((True ∧ True) ∧ True) ∧ True) ∧ True) ∧ True)) rfl ⟨⟨⟨⟨⟨trivial, trivial⟩, trivial⟩, trivial⟩, trivial⟩, trivial⟩ ?_
            refine gv_run 1 true hD (pc' := 119) (lv' := [(8, .inl (I 0 157)), (0, .inr (.inr (some 0))), (1, .inl a1), (3, .inl a3), (4, .inl a4), (5, .inl v5_3), (6, .inl v6_3), (7, .inl v7_3)]) (st' := []) (h' := gz_up (gr_h I20 J) 87 (Int.toNat ((I 0 157))) (.inl a1)) (C := (True ∧ (0 ≤ (I 0 157) ∧ (I 0 157) < ((3000 : Nat) : Int)))) rfl ⟨trivial, ⟨by omega, by omega⟩⟩ ?_
            refine gr_st hI20 FI20 rfl rfl ⟨⟨by show 0 ≤ _; omega, by show _ ≤ 31; omega⟩, trivial⟩ (fun I25 hI25 FI25 q26 p26 => ?_)
            have t27 := p26 0 157 (fun q => absurd q.1 (by decide))
            have t28 := p26 0 143 (fun q => absurd q.1 (by decide))
            have f29 := (show 0 ≤ I25 0 157 ∧ I25 0 157 ≤ 3000 from (hI25 0 157).1)
            have f30 := (show 0 ≤ I25 0 143 ∧ I25 0 143 ≤ 24 from (hI25 0 143).1)
            refine gv_run 4 true hD (pc' := 126) (lv' := [(8, .inl (I 0 157)), (0, .inr (.inr (some 0))), (1, .inl a1), (3, .inl a3), (4, .inl a4), (5, .inl v5_3), (6, .inl v6_3), (7, .inl v7_3)]) (st' := [.inl a3, .inl (I 0 157), .inr (.inr (some 88))]) (h' := gr_h I25 J) (C := ((((True ∧ True) ∧ True) ∧ True) ∧ True)) rfl ⟨⟨⟨⟨trivial, trivial⟩, trivial⟩, trivial⟩, trivial⟩ ?_
            refine gv_run 1 true hD (pc' := 127) (lv' := [(8, .inl (I 0 157)), (0, .inr (.inr (some 0))), (1, .inl a1), (3, .inl a3), (4, .inl a4), (5, .inl v5_3), (6, .inl v6_3), (7, .inl v7_3)]) (st' := []) (h' := gz_up (gr_h I25 J) 88 (Int.toNat ((I 0 157))) (.inl a3)) (C := (True ∧ (0 ≤ (I 0 157) ∧ (I 0 157) < ((3000 : Nat) : Int)))) rfl ⟨trivial, ⟨by omega, by omega⟩⟩ ?_
            refine gr_st hI25 FI25 rfl rfl ⟨⟨by show 0 ≤ _; omega, by show _ ≤ 24; omega⟩, trivial⟩ (fun I31 hI31 FI31 q32 p32 => ?_)
            have t33 := p32 0 157 (fun q => absurd q.1 (by decide))
            have t34 := p32 0 143 (fun q => absurd q.1 (by decide))
            have f35 := (show 0 ≤ I31 0 157 ∧ I31 0 157 ≤ 3000 from (hI31 0 157).1)
            have f36 := (show 0 ≤ I31 0 143 ∧ I31 0 143 ≤ 24 from (hI31 0 143).1)
            refine gv_run 4 true hD (pc' := 135) (lv' := [(8, .inl (I 0 157)), (0, .inr (.inr (some 0))), (1, .inl a1), (3, .inl a3), (4, .inl a4), (5, .inl v5_3), (6, .inl v6_3), (7, .inl v7_3)]) (st' := [.inl a4, .inl (I 0 157), .inr (.inr (some 89))]) (h' := gr_h I31 J) (C := ((((True ∧ True) ∧ True) ∧ True) ∧ True)) rfl ⟨⟨⟨⟨trivial, trivial⟩, trivial⟩, trivial⟩, trivial⟩ ?_
            refine gv_run 1 true hD (pc' := 136) (lv' := [(8, .inl (I 0 157)), (0, .inr (.inr (some 0))), (1, .inl a1), (3, .inl a3), (4, .inl a4), (5, .inl v5_3), (6, .inl v6_3), (7, .inl v7_3)]) (st' := []) (h' := gz_up (gr_h I31 J) 89 (Int.toNat ((I 0 157))) (.inl a4)) (C := (True ∧ (0 ≤ (I 0 157) ∧ (I 0 157) < ((3000 : Nat) : Int)))) rfl ⟨trivial, ⟨by omega, by omega⟩⟩ ?_
            refine gr_st hI31 FI31 rfl rfl ⟨⟨by show 0 ≤ _; omega, by show _ ≤ 16777215; omega⟩, trivial⟩ (fun I37 hI37 FI37 q38 p38 => ?_)
            have t39 := p38 0 157 (fun q => absurd q.1 (by decide))
            have t40 := p38 0 143 (fun q => absurd q.1 (by decide))
            have f41 := (show 0 ≤ I37 0 157 ∧ I37 0 157 ≤ 3000 from (hI37 0 157).1)
            have f42 := (show 0 ≤ I37 0 143 ∧ I37 0 143 ≤ 24 from (hI37 0 143).1)
            refine gv_run 4 true hD (pc' := 143) (lv' := [(8, .inl (I 0 157)), (0, .inr (.inr (some 0))), (1, .inl a1), (3, .inl a3), (4, .inl a4), (5, .inl v5_3), (6, .inl v6_3), (7, .inl v7_3)]) (st' := [.inl 0, .inl (I 0 157), .inr (.inr (some 92))]) (h' := gr_h I37 J) (C := ((((True ∧ True) ∧ True) ∧ True) ∧ True)) rfl ⟨⟨⟨⟨trivial, trivial⟩, trivial⟩, trivial⟩, trivial⟩ ?_
            refine gv_run 1 true hD (pc' := 144) (lv' := [(8, .inl (I 0 157)), (0, .inr (.inr (some 0))), (1, .inl a1), (3, .inl a3), (4, .inl a4), (5, .inl v5_3), (6, .inl v6_3), (7, .inl v7_3)]) (st' := []) (h' := gz_up (gr_h I37 J) 92 (Int.toNat ((I 0 157))) (.inl 0)) (C := (True ∧ (0 ≤ (I 0 157) ∧ (I 0 157) < ((3000 : Nat) : Int)))) rfl ⟨trivial, ⟨by omega, by omega⟩⟩ ?_
            refine gr_st hI37 FI37 rfl rfl ⟨⟨by show 0 ≤ _; omega, by show _ ≤ 9000; omega⟩, trivial⟩ (fun I43 hI43 FI43 q44 p44 => ?_)
            have t45 := p44 0 157 (fun q => absurd q.1 (by decide))
            have t46 := p44 0 143 (fun q => absurd q.1 (by decide))
            have f47 := (show 0 ≤ I43 0 157 ∧ I43 0 157 ≤ 3000 from (hI43 0 157).1)
            have f48 := (show 0 ≤ I43 0 143 ∧ I43 0 143 ≤ 24 from (hI43 0 143).1)
            refine gv_run 4 true hD (pc' := 152) (lv' := [(8, .inl (I 0 157)), (0, .inr (.inr (some 0))), (1, .inl a1), (3, .inl a3), (4, .inl a4), (5, .inl v5_3), (6, .inl v6_3), (7, .inl v7_3)]) (st' := [.inl v7_3, .inl (I 0 157), .inr (.inr (some 90))]) (h' := gr_h I43 J) (C := ((((True ∧ True) ∧ True) ∧ True) ∧ True)) rfl ⟨⟨⟨⟨trivial, trivial⟩, trivial⟩, trivial⟩, trivial⟩ ?_
            refine gv_run 1 true hD (pc' := 153) (lv' := [(8, .inl (I 0 157)), (0, .inr (.inr (some 0))), (1, .inl a1), (3, .inl a3), (4, .inl a4), (5, .inl v5_3), (6, .inl v6_3), (7, .inl v7_3)]) (st' := []) (h' := gz_up (gr_h I43 J) 90 (Int.toNat ((I 0 157))) (.inl v7_3)) (C := (True ∧ (0 ≤ (I 0 157) ∧ (I 0 157) < ((3000 : Nat) : Int)))) rfl ⟨trivial, ⟨by omega, by omega⟩⟩ ?_
            refine gr_st hI43 FI43 rfl rfl ⟨⟨by show (-1) ≤ _; omega, by show _ ≤ 2999; omega⟩, trivial⟩ (fun I49 hI49 FI49 q50 p50 => ?_)
            have t51 := p50 0 157 (fun q => absurd q.1 (by decide))
            have t52 := p50 0 143 (fun q => absurd q.1 (by decide))
            have f53 := (show 0 ≤ I49 0 157 ∧ I49 0 157 ≤ 3000 from (hI49 0 157).1)
            have f54 := (show 0 ≤ I49 0 143 ∧ I49 0 143 ≤ 24 from (hI49 0 143).1)
            refine gv_run 1 true hD (pc' := 155) (lv' := [(8, .inl (I 0 157)), (0, .inr (.inr (some 0))), (1, .inl a1), (3, .inl a3), (4, .inl a4), (5, .inl v5_3), (6, .inl v6_3), (7, .inl v7_3)]) (st' := [.inl v6_3]) (h' := gr_h I49 J) (C := (True ∧ True)) rfl ⟨trivial, trivial⟩ ?_
            refine gv_if_ge (t := 170) hD rfl rfl ⟨by omega, by omega⟩ (fun c55 => ?_) (fun c55 => ?_)
            · refine gv_run 4 true hD (pc' := 178) (lv' := [(8, .inl (I 0 157)), (0, .inr (.inr (some 0))), (1, .inl a1), (3, .inl a3), (4, .inl a4), (5, .inl v5_3), (6, .inl v6_3), (7, .inl v7_3)]) (st' := [.inl (I 0 157), .inl v6_3, .inr (.inr (some 90))]) (h' := gr_h I49 J) (C := ((((True ∧ True) ∧ True) ∧ True) ∧ True)) rfl ⟨⟨⟨⟨trivial, trivial⟩, trivial⟩, trivial⟩, trivial⟩ ?_
              refine gv_run 1 true hD (pc' := 179) (lv' := [(8, .inl (I 0 157)), (0, .inr (.inr (some 0))), (1, .inl a1), (3, .inl a3), (4, .inl a4), (5, .inl v5_3), (6, .inl v6_3), (7, .inl v7_3)]) (st' := []) (h' := gz_up (gr_h I49 J) 90 (Int.toNat v6_3) (.inl (I 0 157))) (C := (True ∧ (0 ≤ v6_3 ∧ v6_3 < ((3000 : Nat) : Int)))) rfl ⟨trivial, ⟨by omega, by omega⟩⟩ ?_
              refine gr_st hI49 FI49 rfl rfl ⟨⟨by show (-1) ≤ _; omega, by show _ ≤ 2999; omega⟩, trivial⟩ (fun I56 hI56 FI56 q57 p57 => ?_)
              have t58 := p57 0 157 (fun q => absurd q.1 (by decide))
              have t59 := p57 0 143 (fun q => absurd q.1 (by decide))
              have f60 := (show 0 ≤ I56 0 157 ∧ I56 0 157 ≤ 3000 from (hI56 0 157).1)
              have f61 := (show 0 ≤ I56 0 143 ∧ I56 0 143 ≤ 24 from (hI56 0 143).1)
              refine gv_pick [0] rfl ?_
              exact L179 I56 J (I 0 157) hI56 FI56 FJ (by omega) (gr_NX_ins (y := (Int.toNat (I 0 157))) (b := Int.toNat v6_3) (x := v7_3) x0 (by omega) (by omega) (by omega) (by rw [p57 90 (Int.toNat (I 0 157)) (fun q => by have := q.2; omega)]; exact q50) (by omega) (by omega) (by rw [q57]; omega) (fun z h1 h2 => by rw [p57 90 z (fun q => h2 q.2), p50 90 z (fun q => h1 q.2), p44 90 z (fun q => absurd q.1 (by decide)), p38 90 z (fun q => absurd q.1 (by decide)), p32 90 z (fun q => absurd q.1 (by decide)), p26 90 z (fun q => absurd q.1 (by decide)), p21 90 z (fun q => absurd q.1 (by decide))])) (gr_SB_fr x1 (fun k => by rw [p57 93 k (fun q => absurd q.1 (by decide)), p50 93 k (fun q => absurd q.1 (by decide)), p44 93 k (fun q => absurd q.1 (by decide)), p38 93 k (fun q => absurd q.1 (by decide)), p32 93 k (fun q => absurd q.1 (by decide)), p26 93 k (fun q => absurd q.1 (by decide)), p21 93 k (fun q => absurd q.1 (by decide))]) (by omega) (by omega))
            · refine gv_run 4 true hD (pc' := 166) (lv' := [(8, .inl (I 0 157)), (0, .inr (.inr (some 0))), (1, .inl a1), (3, .inl a3), (4, .inl a4), (5, .inl v5_3), (6, .inl v6_3), (7, .inl v7_3)]) (st' := [.inl (I 0 157), .inl v5_3, .inr (.inr (some 93))]) (h' := gr_h I49 J) (C := ((((True ∧ True) ∧ True) ∧ True) ∧ True)) rfl ⟨⟨⟨⟨trivial, trivial⟩, trivial⟩, trivial⟩, trivial⟩ ?_
              refine gv_run 1 true hD (pc' := 167) (lv' := [(8, .inl (I 0 157)), (0, .inr (.inr (some 0))), (1, .inl a1), (3, .inl a3), (4, .inl a4), (5, .inl v5_3), (6, .inl v6_3), (7, .inl v7_3)]) (st' := []) (h' := gz_up (gr_h I49 J) 93 (Int.toNat v5_3) (.inl (I 0 157))) (C := (True ∧ (0 ≤ v5_3 ∧ v5_3 < ((20000 : Nat) : Int)))) rfl ⟨trivial, ⟨by omega, by omega⟩⟩ ?_
              refine gr_st hI49 FI49 rfl rfl ⟨⟨by show (-1) ≤ _; omega, by show _ ≤ 2999; omega⟩, trivial⟩ (fun I62 hI62 FI62 q63 p63 => ?_)
              have t64 := p63 0 157 (fun q => absurd q.1 (by decide))
              have t65 := p63 0 143 (fun q => absurd q.1 (by decide))
              have f66 := (show 0 ≤ I62 0 157 ∧ I62 0 157 ≤ 3000 from (hI62 0 157).1)
              have f67 := (show 0 ≤ I62 0 143 ∧ I62 0 143 ≤ 24 from (hI62 0 143).1)
              refine gv_run 1 true hD (pc' := 179) (lv' := [(8, .inl (I 0 157)), (0, .inr (.inr (some 0))), (1, .inl a1), (3, .inl a3), (4, .inl a4), (5, .inl v5_3), (6, .inl v6_3), (7, .inl v7_3)]) (st' := []) (h' := gr_h I62 J) (C := (True ∧ True)) rfl ⟨trivial, trivial⟩ ?_
              refine gv_pick [0] rfl ?_
              exact L179 I62 J (I 0 157) hI62 FI62 FJ (by omega) (gr_NX_top (y := (Int.toNat (I 0 157))) (x := v7_3) x0 (by omega) (by omega) (by omega) (by rw [p63 90 (Int.toNat (I 0 157)) (fun q => absurd q.1 (by decide))]; exact q50) (fun z h1 => by rw [p63 90 z (fun q => absurd q.1 (by decide)), p50 90 z (fun q => h1 q.2), p44 90 z (fun q => absurd q.1 (by decide)), p38 90 z (fun q => absurd q.1 (by decide)), p32 90 z (fun q => absurd q.1 (by decide)), p26 90 z (fun q => absurd q.1 (by decide)), p21 90 z (fun q => absurd q.1 (by decide))])) (gr_SB_st (s := Int.toNat v5_3) x1 (fun k hk => by rw [p63 93 k (fun q => hk q.2), p50 93 k (fun q => absurd q.1 (by decide)), p44 93 k (fun q => absurd q.1 (by decide)), p38 93 k (fun q => absurd q.1 (by decide)), p32 93 k (fun q => absurd q.1 (by decide)), p26 93 k (fun q => absurd q.1 (by decide)), p21 93 k (fun q => absurd q.1 (by decide))]) (by rw [q63]; omega) (by omega) (by omega))
          · refine gv_run 3 true hD (pc' := 96) (lv' := [(0, .inr (.inr (some 0))), (1, .inl a1), (3, .inl a3), (4, .inl a4), (5, .inl v5_3), (6, .inl v6_3), (7, .inl v7_3)]) (st' := []) (h' := gz_up (gr_h I J) 0 160 (.inl 1)) (C := (((True ∧ True) ∧ True) ∧ (1 = 0 ∨ 1 = 1))) rfl ⟨⟨⟨trivial, trivial⟩, trivial⟩, (by omega)⟩ ?_
            refine gr_st hI FI rfl rfl ⟨⟨by show 0 ≤ _; omega, by show _ ≤ 1; omega⟩, trivial⟩ (fun I68 hI68 FI68 q69 p69 => ?_)
            have t70 := p69 0 157 (by decide)
            have t71 := p69 0 143 (by decide)
            have f72 := (show 0 ≤ I68 0 157 ∧ I68 0 157 ≤ 3000 from (hI68 0 157).1)
            have f73 := (show 0 ≤ I68 0 143 ∧ I68 0 143 ≤ 24 from (hI68 0 143).1)
            refine gv_run 1 true hD (pc' := 97) (lv' := [(0, .inr (.inr (some 0))), (1, .inl a1), (3, .inl a3), (4, .inl a4), (5, .inl v5_3), (6, .inl v6_3), (7, .inl v7_3)]) (st' := [.inl (-1)]) (h' := gr_h I68 J) (C := (True ∧ True)) rfl ⟨trivial, trivial⟩ ?_
            exact gv_iret hD rfl ⟨I68, J, rfl, hI68, FI68, FJ, ⟨_, rfl, by omega, by omega, ⟨p, gr_NP_fr x0 (fun k => by rw [p69 90 k (fun q => absurd q.1 (by decide))]) (by omega)⟩, (gr_SB_fr x1 (fun k => by rw [p69 93 k (fun q => absurd q.1 (by decide))]) (by omega) (by omega)), by omega, by omega⟩⟩
        refine gv_run 1 true hD (pc' := 63) (lv' := [(0, .inr (.inr (some 0))), (1, .inl a1), (3, .inl a3), (4, .inl a4), (5, .inl v5_3), (6, .inl v6_3), (7, .inl v7_3)]) (st' := [.inl v7_3]) (h' := gr_h I J) (C := (True ∧ True)) rfl ⟨trivial, trivial⟩ ?_
        refine gv_if_lt (t := 81) hD rfl rfl ⟨by omega, by omega⟩ (fun c74 => ?_) (fun c74 => ?_)
        · exact L81 (by omega)
        · have f75 := (show 0 ≤ I 89 (Int.toNat v7_3) ∧ I 89 (Int.toNat v7_3) ≤ 16777215 from (hI 89 (Int.toNat v7_3)).1)
          refine gv_run 4 true hD (pc' := 73) (lv' := [(0, .inr (.inr (some 0))), (1, .inl a1), (3, .inl a3), (4, .inl a4), (5, .inl v5_3), (6, .inl v6_3), (7, .inl v7_3)]) (st' := [.inl (I 89 (Int.toNat v7_3))]) (h' := gr_h I J) (C := ((((True ∧ True) ∧ True) ∧ True) ∧ (0 ≤ v7_3 ∧ v7_3 < ((3000 : Nat) : Int)))) rfl ⟨⟨⟨⟨trivial, trivial⟩, trivial⟩, trivial⟩, ⟨by omega, by omega⟩⟩ ?_
          refine gv_run 1 true hD (pc' := 75) (lv' := [(0, .inr (.inr (some 0))), (1, .inl a1), (3, .inl a3), (4, .inl a4), (5, .inl v5_3), (6, .inl v6_3), (7, .inl v7_3)]) (st' := [.inl a4, .inl (I 89 (Int.toNat v7_3))]) (h' := gr_h I J) (C := (True ∧ True)) rfl ⟨trivial, trivial⟩ ?_
          refine gv_icmp_ne (t := 81) hD rfl rfl ⟨⟨by omega, by omega⟩, ⟨by omega, by omega⟩⟩ (fun c76 => ?_) (fun c76 => ?_)
          · exact L81 (by omega)
          · refine gv_run 1 true hD (pc' := 80) (lv' := [(0, .inr (.inr (some 0))), (1, .inl a1), (3, .inl a3), (4, .inl a4), (5, .inl v5_3), (6, .inl v6_3), (7, .inl v7_3)]) (st' := [.inl v7_3]) (h' := gr_h I J) (C := (True ∧ True)) rfl ⟨trivial, trivial⟩ ?_
            exact gv_iret hD rfl ⟨I, J, rfl, hI, FI, FJ, ⟨_, rfl, by omega, by omega, ⟨p, x0⟩, x1, by omega, by omega⟩⟩
      refine gv_run 1 true hD (pc' := 27) (lv' := [(0, .inr (.inr (some 0))), (1, .inl a1), (3, .inl a3), (4, .inl a4), (5, .inl v5_3), (6, .inl v6_3), (7, .inl v7_3)]) (st' := [.inl v7_3]) (h' := gr_h I J) (C := (True ∧ True)) rfl ⟨trivial, trivial⟩ ?_
      refine gv_if_lt (t := 61) hD rfl rfl ⟨by omega, by omega⟩ (fun c77 => ?_) (fun c77 => ?_)
      · exact L61 (by omega)
      · have f78 := (show 0 ≤ I 89 (Int.toNat v7_3) ∧ I 89 (Int.toNat v7_3) ≤ 16777215 from (hI 89 (Int.toNat v7_3)).1)
        refine gv_run 4 true hD (pc' := 37) (lv' := [(0, .inr (.inr (some 0))), (1, .inl a1), (3, .inl a3), (4, .inl a4), (5, .inl v5_3), (6, .inl v6_3), (7, .inl v7_3)]) (st' := [.inl (I 89 (Int.toNat v7_3))]) (h' := gr_h I J) (C := ((((True ∧ True) ∧ True) ∧ True) ∧ (0 ≤ v7_3 ∧ v7_3 < ((3000 : Nat) : Int)))) rfl ⟨⟨⟨⟨trivial, trivial⟩, trivial⟩, trivial⟩, ⟨by omega, by omega⟩⟩ ?_
        refine gv_run 1 true hD (pc' := 39) (lv' := [(0, .inr (.inr (some 0))), (1, .inl a1), (3, .inl a3), (4, .inl a4), (5, .inl v5_3), (6, .inl v6_3), (7, .inl v7_3)]) (st' := [.inl a4, .inl (I 89 (Int.toNat v7_3))]) (h' := gr_h I J) (C := (True ∧ True)) rfl ⟨trivial, trivial⟩ ?_
        obtain ⟨r79, h79, E79, P79⟩ := r_compare (ws0 := ws0) (tb := tb) hws htb ext I J hI ((I 89 (Int.toNat v7_3))) a4 ⟨by omega, by omega⟩ ⟨by omega, by omega⟩ 
        obtain ⟨rfl, ⟨z79, rfl, q79⟩⟩ := P79
        refine gv_callS hD rfl (As := [.inl (I 89 (Int.toNat v7_3)), .inl a4]) (st := []) rfl (gr_lS hws rfl) (Nat.le_of_ble_eq_true rfl) (gz_Ev_mono (d := 1) (by decide) E79) ?_
        show gv_X _ _ (42, [(0, .inr (.inr (some 0))), (1, .inl a1), (3, .inl a3), (4, .inl a4), (5, .inl v5_3), (6, .inl v6_3), (7, .inl v7_3)], [.inl z79], gr_sh ++ ext, gr_h I J)
        refine gv_if_ge (t := 61) hD rfl rfl ⟨by omega, by omega⟩ (fun c80 => ?_) (fun c80 => ?_)
        · exact L61 (by omega)
        · refine gv_run 2 true hD (pc' := 49) (lv' := [(6, .inl v7_3), (0, .inr (.inr (some 0))), (1, .inl a1), (3, .inl a3), (4, .inl a4), (5, .inl v5_3), (7, .inl v7_3)]) (st' := []) (h' := gr_h I J) (C := ((True ∧ True) ∧ True)) rfl ⟨⟨trivial, trivial⟩, trivial⟩ ?_
          have t81 := x0 (Int.toNat v7_3) (by omega)
          have f82 := (show (-1) ≤ I 90 (Int.toNat v7_3) ∧ I 90 (Int.toNat v7_3) ≤ 2999 from (hI 90 (Int.toNat v7_3)).1)
          refine gv_run 4 true hD (pc' := 56) (lv' := [(6, .inl v7_3), (0, .inr (.inr (some 0))), (1, .inl a1), (3, .inl a3), (4, .inl a4), (5, .inl v5_3), (7, .inl v7_3)]) (st' := [.inl (I 90 (Int.toNat v7_3))]) (h' := gr_h I J) (C := ((((True ∧ True) ∧ True) ∧ True) ∧ (0 ≤ v7_3 ∧ v7_3 < ((3000 : Nat) : Int)))) rfl ⟨⟨⟨⟨trivial, trivial⟩, trivial⟩, trivial⟩, ⟨by omega, by omega⟩⟩ ?_
          refine gv_run 2 true hD (pc' := 25) (lv' := [(7, .inl (I 90 (Int.toNat v7_3))), (6, .inl v7_3), (0, .inr (.inr (some 0))), (1, .inl a1), (3, .inl a3), (4, .inl a4), (5, .inl v5_3)]) (st' := []) (h' := gr_h I J) (C := ((True ∧ True) ∧ True)) rfl ⟨⟨trivial, trivial⟩, trivial⟩ ?_
          refine gv_pick [2, 3, 4, 5, 6, 1, 0] rfl ?_
          exact ih25 v5_3 v7_3 ((I 90 (Int.toNat v7_3))) (by omega) (by omega)
  refine gv_run 7 true hD (pc' := 9) (lv' := [(0, .inr (.inr (some 0))), (1, .inl a1), (2, .inl a2), (3, .inl a3), (4, .inl a4)]) (st' := [.inl (((25 * a2) + a3) * 32)]) (h' := gr_h I J) (C := (((((((True ∧ True) ∧ True) ∧ True) ∧ True) ∧ True) ∧ True) ∧ True)) rfl ⟨⟨⟨⟨⟨⟨⟨trivial, trivial⟩, trivial⟩, trivial⟩, trivial⟩, trivial⟩, trivial⟩, trivial⟩ ?_
  refine gv_run 5 true hD (pc' := 16) (lv' := [(6, .inl (-1)), (5, .inl ((((25 * a2) + a3) * 32) + a1)), (0, .inr (.inr (some 0))), (1, .inl a1), (2, .inl a2), (3, .inl a3), (4, .inl a4)]) (st' := []) (h' := gr_h I J) (C := (((((True ∧ True) ∧ True) ∧ True) ∧ True) ∧ True)) rfl ⟨⟨⟨⟨⟨trivial, trivial⟩, trivial⟩, trivial⟩, trivial⟩, trivial⟩ ?_
  have t83 := gr_SB_at x1 (i := a2) (j := a3) (k := a1) ⟨by omega, by omega⟩ ⟨by omega, by omega⟩ ⟨by omega, by omega⟩
  have f84 := (show (-1) ≤ I 93 (Int.toNat (((((25 * a2) + a3) * 32) + a1))) ∧ I 93 (Int.toNat (((((25 * a2) + a3) * 32) + a1))) ≤ 2999 from (hI 93 (Int.toNat (((((25 * a2) + a3) * 32) + a1)))).1)
  refine gv_run 4 true hD (pc' := 23) (lv' := [(6, .inl (-1)), (5, .inl ((((25 * a2) + a3) * 32) + a1)), (0, .inr (.inr (some 0))), (1, .inl a1), (2, .inl a2), (3, .inl a3), (4, .inl a4)]) (st' := [.inl (I 93 (Int.toNat (((((25 * a2) + a3) * 32) + a1))))]) (h' := gr_h I J) (C := ((((True ∧ True) ∧ True) ∧ True) ∧ (0 ≤ (((((25 * a2) + a3) * 32) + a1)) ∧ (((((25 * a2) + a3) * 32) + a1)) < ((20000 : Nat) : Int)))) rfl ⟨⟨⟨⟨trivial, trivial⟩, trivial⟩, trivial⟩, ⟨by omega, by omega⟩⟩ ?_
  refine gv_run 1 true hD (pc' := 25) (lv' := [(7, .inl (I 93 (Int.toNat (((((25 * a2) + a3) * 32) + a1))))), (6, .inl (-1)), (5, .inl ((((25 * a2) + a3) * 32) + a1)), (0, .inr (.inr (some 0))), (1, .inl a1), (2, .inl a2), (3, .inl a3), (4, .inl a4)]) (st' := []) (h' := gr_h I J) (C := (True ∧ True)) rfl ⟨trivial, trivial⟩ ?_
  refine gv_pick [3, 4, 6, 7, 2, 1, 0] rfl ?_
  exact L25 _ (((((25 * a2) + a3) * 32) + a1)) (-1) ((I 93 (Int.toNat (((((25 * a2) + a3) * 32) + a1))))) (Nat.lt_succ_self _) (by omega)
