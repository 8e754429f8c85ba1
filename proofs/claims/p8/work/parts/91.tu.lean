theorem gw_o1 {x y : Int} (hx : 0 ≤ x ∧ x ≤ 1) (hy : 0 ≤ y ∧ y ≤ 1) : (Int32.ofInt x ||| Int32.ofInt y).toInt ≤ 1 := by
  have a : x = 0 ∨ x = 1 := by omega
  have b : y = 0 ∨ y = 1 := by omega
  rcases a with rfl | rfl <;> rcases b with rfl | rfl <;> decide
set_option maxHeartbeats 8000000 in
set_option maxRecDepth 100000 in
theorem r_isFact_f {ws0 : List Cond} {tb : String → gz_T} (hws : ∀ w ∈ gr_ws, w ∈ ws0) (htb : tb RX13 = gr_T) (ext : gz_Sh) (I : gr_I) (J : gr_J) (hI : gr_Inv I) (a1 : Int64) (a2 : Int) (a3 : Int) (ha2 : (-2147483648) ≤ a2 ∧ a2 ≤ 2147483647) (ha3 : (-2147483648) ≤ a3 ∧ a3 ≤ 2147483647)  : ∃ r h', gz_Ev ws0 tb 1 (yX13_isFact, cX13_isFact, 6, (some .boolean)) [.inr (.inr (some 0)), .inr (.inl a1), .inl a2, .inl a3] (gr_sh ++ ext) (gr_h I J) r (gr_sh ++ ext) h' 0 0 ∧ (h' = gr_h I J ∧ (∃ z : Int, r = some (.inl z) ∧ 0 ≤ z ∧ z ≤ 1)) := by
  have hD : gv_D (gr_E ws0 tb 0 (yX13_isFact, cX13_isFact, 6, (some .boolean)) kX13_isFact) := gq_of oX13_isFact
  refine gr_ev (d := 0) (l := kX13_isFact) (Po := fun r h' => (h' = gr_h I J ∧ (∃ z : Int, r = some (.inl z) ∧ 0 ≤ z ∧ z ≤ 1))) htb rfl (Nat.le_of_ble_eq_true rfl) ?_
  have L3 : ∀ (n : Nat) (v5_1 : Int), (65 - v5_1).toNat < n → (((-2147483648) ≤ a2 ∧ a2 ≤ 2147483647) ∧ ((-2147483648) ≤ a3 ∧ a3 ≤ 2147483647) ∧ (0 ≤ v5_1 ∧ v5_1 ≤ 64)) → gv_X (gr_E ws0 tb 0 (yX13_isFact, cX13_isFact, 6, (some .boolean)) kX13_isFact) (gv_Q cX13_isFact (some .boolean) (gr_sh ++ ext) (fun r h' => (h' = gr_h I J ∧ (∃ z : Int, r = some (.inl z) ∧ 0 ≤ z ∧ z ≤ 1)))) (3, [(0, .inr (.inr (some 0))), (1, .inr (.inl a1)), (3, .inl a2), (4, .inl a3), (5, .inl v5_1)], [], gr_sh ++ ext, gr_h I J) := by
    intro n
    induction n with
    | zero => intro v5_1 hn; exact gz_m 0 (by omega)
    | succ n ih3 =>
      intro v5_1 hn m_1
      obtain ⟨ha2_1, ha3_1, hv5_1⟩ := m_1
      have L49 : (((-2147483648) ≤ a2 ∧ a2 ≤ 2147483647) ∧ ((-2147483648) ≤ a3 ∧ a3 ≤ 2147483647) ∧ (0 ≤ v5_1 ∧ v5_1 ≤ 63)) → gv_X (gr_E ws0 tb 0 (yX13_isFact, cX13_isFact, 6, (some .boolean)) kX13_isFact) (gv_Q cX13_isFact (some .boolean) (gr_sh ++ ext) (fun r h' => (h' = gr_h I J ∧ (∃ z : Int, r = some (.inl z) ∧ 0 ≤ z ∧ z ≤ 1)))) (49, [(0, .inr (.inr (some 0))), (1, .inr (.inl a1)), (3, .inl a2), (4, .inl a3), (5, .inl v5_1)], [], gr_sh ++ ext, gr_h I J) := by
        intro m_2
        obtain ⟨ha2_2, ha3_2, hv5_1_2⟩ := m_2
        refine gv_run 2 true hD (pc' := 3) (lv' := [(5, .inl (v5_1 + 1)), (0, .inr (.inr (some 0))), (1, .inr (.inl a1)), (3, .inl a2), (4, .inl a3)]) (st' := []) (h' := gr_h I J) (C := ((True ∧ True) ∧ True)) rfl ⟨⟨trivial, trivial⟩, trivial⟩ ?_
        refine gv_pick [1, 2, 3, 4, 0] rfl ?_
        exact ih3 (v5_1 + 1) (by exact gz_m 1 (by omega)) (by exact gz_m 2 (by omega))
      have f3 := (gr_b_0_5 hI)
      refine gv_run 3 true hD (pc' := 9) (lv' := [(0, .inr (.inr (some 0))), (1, .inr (.inl a1)), (3, .inl a2), (4, .inl a3), (5, .inl v5_1)]) (st' := [.inl (I 0 5), .inl v5_1]) (h' := gr_h I J) (C := (((True ∧ True) ∧ True) ∧ True)) rfl ⟨⟨⟨trivial, trivial⟩, trivial⟩, trivial⟩ ?_
      refine gv_icmp_ge (t := 55) hD rfl rfl ⟨⟨by exact gz_m 3 (by omega), by exact gz_m 4 (by omega)⟩, ⟨by exact gz_m 5 (by omega), by exact gz_m 6 (by omega)⟩⟩ (fun c4 => ?_) (fun c4 => ?_)
      · refine gv_run 1 true hD (pc' := 56) (lv' := [(0, .inr (.inr (some 0))), (1, .inr (.inl a1)), (3, .inl a2), (4, .inl a3), (5, .inl v5_1)]) (st' := [.inl 0]) (h' := gr_h I J) (C := (True ∧ True)) rfl ⟨trivial, trivial⟩ ?_
        exact gv_zret hD rfl (by exact gz_m 7 (by omega)) ⟨rfl, ⟨_, rfl, by exact gz_m 8 (by omega)⟩⟩
      · refine gv_run 4 true hD (pc' := 19) (lv' := [(0, .inr (.inr (some 0))), (1, .inr (.inl a1)), (3, .inl a2), (4, .inl a3), (5, .inl v5_1)]) (st' := [.inr (.inl (J 5 (Int.toNat v5_1)))]) (h' := gr_h I J) (C := ((((True ∧ True) ∧ True) ∧ True) ∧ (0 ≤ v5_1 ∧ v5_1 < ((64 : Nat) : Int)))) rfl ⟨⟨⟨⟨trivial, trivial⟩, trivial⟩, trivial⟩, ⟨by exact gz_m 9 (by omega), by exact gz_m 10 (by omega)⟩⟩ ?_
        have f5 := gw_cmp ((J 5 (Int.toNat v5_1))) (a1)
        refine gv_run 2 true hD (pc' := 21) (lv' := [(0, .inr (.inr (some 0))), (1, .inr (.inl a1)), (3, .inl a2), (4, .inl a3), (5, .inl v5_1)]) (st' := [.inl ((lg_cmp ((J 5 (Int.toNat v5_1))) (a1)).toInt)]) (h' := gr_h I J) (C := ((True ∧ True) ∧ True)) rfl ⟨⟨trivial, trivial⟩, trivial⟩ ?_
        refine gv_if_ne (t := 49) hD rfl rfl ⟨by exact gz_m 11 (by omega), by exact gz_m 12 (by omega)⟩ (fun c6 => ?_) (fun c6 => ?_)
        · exact L49 (by exact gz_m 13 (by omega))
        · have f7 := (gr_b_11 hI (Int.toNat v5_1))
          refine gv_run 4 true hD (pc' := 31) (lv' := [(0, .inr (.inr (some 0))), (1, .inr (.inl a1)), (3, .inl a2), (4, .inl a3), (5, .inl v5_1)]) (st' := [.inl (I 11 (Int.toNat v5_1))]) (h' := gr_h I J) (C := ((((True ∧ True) ∧ True) ∧ True) ∧ (0 ≤ v5_1 ∧ v5_1 < ((64 : Nat) : Int)))) rfl ⟨⟨⟨⟨trivial, trivial⟩, trivial⟩, trivial⟩, ⟨by exact gz_m 14 (by omega), by exact gz_m 15 (by omega)⟩⟩ ?_
          refine gv_run 1 true hD (pc' := 32) (lv' := [(0, .inr (.inr (some 0))), (1, .inr (.inl a1)), (3, .inl a2), (4, .inl a3), (5, .inl v5_1)]) (st' := [.inl a2, .inl (I 11 (Int.toNat v5_1))]) (h' := gr_h I J) (C := (True ∧ True)) rfl ⟨trivial, trivial⟩ ?_
          refine gv_icmp_ne (t := 49) hD rfl rfl ⟨⟨by exact gz_m 16 (by omega), by exact gz_m 17 (by omega)⟩, ⟨by exact gz_m 18 (by omega), by exact gz_m 19 (by omega)⟩⟩ (fun c8 => ?_) (fun c8 => ?_)
          · exact L49 (by exact gz_m 20 (by omega))
          · have f9 := (gr_b_12 hI (Int.toNat v5_1))
            refine gv_run 4 true hD (pc' := 42) (lv' := [(0, .inr (.inr (some 0))), (1, .inr (.inl a1)), (3, .inl a2), (4, .inl a3), (5, .inl v5_1)]) (st' := [.inl (I 12 (Int.toNat v5_1))]) (h' := gr_h I J) (C := ((((True ∧ True) ∧ True) ∧ True) ∧ (0 ≤ v5_1 ∧ v5_1 < ((64 : Nat) : Int)))) rfl ⟨⟨⟨⟨trivial, trivial⟩, trivial⟩, trivial⟩, ⟨by exact gz_m 21 (by omega), by exact gz_m 22 (by omega)⟩⟩ ?_
            refine gv_run 1 true hD (pc' := 44) (lv' := [(0, .inr (.inr (some 0))), (1, .inr (.inl a1)), (3, .inl a2), (4, .inl a3), (5, .inl v5_1)]) (st' := [.inl a3, .inl (I 12 (Int.toNat v5_1))]) (h' := gr_h I J) (C := (True ∧ True)) rfl ⟨trivial, trivial⟩ ?_
            refine gv_icmp_ne (t := 49) hD rfl rfl ⟨⟨by exact gz_m 23 (by omega), by exact gz_m 24 (by omega)⟩, ⟨by exact gz_m 25 (by omega), by exact gz_m 26 (by omega)⟩⟩ (fun c10 => ?_) (fun c10 => ?_)
            · exact L49 (by exact gz_m 27 (by omega))
            · refine gv_run 1 true hD (pc' := 48) (lv' := [(0, .inr (.inr (some 0))), (1, .inr (.inl a1)), (3, .inl a2), (4, .inl a3), (5, .inl v5_1)]) (st' := [.inl 1]) (h' := gr_h I J) (C := (True ∧ True)) rfl ⟨trivial, trivial⟩ ?_
              exact gv_zret hD rfl (by exact gz_m 28 (by omega)) ⟨rfl, ⟨_, rfl, by exact gz_m 29 (by omega)⟩⟩
  refine gv_run 2 true hD (pc' := 3) (lv' := [(5, .inl 0), (0, .inr (.inr (some 0))), (1, .inr (.inl a1)), (3, .inl a2), (4, .inl a3)]) (st' := []) (h' := gr_h I J) (C := ((True ∧ True) ∧ True)) rfl ⟨⟨trivial, trivial⟩, trivial⟩ ?_
  refine gv_pick [1, 2, 3, 4, 0] rfl ?_
  exact L3 _ 0 (Nat.lt_succ_self _) (by exact gz_m 30 (by omega))
set_option maxHeartbeats 8000000 in
set_option maxRecDepth 100000 in
theorem r_holds {ws0 : List Cond} {tb : String → gz_T} (hws : ∀ w ∈ gr_ws, w ∈ ws0) (htb : tb RX13 = gr_T) (ext : gz_Sh) (a9 : Int) (b9 : Int) (S9 : Int) : ∀ (nr : Nat) (I : gr_I) (J : gr_J) (hI : gr_Inv I) (a1 : Int) (ha1 : 0 ≤ a1 ∧ a1 ≤ 1299) (x0 : gr_GH a9 b9 S9 I) (x1 : a9 ≤ a1) (x2 : a1 < b9) (x3 : I 137 (5000 + (Int.toNat a1)) ≤ I 0 220) (x4 : I 0 220 + I 137 (Int.toNat a1) ≤ 300) (x5 : I 0 221 ≤ 20000) (_ : ((I 137 (Int.toNat a1))).toNat < nr), ∃ r h', gz_Ev ws0 tb (2 + nr) (yX13_holds, cX13_holds, 12, (some .int)) [.inr (.inr (some 0)), .inl a1] (gr_sh ++ ext) (gr_h I J) r (gr_sh ++ ext) h' 0 0 ∧ (∃ (I' : gr_I) (J' : gr_J), h' = gr_h I' J' ∧ gr_Inv I' ∧ gr_fr [220, 221] [138] I I' ∧ gr_fj [220, 221] [138] J J' ∧ (∃ z : Int, r = some (.inl z) ∧ (-3) ≤ z ∧ z ≤ 1 ∧ (I' 0 220 = I 0 220) ∧ (I' 0 221 ≤ 20001) ∧ (z = -1 ∨ I' 0 221 ≤ 20000))) := by
  intro nr
  induction nr with
  | zero => intro I J hI a1 ha1 x0 x1 x2 x3 x4 x5 hnr; exact gz_m 0 (by omega)
  | succ nr ihR =>
  intro I J hI a1 ha1 x0 x1 x2 x3 x4 x5 hnr
  have FI : gr_fr [220, 221] [138] I I := fun _ _ _ => rfl
  have FJ : gr_fj [220, 221] [138] J J := fun _ _ _ => rfl
  have hD : gv_D (gr_E ws0 tb (2 + nr) (yX13_holds, cX13_holds, 12, (some .int)) kX13_holds) := gq_of oX13_holds
  refine gr_ev (d := (2 + nr)) (l := kX13_holds) (Po := fun r h' => (∃ (I' : gr_I) (J' : gr_J), h' = gr_h I' J' ∧ gr_Inv I' ∧ gr_fr [220, 221] [138] I I' ∧ gr_fj [220, 221] [138] J J' ∧ (∃ z : Int, r = some (.inl z) ∧ (-3) ≤ z ∧ z ≤ 1 ∧ (I' 0 220 = I 0 220) ∧ (I' 0 221 ≤ 20001) ∧ (z = -1 ∨ I' 0 221 ≤ 20000)))) htb rfl (Nat.le_of_ble_eq_true rfl) ?_
  have f1 := (gr_b_0_220 hI)
  have f2 := (gr_b_0_221 hI)
  have f3 := (gr_b_0_4 hI)
  have L118 : ∀ (I4 : gr_I) (J5 : gr_J) (v3_6 : Int) (v4_6 : Int) (v5_6 : Int), gr_Inv I4 → gr_fr [220, 221] [138] I I4 → gr_fj [220, 221] [138] J J5 → ((0 ≤ v3_6 ∧ v3_6 ≤ 1299) ∧ (0 ≤ v4_6 ∧ v4_6 ≤ 1299) ∧ ((-1) ≤ v5_6 ∧ v5_6 ≤ 1299) ∧ (a9 ≤ v3_6 ∧ v3_6 < b9) ∧ (a9 ≤ v4_6 ∧ v4_6 < b9) ∧ (I 137 (Int.toNat v4_6) < I 137 (Int.toNat a1)) ∧ (I 137 (5000 + Int.toNat v4_6) ≤ I 137 (5000 + (Int.toNat a1))) ∧ (v5_6 < 0 ∨ ((a9 ≤ v5_6 ∧ v5_6 < b9) ∧ I 137 (Int.toNat v5_6) < I 137 (Int.toNat a1) ∧ I 137 (5000 + Int.toNat v5_6) ≤ I 137 (5000 + (Int.toNat a1)))) ∧ (I4 0 220 = I 0 220) ∧ (I4 0 221 ≤ 20000)) → gv_X (gr_E ws0 tb (2 + nr) (yX13_holds, cX13_holds, 12, (some .int)) kX13_holds) (gv_Q cX13_holds (some .int) (gr_sh ++ ext) (fun r h' => (∃ (I' : gr_I) (J' : gr_J), h' = gr_h I' J' ∧ gr_Inv I' ∧ gr_fr [220, 221] [138] I I' ∧ gr_fj [220, 221] [138] J J' ∧ (∃ z : Int, r = some (.inl z) ∧ (-3) ≤ z ∧ z ≤ 1 ∧ (I' 0 220 = I 0 220) ∧ (I' 0 221 ≤ 20001) ∧ (z = -1 ∨ I' 0 221 ≤ 20000))))) (118, [(0, .inr (.inr (some 0))), (3, .inl v3_6), (4, .inl v4_6), (5, .inl v5_6)], [], gr_sh ++ ext, gr_h I4 J5) := by
    intro I4 J5 v3_6 v4_6 v5_6 hI4 FI4 FJ5 m_6
    obtain ⟨hv3_6, hv4_6, hv5_6, e0_6, e1_6, e2_6, e3_6, e4_6, e5_6, e6_6⟩ := m_6
    have f7 := (gr_b_0_220 hI4)
    have f8 := (gr_b_0_221 hI4)
    have f9 := (gr_b_0_4 hI4)
    have L169 : ∀ (v6_10 : Int64), ((0 ≤ v4_6 ∧ v4_6 ≤ 1299) ∧ ((-1) ≤ v5_6 ∧ v5_6 ≤ 1299) ∧ (I4 0 220 = I 0 220) ∧ (I4 0 221 ≤ 20000)) → gv_X (gr_E ws0 tb (2 + nr) (yX13_holds, cX13_holds, 12, (some .int)) kX13_holds) (gv_Q cX13_holds (some .int) (gr_sh ++ ext) (fun r h' => (∃ (I' : gr_I) (J' : gr_J), h' = gr_h I' J' ∧ gr_Inv I' ∧ gr_fr [220, 221] [138] I I' ∧ gr_fj [220, 221] [138] J J' ∧ (∃ z : Int, r = some (.inl z) ∧ (-3) ≤ z ∧ z ≤ 1 ∧ (I' 0 220 = I 0 220) ∧ (I' 0 221 ≤ 20001) ∧ (z = -1 ∨ I' 0 221 ≤ 20000))))) (169, [(0, .inr (.inr (some 0))), (4, .inl v4_6), (5, .inl v5_6), (6, .inr (.inl v6_10))], [], gr_sh ++ ext, gr_h I4 J5) := by
      intro v6_10 m_10
      obtain ⟨hv4_6_10, hv5_6_10, e0_10, e1_10⟩ := m_10
      have f11 := (gr_b_0_220 hI4)
      have f12 := (gr_b_0_221 hI4)
      have f13 := (gr_b_0_4 hI4)
      have L177 : ((0 ≤ v4_6 ∧ v4_6 ≤ 1299) ∧ (0 ≤ v5_6 ∧ v5_6 ≤ 1299) ∧ (a9 ≤ v4_6 ∧ v4_6 < b9) ∧ (I 137 (Int.toNat v4_6) < I 137 (Int.toNat a1)) ∧ (I 137 (5000 + Int.toNat v4_6) ≤ I 137 (5000 + (Int.toNat a1))) ∧ (v5_6 < 0 ∨ ((a9 ≤ v5_6 ∧ v5_6 < b9) ∧ I 137 (Int.toNat v5_6) < I 137 (Int.toNat a1) ∧ I 137 (5000 + Int.toNat v5_6) ≤ I 137 (5000 + (Int.toNat a1)))) ∧ (0 ≤ v5_6) ∧ (I4 0 220 = I 0 220) ∧ (I4 0 221 ≤ 20000)) → gv_X (gr_E ws0 tb (2 + nr) (yX13_holds, cX13_holds, 12, (some .int)) kX13_holds) (gv_Q cX13_holds (some .int) (gr_sh ++ ext) (fun r h' => (∃ (I' : gr_I) (J' : gr_J), h' = gr_h I' J' ∧ gr_Inv I' ∧ gr_fr [220, 221] [138] I I' ∧ gr_fj [220, 221] [138] J J' ∧ (∃ z : Int, r = some (.inl z) ∧ (-3) ≤ z ∧ z ≤ 1 ∧ (I' 0 220 = I 0 220) ∧ (I' 0 221 ≤ 20001) ∧ (z = -1 ∨ I' 0 221 ≤ 20000))))) (177, [(0, .inr (.inr (some 0))), (4, .inl v4_6), (5, .inl v5_6), (6, .inr (.inl v6_10))], [], gr_sh ++ ext, gr_h I4 J5) := by
        intro m_14
        obtain ⟨hv4_6_14, hv5_6_14, e0_14, e1_14, e2_14, e3_14, e4_14, e5_14, e6_14⟩ := m_14
        have f15 := (gr_b_0_220 hI4)
        have f16 := (gr_b_0_221 hI4)
        have f17 := (gr_b_0_4 hI4)
        have L219 : ∀ (I18 : gr_I) (J19 : gr_J) , gr_Inv I18 → gr_fr [220, 221] [138] I I18 → gr_fj [220, 221] [138] J J19 → ((I18 0 220 = I 0 220) ∧ (I18 0 221 ≤ 20000)) → gv_X (gr_E ws0 tb (2 + nr) (yX13_holds, cX13_holds, 12, (some .int)) kX13_holds) (gv_Q cX13_holds (some .int) (gr_sh ++ ext) (fun r h' => (∃ (I' : gr_I) (J' : gr_J), h' = gr_h I' J' ∧ gr_Inv I' ∧ gr_fr [220, 221] [138] I I' ∧ gr_fj [220, 221] [138] J J' ∧ (∃ z : Int, r = some (.inl z) ∧ (-3) ≤ z ∧ z ≤ 1 ∧ (I' 0 220 = I 0 220) ∧ (I' 0 221 ≤ 20001) ∧ (z = -1 ∨ I' 0 221 ≤ 20000))))) (219, [], [], gr_sh ++ ext, gr_h I18 J19) := by
          intro I18 J19 hI18 FI18 FJ19 m_20
          clear hv4_6_14 hv5_6_14 e0_14 e1_14 e2_14 e3_14 e4_14 e5_14 e6_14 f15 f16 f17 hv4_6_10 hv5_6_10 e0_10 e1_10 f11 f12 f13 hv3_6 hv4_6 hv5_6 e0_6 e1_6 e2_6 e3_6 e4_6 e5_6 e6_6 f7 f8 f9
          obtain ⟨e0_20, e1_20⟩ := m_20
          have f21 := (gr_b_0_220 hI18)
          have f22 := (gr_b_0_221 hI18)
          have f23 := (gr_b_0_4 hI18)
          refine gv_run 1 true hD (pc' := 221) (lv' := []) (st' := [.inl (-3)]) (h' := gr_h I18 J19) (C := (True ∧ True)) rfl ⟨trivial, trivial⟩ ?_
          exact gv_iret hD rfl ⟨I18, J19, rfl, hI18, FI18, FJ19, ⟨_, rfl, by exact gz_m 1 (by omega)⟩⟩
        have L270 : ∀ (I24 : gr_I) (J25 : gr_J) (s0_26 : Int), gr_Inv I24 → gr_fr [220, 221] [138] I I24 → gr_fj [220, 221] [138] J J25 → ((0 ≤ s0_26 ∧ s0_26 ≤ 16777215) ∧ (s0_26 ≤ 1) ∧ (I24 0 220 = I 0 220) ∧ (I24 0 221 ≤ 20000)) → gv_X (gr_E ws0 tb (2 + nr) (yX13_holds, cX13_holds, 12, (some .int)) kX13_holds) (gv_Q cX13_holds (some .int) (gr_sh ++ ext) (fun r h' => (∃ (I' : gr_I) (J' : gr_J), h' = gr_h I' J' ∧ gr_Inv I' ∧ gr_fr [220, 221] [138] I I' ∧ gr_fj [220, 221] [138] J J' ∧ (∃ z : Int, r = some (.inl z) ∧ (-3) ≤ z ∧ z ≤ 1 ∧ (I' 0 220 = I 0 220) ∧ (I' 0 221 ≤ 20001) ∧ (z = -1 ∨ I' 0 221 ≤ 20000))))) (270, [], [.inl s0_26], gr_sh ++ ext, gr_h I24 J25) := by
          intro I24 J25 s0_26 hI24 FI24 FJ25 m_26
          clear hv4_6_14 hv5_6_14 e0_14 e1_14 e2_14 e3_14 e4_14 e5_14 e6_14 f15 f16 f17 hv4_6_10 hv5_6_10 e0_10 e1_10 f11 f12 f13 hv3_6 hv4_6 hv5_6 e0_6 e1_6 e2_6 e3_6 e4_6 e5_6 e6_6 f7 f8 f9
          obtain ⟨hs0_26, e0_26, e1_26, e2_26⟩ := m_26
          have f27 := (gr_b_0_220 hI24)
          have f28 := (gr_b_0_221 hI24)
          have f29 := (gr_b_0_4 hI24)
          exact gv_iret hD rfl ⟨I24, J25, rfl, hI24, FI24, FJ25, ⟨_, rfl, by exact gz_m 2 (by omega)⟩⟩
        have t30 := x0.1
        have t31 := gr_GH_b x0 (x := a1) ⟨by exact gz_m 3 (by omega), by exact gz_m 4 (by omega)⟩
        have t32 := gr_GH_b x0 (x := v4_6) ⟨by exact gz_m 5 (by omega), by exact gz_m 6 (by omega)⟩
        refine gv_run 2 true hD (pc' := 180) (lv' := [(0, .inr (.inr (some 0))), (4, .inl v4_6), (5, .inl v5_6), (6, .inr (.inl v6_10))]) (st' := [.inl v4_6, .inr (.inr (some 0))]) (h' := gr_h I4 J5) (C := ((True ∧ True) ∧ True)) rfl ⟨⟨trivial, trivial⟩, trivial⟩ ?_
        have t33 := FI4 137 (Int.toNat v4_6) rfl
        obtain ⟨r34, h34, E34, P34⟩ := ihR I4 J5 hI4 v4_6 ⟨by exact gz_m 7 (by omega), by exact gz_m 8 (by omega)⟩ (gr_GH_F x0 FI4) (by exact gz_m 9 (by omega)) (by exact gz_m 10 (by omega)) (by rw [FI4 137 _ rfl]; exact gz_m 11 (by omega)) (by rw [FI4 137 _ rfl]; exact gz_m 12 (by omega)) (by exact gz_m 13 (by omega)) (by exact gz_m 14 (by omega))
        obtain ⟨I35, J36, rfl, hI35, g34, k34, ⟨z34, rfl, q34⟩⟩ := P34
        have FI35 := gr_frt FI4 g34 rfl rfl
        have FJ36 := gr_fjt FJ5 k34 rfl rfl
        have t37 := g34 0 4 rfl
        have f38 := (gr_b_0_220 hI35)
        have f39 := (gr_b_0_221 hI35)
        have f40 := (gr_b_0_4 hI35)
        refine gv_callV hD rfl (As := [.inl v4_6]) (st := []) rfl (by decide) rfl rfl (gr_lV hws rfl) (Nat.le_of_ble_eq_true rfl) (gz_Ev_mono (d := (2 + nr)) (Nat.le_refl _) E34) ?_
        show gv_X _ _ (183, [(0, .inr (.inr (some 0))), (4, .inl v4_6), (5, .inl v5_6), (6, .inr (.inl v6_10))], [.inl z34], gr_sh ++ ext, gr_h I35 J36)
        refine gv_run 3 true hD (pc' := 188) (lv' := [(8, .inl z34), (0, .inr (.inr (some 0))), (4, .inl v4_6), (5, .inl v5_6), (6, .inr (.inl v6_10))]) (st' := [.inl (-1), .inl z34]) (h' := gr_h I35 J36) (C := (((True ∧ True) ∧ True) ∧ True)) rfl ⟨⟨⟨trivial, trivial⟩, trivial⟩, trivial⟩ ?_
        refine gv_icmp_ne (t := 193) hD rfl rfl ⟨⟨by exact gz_m 15 (by omega), by exact gz_m 16 (by omega)⟩, ⟨by exact gz_m 17 (by omega), by exact gz_m 18 (by omega)⟩⟩ (fun c41 => ?_) (fun c41 => ?_)
        · have t42 := x0.1
          have t43 := gr_GH_b x0 (x := a1) ⟨by exact gz_m 19 (by omega), by exact gz_m 20 (by omega)⟩
          refine gv_run 2 true hD (pc' := 196) (lv' := [(8, .inl z34), (0, .inr (.inr (some 0))), (4, .inl v4_6), (5, .inl v5_6), (6, .inr (.inl v6_10))]) (st' := [.inl v5_6, .inr (.inr (some 0))]) (h' := gr_h I35 J36) (C := ((True ∧ True) ∧ True)) rfl ⟨⟨trivial, trivial⟩, trivial⟩ ?_
          have t44 := FI35 137 (Int.toNat v5_6) rfl
          obtain ⟨r45, h45, E45, P45⟩ := ihR I35 J36 hI35 v5_6 ⟨by exact gz_m 21 (by omega), by exact gz_m 22 (by omega)⟩ (gr_GH_F x0 FI35) (by exact gz_m 23 (by omega)) (by exact gz_m 24 (by omega)) (by rw [FI35 137 _ rfl]; exact gz_m 25 (by omega)) (by rw [FI35 137 _ rfl]; exact gz_m 26 (by omega)) (by exact gz_m 27 (by omega)) (by exact gz_m 28 (by omega))
          obtain ⟨I46, J47, rfl, hI46, g45, k45, ⟨z45, rfl, q45⟩⟩ := P45
          have FI46 := gr_frt FI35 g45 rfl rfl
          have FJ47 := gr_fjt FJ36 k45 rfl rfl
          have t48 := g45 0 4 rfl
          have f49 := (gr_b_0_220 hI46)
          have f50 := (gr_b_0_221 hI46)
          have f51 := (gr_b_0_4 hI46)
          refine gv_callV hD rfl (As := [.inl v5_6]) (st := []) rfl (by decide) rfl rfl (gr_lV hws rfl) (Nat.le_of_ble_eq_true rfl) (gz_Ev_mono (d := (2 + nr)) (Nat.le_refl _) E45) ?_
          show gv_X _ _ (199, [(8, .inl z34), (0, .inr (.inr (some 0))), (4, .inl v4_6), (5, .inl v5_6), (6, .inr (.inl v6_10))], [.inl z45], gr_sh ++ ext, gr_h I46 J47)
          refine gv_run 3 true hD (pc' := 204) (lv' := [(9, .inl z45), (8, .inl z34), (0, .inr (.inr (some 0))), (4, .inl v4_6), (5, .inl v5_6), (6, .inr (.inl v6_10))]) (st' := [.inl (-1), .inl z45]) (h' := gr_h I46 J47) (C := (((True ∧ True) ∧ True) ∧ True)) rfl ⟨⟨⟨trivial, trivial⟩, trivial⟩, trivial⟩ ?_
          refine gv_icmp_ne (t := 209) hD rfl rfl ⟨⟨by exact gz_m 29 (by omega), by exact gz_m 30 (by omega)⟩, ⟨by exact gz_m 31 (by omega), by exact gz_m 32 (by omega)⟩⟩ (fun c52 => ?_) (fun c52 => ?_)
          · refine gv_run 1 true hD (pc' := 211) (lv' := [(9, .inl z45), (8, .inl z34), (0, .inr (.inr (some 0))), (4, .inl v4_6), (5, .inl v5_6), (6, .inr (.inl v6_10))]) (st' := [.inl z34]) (h' := gr_h I46 J47) (C := (True ∧ True)) rfl ⟨trivial, trivial⟩ ?_
            refine gv_if_lt (t := 219) hD rfl rfl ⟨by exact gz_m 33 (by omega), by exact gz_m 34 (by omega)⟩ (fun c53 => ?_) (fun c53 => ?_)
            · refine gv_pick [] rfl ?_
              exact L219 I46 J47 hI46 FI46 FJ47 (by exact gz_m 35 (by omega))
            · refine gv_run 1 true hD (pc' := 216) (lv' := [(9, .inl z45), (8, .inl z34), (0, .inr (.inr (some 0))), (4, .inl v4_6), (5, .inl v5_6), (6, .inr (.inl v6_10))]) (st' := [.inl z45]) (h' := gr_h I46 J47) (C := (True ∧ True)) rfl ⟨trivial, trivial⟩ ?_
              refine gv_if_ge (t := 222) hD rfl rfl ⟨by exact gz_m 36 (by omega), by exact gz_m 37 (by omega)⟩ (fun c54 => ?_) (fun c54 => ?_)
              · have f55 := gw_cmp (v6_10) ((J47 0 222))
                refine gv_run 4 true hD (pc' := 229) (lv' := [(9, .inl z45), (8, .inl z34), (0, .inr (.inr (some 0))), (4, .inl v4_6), (5, .inl v5_6), (6, .inr (.inl v6_10))]) (st' := [.inl ((lg_cmp (v6_10) ((J47 0 222))).toInt)]) (h' := gr_h I46 J47) (C := ((((True ∧ True) ∧ True) ∧ True) ∧ True)) rfl ⟨⟨⟨⟨trivial, trivial⟩, trivial⟩, trivial⟩, trivial⟩ ?_
                refine gv_if_ne (t := 240) hD rfl rfl ⟨by exact gz_m 38 (by omega), by exact gz_m 39 (by omega)⟩ (fun c56 => ?_) (fun c56 => ?_)
                · have f57 := gw_cmp (v6_10) ((J47 0 223))
                  refine gv_run 4 true hD (pc' := 247) (lv' := [(9, .inl z45), (8, .inl z34), (0, .inr (.inr (some 0))), (4, .inl v4_6), (5, .inl v5_6), (6, .inr (.inl v6_10))]) (st' := [.inl ((lg_cmp (v6_10) ((J47 0 223))).toInt)]) (h' := gr_h I46 J47) (C := ((((True ∧ True) ∧ True) ∧ True) ∧ True)) rfl ⟨⟨⟨⟨trivial, trivial⟩, trivial⟩, trivial⟩, trivial⟩ ?_
                  refine gv_if_ne (t := 258) hD rfl rfl ⟨by exact gz_m 40 (by omega), by exact gz_m 41 (by omega)⟩ (fun c58 => ?_) (fun c58 => ?_)
                  · refine gv_run 2 true hD (pc' := 261) (lv' := [(9, .inl z45), (8, .inl z34), (0, .inr (.inr (some 0))), (4, .inl v4_6), (5, .inl v5_6), (6, .inr (.inl v6_10))]) (st' := [.inl 1, .inl z34]) (h' := gr_h I46 J47) (C := ((True ∧ True) ∧ True)) rfl ⟨⟨trivial, trivial⟩, trivial⟩ ?_
                    refine gv_icmp_ne (t := 269) hD rfl rfl ⟨⟨by exact gz_m 42 (by omega), by exact gz_m 43 (by omega)⟩, ⟨by exact gz_m 44 (by omega), by exact gz_m 45 (by omega)⟩⟩ (fun c59 => ?_) (fun c59 => ?_)
                    · refine gv_run 1 true hD (pc' := 270) (lv' := [(9, .inl z45), (8, .inl z34), (0, .inr (.inr (some 0))), (4, .inl v4_6), (5, .inl v5_6), (6, .inr (.inl v6_10))]) (st' := [.inl 1]) (h' := gr_h I46 J47) (C := (True ∧ True)) rfl ⟨trivial, trivial⟩ ?_
                      refine gv_pick [] rfl ?_
                      exact L270 I46 J47 1 hI46 FI46 FJ47 (by exact gz_m 46 (by omega))
                    · refine gv_run 2 true hD (pc' := 270) (lv' := [(9, .inl z45), (8, .inl z34), (0, .inr (.inr (some 0))), (4, .inl v4_6), (5, .inl v5_6), (6, .inr (.inl v6_10))]) (st' := [.inl z45]) (h' := gr_h I46 J47) (C := ((True ∧ True) ∧ True)) rfl ⟨⟨trivial, trivial⟩, trivial⟩ ?_
                      refine gv_pick [] rfl ?_
                      exact L270 I46 J47 z45 hI46 FI46 FJ47 (by exact gz_m 47 (by omega))
                  · refine gv_run 2 true hD (pc' := 254) (lv' := [(9, .inl z45), (8, .inl z34), (0, .inr (.inr (some 0))), (4, .inl v4_6), (5, .inl v5_6), (6, .inr (.inl v6_10))]) (st' := [.inl z45, .inl z34]) (h' := gr_h I46 J47) (C := ((True ∧ True) ∧ True)) rfl ⟨⟨trivial, trivial⟩, trivial⟩ ?_
                    have t60 := gw_o1 (x := z34) (y := z45) ⟨by exact gz_m 48 (by omega), by exact gz_m 49 (by omega)⟩ ⟨by exact gz_m 50 (by omega), by exact gz_m 51 (by omega)⟩
                    have f61 := gw_or (x := z34) (y := z45) ⟨by exact gz_m 52 (by omega), by exact gz_m 53 (by omega)⟩ ⟨by exact gz_m 54 (by omega), by exact gz_m 55 (by omega)⟩
                    refine gv_run 2 true hD (pc' := 270) (lv' := [(9, .inl z45), (8, .inl z34), (0, .inr (.inr (some 0))), (4, .inl v4_6), (5, .inl v5_6), (6, .inr (.inl v6_10))]) (st' := [.inl ((Int32.ofInt z34 ||| Int32.ofInt z45).toInt)]) (h' := gr_h I46 J47) (C := ((True ∧ True) ∧ True)) rfl ⟨⟨trivial, trivial⟩, trivial⟩ ?_
                    refine gv_pick [] rfl ?_
                    exact L270 I46 J47 (((Int32.ofInt z34 ||| Int32.ofInt z45).toInt)) hI46 FI46 FJ47 (by exact gz_m 56 (by omega))
                · have f62 := gw_andl (x := z34) (y := z45) ⟨by exact gz_m 57 (by omega), by exact gz_m 58 (by omega)⟩
                  refine gv_run 4 true hD (pc' := 270) (lv' := [(9, .inl z45), (8, .inl z34), (0, .inr (.inr (some 0))), (4, .inl v4_6), (5, .inl v5_6), (6, .inr (.inl v6_10))]) (st' := [.inl ((Int32.ofInt z34 &&& Int32.ofInt z45).toInt)]) (h' := gr_h I46 J47) (C := ((((True ∧ True) ∧ True) ∧ True) ∧ True)) rfl ⟨⟨⟨⟨trivial, trivial⟩, trivial⟩, trivial⟩, trivial⟩ ?_
                  refine gv_pick [] rfl ?_
                  exact L270 I46 J47 (((Int32.ofInt z34 &&& Int32.ofInt z45).toInt)) hI46 FI46 FJ47 (by exact gz_m 59 (by omega))
              · refine gv_pick [] rfl ?_
                exact L219 I46 J47 hI46 FI46 FJ47 (by exact gz_m 60 (by omega))
          · refine gv_run 1 true hD (pc' := 208) (lv' := [(9, .inl z45), (8, .inl z34), (0, .inr (.inr (some 0))), (4, .inl v4_6), (5, .inl v5_6), (6, .inr (.inl v6_10))]) (st' := [.inl (-1)]) (h' := gr_h I46 J47) (C := (True ∧ True)) rfl ⟨trivial, trivial⟩ ?_
            exact gv_iret hD rfl ⟨I46, J47, rfl, hI46, FI46, FJ47, ⟨_, rfl, by exact gz_m 61 (by omega)⟩⟩
        · refine gv_run 1 true hD (pc' := 192) (lv' := [(8, .inl z34), (0, .inr (.inr (some 0))), (4, .inl v4_6), (5, .inl v5_6), (6, .inr (.inl v6_10))]) (st' := [.inl (-1)]) (h' := gr_h I35 J36) (C := (True ∧ True)) rfl ⟨trivial, trivial⟩ ?_
          exact gv_iret hD rfl ⟨I35, J36, rfl, hI35, FI35, FJ36, ⟨_, rfl, by exact gz_m 62 (by omega)⟩⟩
      refine gv_run 1 true hD (pc' := 171) (lv' := [(0, .inr (.inr (some 0))), (4, .inl v4_6), (5, .inl v5_6), (6, .inr (.inl v6_10))]) (st' := [.inl v5_6]) (h' := gr_h I4 J5) (C := (True ∧ True)) rfl ⟨trivial, trivial⟩ ?_
      refine gv_if_ge (t := 177) hD rfl rfl ⟨by exact gz_m 63 (by omega), by exact gz_m 64 (by omega)⟩ (fun c63 => ?_) (fun c63 => ?_)
      · exact L177 (by exact gz_m 65 (by omega))
      · refine gv_run 1 true hD (pc' := 176) (lv' := [(0, .inr (.inr (some 0))), (4, .inl v4_6), (5, .inl v5_6), (6, .inr (.inl v6_10))]) (st' := [.inl (-3)]) (h' := gr_h I4 J5) (C := (True ∧ True)) rfl ⟨trivial, trivial⟩ ?_
        exact gv_iret hD rfl ⟨I4, J5, rfl, hI4, FI4, FJ5, ⟨_, rfl, by exact gz_m 66 (by omega)⟩⟩
    have L332 : ∀ (v6_64 : Int64), ((0 ≤ v4_6 ∧ v4_6 ≤ 1299) ∧ ((-1) ≤ v5_6 ∧ v5_6 ≤ 1299) ∧ (I4 0 220 = I 0 220) ∧ (I4 0 221 ≤ 20000)) → gv_X (gr_E ws0 tb (2 + nr) (yX13_holds, cX13_holds, 12, (some .int)) kX13_holds) (gv_Q cX13_holds (some .int) (gr_sh ++ ext) (fun r h' => (∃ (I' : gr_I) (J' : gr_J), h' = gr_h I' J' ∧ gr_Inv I' ∧ gr_fr [220, 221] [138] I I' ∧ gr_fj [220, 221] [138] J J' ∧ (∃ z : Int, r = some (.inl z) ∧ (-3) ≤ z ∧ z ≤ 1 ∧ (I' 0 220 = I 0 220) ∧ (I' 0 221 ≤ 20001) ∧ (z = -1 ∨ I' 0 221 ≤ 20000))))) (332, [(0, .inr (.inr (some 0))), (4, .inl v4_6), (5, .inl v5_6), (6, .inr (.inl v6_64))], [], gr_sh ++ ext, gr_h I4 J5) := by
      intro v6_64 m_64
      obtain ⟨hv4_6_64, hv5_6_64, e0_64, e1_64⟩ := m_64
      have f65 := (gr_b_0_220 hI4)
      have f66 := (gr_b_0_221 hI4)
      have f67 := (gr_b_0_4 hI4)
      have L347 : ((I4 0 220 = I 0 220) ∧ (I4 0 221 ≤ 20000)) → gv_X (gr_E ws0 tb (2 + nr) (yX13_holds, cX13_holds, 12, (some .int)) kX13_holds) (gv_Q cX13_holds (some .int) (gr_sh ++ ext) (fun r h' => (∃ (I' : gr_I) (J' : gr_J), h' = gr_h I' J' ∧ gr_Inv I' ∧ gr_fr [220, 221] [138] I I' ∧ gr_fj [220, 221] [138] J J' ∧ (∃ z : Int, r = some (.inl z) ∧ (-3) ≤ z ∧ z ≤ 1 ∧ (I' 0 220 = I 0 220) ∧ (I' 0 221 ≤ 20001) ∧ (z = -1 ∨ I' 0 221 ≤ 20000))))) (347, [], [], gr_sh ++ ext, gr_h I4 J5) := by
        intro m_68
        obtain ⟨e0_68, e1_68⟩ := m_68
        have f69 := (gr_b_0_220 hI4)
        have f70 := (gr_b_0_221 hI4)
        have f71 := (gr_b_0_4 hI4)
        refine gv_run 1 true hD (pc' := 349) (lv' := []) (st' := [.inl (-3)]) (h' := gr_h I4 J5) (C := (True ∧ True)) rfl ⟨trivial, trivial⟩ ?_
        exact gv_iret hD rfl ⟨I4, J5, rfl, hI4, FI4, FJ5, ⟨_, rfl, by exact gz_m 67 (by omega)⟩⟩
      have L365 : ∀ (s0_72 : Int), ((0 ≤ v4_6 ∧ v4_6 ≤ 1299) ∧ (0 ≤ s0_72 ∧ s0_72 ≤ 1) ∧ (I 134 (Int.toNat v4_6) = 0) ∧ (I4 0 220 = I 0 220) ∧ (I4 0 221 ≤ 20000)) → gv_X (gr_E ws0 tb (2 + nr) (yX13_holds, cX13_holds, 12, (some .int)) kX13_holds) (gv_Q cX13_holds (some .int) (gr_sh ++ ext) (fun r h' => (∃ (I' : gr_I) (J' : gr_J), h' = gr_h I' J' ∧ gr_Inv I' ∧ gr_fr [220, 221] [138] I I' ∧ gr_fj [220, 221] [138] J J' ∧ (∃ z : Int, r = some (.inl z) ∧ (-3) ≤ z ∧ z ≤ 1 ∧ (I' 0 220 = I 0 220) ∧ (I' 0 221 ≤ 20001) ∧ (z = -1 ∨ I' 0 221 ≤ 20000))))) (365, [(0, .inr (.inr (some 0))), (4, .inl v4_6), (6, .inr (.inl v6_64))], [.inl s0_72], gr_sh ++ ext, gr_h I4 J5) := by
        intro s0_72 m_72
        obtain ⟨hv4_6_72, hs0_72, e0_72, e1_72, e2_72⟩ := m_72
        have f73 := (gr_b_0_220 hI4)
        have f74 := (gr_b_0_221 hI4)
        have f75 := (gr_b_0_4 hI4)
        have L373 : ∀ (n : Nat) (I76 : gr_I) (J77 : gr_J) (v8_78 : Int) (v9_78 : Int) (v10_78 : Int), (9 - v10_78).toNat < n → gr_Inv I76 → gr_fr [220, 221] [138] I I76 → gr_fj [220, 221] [138] J J77 → ((0 ≤ v4_6 ∧ v4_6 ≤ 1299) ∧ (0 ≤ v8_78 ∧ v8_78 ≤ 1) ∧ (0 ≤ v9_78 ∧ v9_78 ≤ 1) ∧ (0 ≤ v10_78 ∧ v10_78 ≤ 8) ∧ (a9 ≤ v4_6 ∧ v4_6 < b9) ∧ (I 137 (Int.toNat v4_6) < I 137 (Int.toNat a1)) ∧ (I 137 (5000 + Int.toNat v4_6) ≤ I 137 (5000 + (Int.toNat a1))) ∧ (I 134 (Int.toNat v4_6) = 0) ∧ (I76 0 220 = I 0 220) ∧ (I76 0 221 ≤ 20000)) → gv_X (gr_E ws0 tb (2 + nr) (yX13_holds, cX13_holds, 12, (some .int)) kX13_holds) (gv_Q cX13_holds (some .int) (gr_sh ++ ext) (fun r h' => (∃ (I' : gr_I) (J' : gr_J), h' = gr_h I' J' ∧ gr_Inv I' ∧ gr_fr [220, 221] [138] I I' ∧ gr_fj [220, 221] [138] J J' ∧ (∃ z : Int, r = some (.inl z) ∧ (-3) ≤ z ∧ z ≤ 1 ∧ (I' 0 220 = I 0 220) ∧ (I' 0 221 ≤ 20001) ∧ (z = -1 ∨ I' 0 221 ≤ 20000))))) (373, [(0, .inr (.inr (some 0))), (4, .inl v4_6), (6, .inr (.inl v6_64)), (8, .inl v8_78), (9, .inl v9_78), (10, .inl v10_78)], [], gr_sh ++ ext, gr_h I76 J77) := by
          intro n
          induction n with
          | zero => intro I76 J77 v8_78 v9_78 v10_78 hn; exact gz_m 68 (by omega)
          | succ n ih373 =>
            intro I76 J77 v8_78 v9_78 v10_78 hn hI76 FI76 FJ77 m_78
            clear hv4_6_72 hs0_72 e0_72 e1_72 e2_72 f73 f74 f75 hv4_6_64 hv5_6_64 e0_64 e1_64 f65 f66 f67 hv3_6 hv4_6 hv5_6 e0_6 e1_6 e2_6 e3_6 e4_6 e5_6 e6_6 f7 f8 f9
            obtain ⟨hv4_6_78, hv8_78, hv9_78, hv10_78, e0_78, e1_78, e2_78, e3_78, e4_78, e5_78⟩ := m_78
            have f79 := (gr_b_0_220 hI76)
            have f80 := (gr_b_0_221 hI76)
            have f81 := (gr_b_0_4 hI76)
            have L467 : ∀ (I82 : gr_I) (J83 : gr_J) (v8_84 : Int) (v9_84 : Int), gr_Inv I82 → gr_fr [220, 221] [138] I I82 → gr_fj [220, 221] [138] J J83 → ((0 ≤ v4_6 ∧ v4_6 ≤ 1299) ∧ (0 ≤ v8_84 ∧ v8_84 ≤ 1) ∧ (0 ≤ v9_84 ∧ v9_84 ≤ 1) ∧ (0 ≤ v10_78 ∧ v10_78 ≤ 7) ∧ (a9 ≤ v4_6 ∧ v4_6 < b9) ∧ (I 137 (Int.toNat v4_6) < I 137 (Int.toNat a1)) ∧ (I 137 (5000 + Int.toNat v4_6) ≤ I 137 (5000 + (Int.toNat a1))) ∧ (I 134 (Int.toNat v4_6) = 0) ∧ (I82 0 220 = I 0 220) ∧ (I82 0 221 ≤ 20000)) → gv_X (gr_E ws0 tb (2 + nr) (yX13_holds, cX13_holds, 12, (some .int)) kX13_holds) (gv_Q cX13_holds (some .int) (gr_sh ++ ext) (fun r h' => (∃ (I' : gr_I) (J' : gr_J), h' = gr_h I' J' ∧ gr_Inv I' ∧ gr_fr [220, 221] [138] I I' ∧ gr_fj [220, 221] [138] J J' ∧ (∃ z : Int, r = some (.inl z) ∧ (-3) ≤ z ∧ z ≤ 1 ∧ (I' 0 220 = I 0 220) ∧ (I' 0 221 ≤ 20001) ∧ (z = -1 ∨ I' 0 221 ≤ 20000))))) (467, [(0, .inr (.inr (some 0))), (4, .inl v4_6), (6, .inr (.inl v6_64)), (8, .inl v8_84), (9, .inl v9_84), (10, .inl v10_78)], [], gr_sh ++ ext, gr_h I82 J83) := by
              intro I82 J83 v8_84 v9_84 hI82 FI82 FJ83 m_84
              clear hv4_6_78 hv8_78 hv9_78 hv10_78 e0_78 e1_78 e2_78 e3_78 e4_78 e5_78 f79 f80 f81
              obtain ⟨hv4_6_84, hv8_84, hv9_84, hv10_78_84, e0_84, e1_84, e2_84, e3_84, e4_84, e5_84⟩ := m_84
              have f85 := (gr_b_0_220 hI82)
              have f86 := (gr_b_0_221 hI82)
              have f87 := (gr_b_0_4 hI82)
              refine gv_run 2 true hD (pc' := 373) (lv' := [(10, .inl (v10_78 + 1)), (0, .inr (.inr (some 0))), (4, .inl v4_6), (6, .inr (.inl v6_64)), (8, .inl v8_84), (9, .inl v9_84)]) (st' := []) (h' := gr_h I82 J83) (C := ((True ∧ True) ∧ True)) rfl ⟨⟨trivial, trivial⟩, trivial⟩ ?_
              refine gv_pick [1, 2, 3, 4, 5, 0] rfl ?_
              exact ih373 I82 J83 v8_84 v9_84 (v10_78 + 1) (by exact gz_m 69 (by omega)) hI82 FI82 FJ83 (by exact gz_m 70 (by omega))
            have L465 : ∀ (I88 : gr_I) (J89 : gr_J) (s0_90 : Int), gr_Inv I88 → gr_fr [220, 221] [138] I I88 → gr_fj [220, 221] [138] J J89 → ((0 ≤ v4_6 ∧ v4_6 ≤ 1299) ∧ (0 ≤ v9_78 ∧ v9_78 ≤ 1) ∧ (0 ≤ v10_78 ∧ v10_78 ≤ 7) ∧ (0 ≤ s0_90 ∧ s0_90 ≤ 16777215) ∧ (s0_90 ≤ 1) ∧ (a9 ≤ v4_6 ∧ v4_6 < b9) ∧ (I 137 (Int.toNat v4_6) < I 137 (Int.toNat a1)) ∧ (I 137 (5000 + Int.toNat v4_6) ≤ I 137 (5000 + (Int.toNat a1))) ∧ (I 134 (Int.toNat v4_6) = 0) ∧ (I88 0 220 = I 0 220) ∧ (I88 0 221 ≤ 20000)) → gv_X (gr_E ws0 tb (2 + nr) (yX13_holds, cX13_holds, 12, (some .int)) kX13_holds) (gv_Q cX13_holds (some .int) (gr_sh ++ ext) (fun r h' => (∃ (I' : gr_I) (J' : gr_J), h' = gr_h I' J' ∧ gr_Inv I' ∧ gr_fr [220, 221] [138] I I' ∧ gr_fj [220, 221] [138] J J' ∧ (∃ z : Int, r = some (.inl z) ∧ (-3) ≤ z ∧ z ≤ 1 ∧ (I' 0 220 = I 0 220) ∧ (I' 0 221 ≤ 20001) ∧ (z = -1 ∨ I' 0 221 ≤ 20000))))) (465, [(0, .inr (.inr (some 0))), (4, .inl v4_6), (6, .inr (.inl v6_64)), (9, .inl v9_78), (10, .inl v10_78)], [.inl s0_90], gr_sh ++ ext, gr_h I88 J89) := by
              intro I88 J89 s0_90 hI88 FI88 FJ89 m_90
              clear hv4_6_78 hv8_78 hv9_78 hv10_78 e0_78 e1_78 e2_78 e3_78 e4_78 e5_78 f79 f80 f81
              obtain ⟨hv4_6_90, hv9_78_90, hv10_78_90, hs0_90, e0_90, e1_90, e2_90, e3_90, e4_90, e5_90, e6_90⟩ := m_90
              have f91 := (gr_b_0_220 hI88)
              have f92 := (gr_b_0_221 hI88)
              have f93 := (gr_b_0_4 hI88)
              refine gv_run 1 true hD (pc' := 467) (lv' := [(8, .inl s0_90), (0, .inr (.inr (some 0))), (4, .inl v4_6), (6, .inr (.inl v6_64)), (9, .inl v9_78), (10, .inl v10_78)]) (st' := []) (h' := gr_h I88 J89) (C := (True ∧ True)) rfl ⟨trivial, trivial⟩ ?_
              refine gv_pick [1, 2, 3, 0, 4, 5] rfl ?_
              exact L467 I88 J89 s0_90 v9_78 hI88 FI88 FJ89 (by exact gz_m 71 (by omega))
            have L485 : ∀ (s0_94 : Int), (((-3) ≤ s0_94 ∧ s0_94 ≤ 1) ∧ (I76 0 220 = I 0 220) ∧ (I76 0 221 ≤ 20000)) → gv_X (gr_E ws0 tb (2 + nr) (yX13_holds, cX13_holds, 12, (some .int)) kX13_holds) (gv_Q cX13_holds (some .int) (gr_sh ++ ext) (fun r h' => (∃ (I' : gr_I) (J' : gr_J), h' = gr_h I' J' ∧ gr_Inv I' ∧ gr_fr [220, 221] [138] I I' ∧ gr_fj [220, 221] [138] J J' ∧ (∃ z : Int, r = some (.inl z) ∧ (-3) ≤ z ∧ z ≤ 1 ∧ (I' 0 220 = I 0 220) ∧ (I' 0 221 ≤ 20001) ∧ (z = -1 ∨ I' 0 221 ≤ 20000))))) (485, [], [.inl s0_94], gr_sh ++ ext, gr_h I76 J77) := by
              intro s0_94 m_94
              obtain ⟨hs0_94, e0_94, e1_94⟩ := m_94
              have f95 := (gr_b_0_220 hI76)
              have f96 := (gr_b_0_221 hI76)
              have f97 := (gr_b_0_4 hI76)
              exact gv_iret hD rfl ⟨I76, J77, rfl, hI76, FI76, FJ77, ⟨_, rfl, by exact gz_m 72 (by omega)⟩⟩
            have t98 := x0.1
            have t99 := gr_GH_b x0 (x := a1) ⟨by exact gz_m 73 (by omega), by exact gz_m 74 (by omega)⟩
            have t100 := gr_GH_0 x0 (x := v4_6) ⟨by exact gz_m 75 (by omega), by exact gz_m 76 (by omega)⟩ (by exact gz_m 77 (by omega))
            have t101 := gr_GH_b x0 (x := I 135 (Int.toNat v4_6)) ⟨by have h9 := (gr_GH_0 x0 (x := v4_6) ⟨by exact gz_m 78 (by omega), by exact gz_m 79 (by omega)⟩ (by exact gz_m 80 (by omega))).1; exact gz_m 81 (by omega), by have h9 := (gr_GH_0 x0 (x := v4_6) ⟨by exact gz_m 82 (by omega), by exact gz_m 83 (by omega)⟩ (by exact gz_m 84 (by omega))).1; exact gz_m 85 (by omega)⟩
            have f102 := (gr_b_0_4 hI76)
            refine gv_run 3 true hD (pc' := 379) (lv' := [(0, .inr (.inr (some 0))), (4, .inl v4_6), (6, .inr (.inl v6_64)), (8, .inl v8_78), (9, .inl v9_78), (10, .inl v10_78)]) (st' := [.inl (I76 0 4), .inl v10_78]) (h' := gr_h I76 J77) (C := (((True ∧ True) ∧ True) ∧ True)) rfl ⟨⟨⟨trivial, trivial⟩, trivial⟩, trivial⟩ ?_
            rw [FI76 0 4 rfl]
            have f103 := (gr_b_0_4 hI)
            refine gv_icmp_ge (t := 473) hD rfl rfl ⟨⟨by exact gz_m 86 (by omega), by exact gz_m 87 (by omega)⟩, ⟨by exact gz_m 88 (by omega), by exact gz_m 89 (by omega)⟩⟩ (fun c104 => ?_) (fun c104 => ?_)
            · refine gv_run 1 true hD (pc' := 475) (lv' := [(0, .inr (.inr (some 0))), (4, .inl v4_6), (6, .inr (.inl v6_64)), (8, .inl v8_78), (9, .inl v9_78), (10, .inl v10_78)]) (st' := [.inl v9_78]) (h' := gr_h I76 J77) (C := (True ∧ True)) rfl ⟨trivial, trivial⟩ ?_
              refine gv_if_eq (t := 483) hD rfl rfl ⟨by exact gz_m 90 (by omega), by exact gz_m 91 (by omega)⟩ (fun c105 => ?_) (fun c105 => ?_)
              · refine gv_run 1 true hD (pc' := 485) (lv' := [(0, .inr (.inr (some 0))), (4, .inl v4_6), (6, .inr (.inl v6_64)), (8, .inl v8_78), (9, .inl v9_78), (10, .inl v10_78)]) (st' := [.inl v8_78]) (h' := gr_h I76 J77) (C := (True ∧ True)) rfl ⟨trivial, trivial⟩ ?_
                refine gv_pick [] rfl ?_
                exact L485 v8_78 (by exact gz_m 92 (by omega))
              · refine gv_run 2 true hD (pc' := 485) (lv' := [(0, .inr (.inr (some 0))), (4, .inl v4_6), (6, .inr (.inl v6_64)), (8, .inl v8_78), (9, .inl v9_78), (10, .inl v10_78)]) (st' := [.inl (-3)]) (h' := gr_h I76 J77) (C := ((True ∧ True) ∧ True)) rfl ⟨⟨trivial, trivial⟩, trivial⟩ ?_
                refine gv_pick [] rfl ?_
                exact L485 (-3) (by exact gz_m 93 (by omega))
            · have f106 := (gr_b_0_220 hI76)
              refine gv_run 7 true hD (pc' := 393) (lv' := [(0, .inr (.inr (some 0))), (4, .inl v4_6), (6, .inr (.inl v6_64)), (8, .inl v8_78), (9, .inl v9_78), (10, .inl v10_78)]) (st' := [.inl 1, .inl (I76 0 220), .inr (.inr (some 0)), .inl (I76 0 220), .inr (.inr (some 138))]) (h' := gr_h I76 J77) (C := (((((((True ∧ True) ∧ True) ∧ True) ∧ True) ∧ True) ∧ True) ∧ True)) rfl ⟨⟨⟨⟨⟨⟨⟨trivial, trivial⟩, trivial⟩, trivial⟩, trivial⟩, trivial⟩, trivial⟩, trivial⟩ ?_
              refine gv_run 2 true hD (pc' := 397) (lv' := [(0, .inr (.inr (some 0))), (4, .inl v4_6), (6, .inr (.inl v6_64)), (8, .inl v8_78), (9, .inl v9_78), (10, .inl v10_78)]) (st' := [.inl (I76 0 220), .inr (.inr (some 138))]) (h' := gz_up (gr_h I76 J77) 0 220 (.inl (((I76 0 220) + 1)))) (C := ((True ∧ True) ∧ True)) rfl ⟨⟨trivial, trivial⟩, trivial⟩ ?_
              refine gr_st hI76 FI76 rfl rfl ⟨⟨by show 0 ≤ _; exact gz_m 94 (by omega), by show _ ≤ 399; exact gz_m 95 (by omega)⟩, trivial⟩ (fun I107 hI107 FI107 q108 p108 => ?_)
              have t109 := p108 0 221 (by decide)
              have t110 := p108 0 4 (by decide)
              have f111 := (gr_b_0_220 hI107)
              have f112 := (gr_b_0_221 hI107)
              have f113 := (gr_b_0_4 hI107)
              refine gv_run 2 true hD (pc' := 400) (lv' := [(0, .inr (.inr (some 0))), (4, .inl v4_6), (6, .inr (.inl v6_64)), (8, .inl v8_78), (9, .inl v9_78), (10, .inl v10_78)]) (st' := []) (h' := gz_up (gr_h I107 J77) 138 (Int.toNat ((I76 0 220))) (.inl v10_78)) (C := ((True ∧ True) ∧ (0 ≤ (I76 0 220) ∧ (I76 0 220) < ((400 : Nat) : Int)))) rfl ⟨⟨trivial, trivial⟩, ⟨by exact gz_m 96 (by omega), by exact gz_m 97 (by omega)⟩⟩ ?_
              refine gr_st hI107 FI107 rfl rfl ⟨⟨by show (-2147483648) ≤ _; exact gz_m 98 (by omega), by show _ ≤ 2147483647; exact gz_m 99 (by omega)⟩, trivial⟩ (fun I114 hI114 FI114 q115 p115 => ?_)
              have t116 := p115 0 220 (fun q => absurd q.1 (by decide))
              have t117 := p115 0 221 (fun q => absurd q.1 (by decide))
              have t118 := p115 0 4 (fun q => absurd q.1 (by decide))
              have f119 := (gr_b_0_220 hI114)
              have f120 := (gr_b_0_221 hI114)
              have f121 := (gr_b_0_4 hI114)
              have f122 := (gr_b_135 hI114 (Int.toNat v4_6))
              refine gv_run 5 true hD (pc' := 408) (lv' := [(0, .inr (.inr (some 0))), (4, .inl v4_6), (6, .inr (.inl v6_64)), (8, .inl v8_78), (9, .inl v9_78), (10, .inl v10_78)]) (st' := [.inl (I114 135 (Int.toNat v4_6)), .inr (.inr (some 0))]) (h' := gr_h I114 J77) (C := (((((True ∧ True) ∧ True) ∧ True) ∧ True) ∧ (0 ≤ v4_6 ∧ v4_6 < ((2000 : Nat) : Int)))) rfl ⟨⟨⟨⟨⟨trivial, trivial⟩, trivial⟩, trivial⟩, trivial⟩, ⟨by exact gz_m 100 (by omega), by exact gz_m 101 (by omega)⟩⟩ ?_
              rw [FI114 135 (Int.toNat v4_6) rfl]
              have f123 := (gr_b_135 hI (Int.toNat v4_6))
              have t124 := FI114 137 (Int.toNat ((I 135 (Int.toNat v4_6)))) rfl
              obtain ⟨r125, h125, E125, P125⟩ := ihR I114 J77 hI114 ((I 135 (Int.toNat v4_6))) ⟨by exact gz_m 102 (by omega), by exact gz_m 103 (by omega)⟩ (gr_GH_F x0 FI114) (by exact gz_m 104 (by omega)) (by exact gz_m 105 (by omega)) (by rw [FI114 137 _ rfl]; exact gz_m 106 (by omega)) (by rw [FI114 137 _ rfl]; exact gz_m 107 (by omega)) (by exact gz_m 108 (by omega)) (by exact gz_m 109 (by omega))
              obtain ⟨I126, J127, rfl, hI126, g125, k125, ⟨z125, rfl, q125⟩⟩ := P125
              have FI126 := gr_frt FI114 g125 rfl rfl
              have FJ127 := gr_fjt FJ77 k125 rfl rfl
              have t128 := g125 0 4 rfl
              have f129 := (gr_b_0_220 hI126)
              have f130 := (gr_b_0_221 hI126)
              have f131 := (gr_b_0_4 hI126)
              refine gv_callV hD rfl (As := [.inl (I 135 (Int.toNat v4_6))]) (st := []) rfl (by decide) rfl rfl (gr_lV hws rfl) (Nat.le_of_ble_eq_true rfl) (gz_Ev_mono (d := (2 + nr)) (Nat.le_refl _) E125) ?_
              show gv_X _ _ (411, [(0, .inr (.inr (some 0))), (4, .inl v4_6), (6, .inr (.inl v6_64)), (8, .inl v8_78), (9, .inl v9_78), (10, .inl v10_78)], [.inl z125], gr_sh ++ ext, gr_h I126 J127)
              have f132 := (gr_b_0_220 hI126)
              refine gv_run 6 true hD (pc' := 420) (lv' := [(11, .inl z125), (0, .inr (.inr (some 0))), (4, .inl v4_6), (6, .inr (.inl v6_64)), (8, .inl v8_78), (9, .inl v9_78), (10, .inl v10_78)]) (st' := [.inl ((I126 0 220) - 1), .inr (.inr (some 0))]) (h' := gr_h I126 J127) (C := ((((((True ∧ True) ∧ True) ∧ True) ∧ True) ∧ True) ∧ True)) rfl ⟨⟨⟨⟨⟨⟨trivial, trivial⟩, trivial⟩, trivial⟩, trivial⟩, trivial⟩, trivial⟩ ?_
              refine gv_run 1 true hD (pc' := 423) (lv' := [(11, .inl z125), (0, .inr (.inr (some 0))), (4, .inl v4_6), (6, .inr (.inl v6_64)), (8, .inl v8_78), (9, .inl v9_78), (10, .inl v10_78)]) (st' := []) (h' := gz_up (gr_h I126 J127) 0 220 (.inl (((I126 0 220) - 1)))) (C := (True ∧ True)) rfl ⟨trivial, trivial⟩ ?_
              refine gr_st hI126 FI126 rfl rfl ⟨⟨by show 0 ≤ _; exact gz_m 110 (by omega), by show _ ≤ 399; exact gz_m 111 (by omega)⟩, trivial⟩ (fun I133 hI133 FI133 q134 p134 => ?_)
              have t135 := p134 0 221 (by decide)
              have t136 := p134 0 4 (by decide)
              have f137 := (gr_b_0_220 hI133)
              have f138 := (gr_b_0_221 hI133)
              have f139 := (gr_b_0_4 hI133)
              refine gv_run 2 true hD (pc' := 426) (lv' := [(11, .inl z125), (0, .inr (.inr (some 0))), (4, .inl v4_6), (6, .inr (.inl v6_64)), (8, .inl v8_78), (9, .inl v9_78), (10, .inl v10_78)]) (st' := [.inl (-1), .inl z125]) (h' := gr_h I133 J127) (C := ((True ∧ True) ∧ True)) rfl ⟨⟨trivial, trivial⟩, trivial⟩ ?_
              refine gv_icmp_ne (t := 431) hD rfl rfl ⟨⟨by exact gz_m 112 (by omega), by exact gz_m 113 (by omega)⟩, ⟨by exact gz_m 114 (by omega), by exact gz_m 115 (by omega)⟩⟩ (fun c140 => ?_) (fun c140 => ?_)
              · refine gv_run 1 true hD (pc' := 433) (lv' := [(11, .inl z125), (0, .inr (.inr (some 0))), (4, .inl v4_6), (6, .inr (.inl v6_64)), (8, .inl v8_78), (9, .inl v9_78), (10, .inl v10_78)]) (st' := [.inl z125]) (h' := gr_h I133 J127) (C := (True ∧ True)) rfl ⟨trivial, trivial⟩ ?_
                refine gv_if_ge (t := 442) hD rfl rfl ⟨by exact gz_m 116 (by omega), by exact gz_m 117 (by omega)⟩ (fun c141 => ?_) (fun c141 => ?_)
                · have f142 := gw_cmp (v6_64) ((J127 0 226))
                  refine gv_run 4 true hD (pc' := 449) (lv' := [(11, .inl z125), (0, .inr (.inr (some 0))), (4, .inl v4_6), (6, .inr (.inl v6_64)), (8, .inl v8_78), (9, .inl v9_78), (10, .inl v10_78)]) (st' := [.inl ((lg_cmp (v6_64) ((J127 0 226))).toInt)]) (h' := gr_h I133 J127) (C := ((((True ∧ True) ∧ True) ∧ True) ∧ True)) rfl ⟨⟨⟨⟨trivial, trivial⟩, trivial⟩, trivial⟩, trivial⟩ ?_
                  refine gv_if_ne (t := 460) hD rfl rfl ⟨by exact gz_m 118 (by omega), by exact gz_m 119 (by omega)⟩ (fun c143 => ?_) (fun c143 => ?_)
                  · refine gv_run 2 true hD (pc' := 464) (lv' := [(11, .inl z125), (0, .inr (.inr (some 0))), (4, .inl v4_6), (6, .inr (.inl v6_64)), (8, .inl v8_78), (9, .inl v9_78), (10, .inl v10_78)]) (st' := [.inl z125, .inl v8_78]) (h' := gr_h I133 J127) (C := ((True ∧ True) ∧ True)) rfl ⟨⟨trivial, trivial⟩, trivial⟩ ?_
                    have t144 := gw_o1 (x := v8_78) (y := z125) ⟨by exact gz_m 120 (by omega), by exact gz_m 121 (by omega)⟩ ⟨by exact gz_m 122 (by omega), by exact gz_m 123 (by omega)⟩
                    have f145 := gw_or (x := v8_78) (y := z125) ⟨by exact gz_m 124 (by omega), by exact gz_m 125 (by omega)⟩ ⟨by exact gz_m 126 (by omega), by exact gz_m 127 (by omega)⟩
                    refine gv_run 1 true hD (pc' := 465) (lv' := [(11, .inl z125), (0, .inr (.inr (some 0))), (4, .inl v4_6), (6, .inr (.inl v6_64)), (8, .inl v8_78), (9, .inl v9_78), (10, .inl v10_78)]) (st' := [.inl ((Int32.ofInt v8_78 ||| Int32.ofInt z125).toInt)]) (h' := gr_h I133 J127) (C := (True ∧ True)) rfl ⟨trivial, trivial⟩ ?_
                    refine gv_pick [1, 2, 3, 5, 6] rfl ?_
                    exact L465 I133 J127 (((Int32.ofInt v8_78 ||| Int32.ofInt z125).toInt)) hI133 FI133 FJ127 (by exact gz_m 128 (by omega))
                  · have f146 := gw_andl (x := v8_78) (y := z125) ⟨by exact gz_m 129 (by omega), by exact gz_m 130 (by omega)⟩
                    refine gv_run 4 true hD (pc' := 465) (lv' := [(11, .inl z125), (0, .inr (.inr (some 0))), (4, .inl v4_6), (6, .inr (.inl v6_64)), (8, .inl v8_78), (9, .inl v9_78), (10, .inl v10_78)]) (st' := [.inl ((Int32.ofInt v8_78 &&& Int32.ofInt z125).toInt)]) (h' := gr_h I133 J127) (C := ((((True ∧ True) ∧ True) ∧ True) ∧ True)) rfl ⟨⟨⟨⟨trivial, trivial⟩, trivial⟩, trivial⟩, trivial⟩ ?_
                    refine gv_pick [1, 2, 3, 5, 6] rfl ?_
                    exact L465 I133 J127 (((Int32.ofInt v8_78 &&& Int32.ofInt z125).toInt)) hI133 FI133 FJ127 (by exact gz_m 131 (by omega))
                · refine gv_run 3 true hD (pc' := 467) (lv' := [(9, .inl 1), (11, .inl z125), (0, .inr (.inr (some 0))), (4, .inl v4_6), (6, .inr (.inl v6_64)), (8, .inl v8_78), (10, .inl v10_78)]) (st' := []) (h' := gr_h I133 J127) (C := (((True ∧ True) ∧ True) ∧ True)) rfl ⟨⟨⟨trivial, trivial⟩, trivial⟩, trivial⟩ ?_
                  refine gv_pick [2, 3, 4, 5, 0, 6] rfl ?_
                  exact L467 I133 J127 v8_78 1 hI133 FI133 FJ127 (by exact gz_m 132 (by omega))
              · refine gv_run 1 true hD (pc' := 430) (lv' := [(11, .inl z125), (0, .inr (.inr (some 0))), (4, .inl v4_6), (6, .inr (.inl v6_64)), (8, .inl v8_78), (9, .inl v9_78), (10, .inl v10_78)]) (st' := [.inl (-1)]) (h' := gr_h I133 J127) (C := (True ∧ True)) rfl ⟨trivial, trivial⟩ ?_
                exact gv_iret hD rfl ⟨I133, J127, rfl, hI133, FI133, FJ127, ⟨_, rfl, by exact gz_m 133 (by omega)⟩⟩
        refine gv_run 5 true hD (pc' := 373) (lv' := [(10, .inl 0), (9, .inl 0), (8, .inl s0_72), (0, .inr (.inr (some 0))), (4, .inl v4_6), (6, .inr (.inl v6_64))]) (st' := []) (h' := gr_h I4 J5) (C := (((((True ∧ True) ∧ True) ∧ True) ∧ True) ∧ True)) rfl ⟨⟨⟨⟨⟨trivial, trivial⟩, trivial⟩, trivial⟩, trivial⟩, trivial⟩ ?_
        refine gv_pick [3, 4, 5, 2, 1, 0] rfl ?_
        exact L373 _ I4 J5 s0_72 0 0 (Nat.lt_succ_self _) hI4 FI4 FJ5 (by exact gz_m 134 (by omega))
      have t147 := x0.1
      have t148 := gr_GH_b x0 (x := a1) ⟨by exact gz_m 135 (by omega), by exact gz_m 136 (by omega)⟩
      have t149 := gr_GH_b x0 (x := v4_6) ⟨by exact gz_m 137 (by omega), by exact gz_m 138 (by omega)⟩
      refine gv_run 1 true hD (pc' := 334) (lv' := [(0, .inr (.inr (some 0))), (4, .inl v4_6), (5, .inl v5_6), (6, .inr (.inl v6_64))]) (st' := [.inl v5_6]) (h' := gr_h I4 J5) (C := (True ∧ True)) rfl ⟨trivial, trivial⟩ ?_
      refine gv_if_ge (t := 347) hD rfl rfl ⟨by exact gz_m 139 (by omega), by exact gz_m 140 (by omega)⟩ (fun c150 => ?_) (fun c150 => ?_)
      · refine gv_pick [] rfl ?_
        exact L347 (by exact gz_m 141 (by omega))
      · have f151 := (gr_b_134 hI4 (Int.toNat v4_6))
        refine gv_run 4 true hD (pc' := 344) (lv' := [(0, .inr (.inr (some 0))), (4, .inl v4_6), (5, .inl v5_6), (6, .inr (.inl v6_64))]) (st' := [.inl (I4 134 (Int.toNat v4_6))]) (h' := gr_h I4 J5) (C := ((((True ∧ True) ∧ True) ∧ True) ∧ (0 ≤ v4_6 ∧ v4_6 < ((2000 : Nat) : Int)))) rfl ⟨⟨⟨⟨trivial, trivial⟩, trivial⟩, trivial⟩, ⟨by exact gz_m 142 (by omega), by exact gz_m 143 (by omega)⟩⟩ ?_
        rw [FI4 134 (Int.toNat v4_6) rfl]
        have f152 := (gr_b_134 hI (Int.toNat v4_6))
        refine gv_if_eq (t := 350) hD rfl rfl ⟨by exact gz_m 144 (by omega), by exact gz_m 145 (by omega)⟩ (fun c153 => ?_) (fun c153 => ?_)
        · have f154 := gw_cmp (v6_64) ((J5 0 226))
          refine gv_run 4 true hD (pc' := 357) (lv' := [(0, .inr (.inr (some 0))), (4, .inl v4_6), (5, .inl v5_6), (6, .inr (.inl v6_64))]) (st' := [.inl ((lg_cmp (v6_64) ((J5 0 226))).toInt)]) (h' := gr_h I4 J5) (C := ((((True ∧ True) ∧ True) ∧ True) ∧ True)) rfl ⟨⟨⟨⟨trivial, trivial⟩, trivial⟩, trivial⟩, trivial⟩ ?_
          refine gv_if_ne (t := 364) hD rfl rfl ⟨by exact gz_m 146 (by omega), by exact gz_m 147 (by omega)⟩ (fun c155 => ?_) (fun c155 => ?_)
          · refine gv_run 1 true hD (pc' := 365) (lv' := [(0, .inr (.inr (some 0))), (4, .inl v4_6), (5, .inl v5_6), (6, .inr (.inl v6_64))]) (st' := [.inl 0]) (h' := gr_h I4 J5) (C := (True ∧ True)) rfl ⟨trivial, trivial⟩ ?_
            refine gv_pick [0, 1, 3] rfl ?_
            exact L365 0 (by exact gz_m 148 (by omega))
          · refine gv_run 2 true hD (pc' := 365) (lv' := [(0, .inr (.inr (some 0))), (4, .inl v4_6), (5, .inl v5_6), (6, .inr (.inl v6_64))]) (st' := [.inl 1]) (h' := gr_h I4 J5) (C := ((True ∧ True) ∧ True)) rfl ⟨⟨trivial, trivial⟩, trivial⟩ ?_
            refine gv_pick [0, 1, 3] rfl ?_
            exact L365 1 (by exact gz_m 149 (by omega))
        · refine gv_pick [] rfl ?_
          exact L347 (by exact gz_m 150 (by omega))
    have L509 : ∀ (v6_156 : Int64) (v8_156 : Int) (s0_156 : Int), (((-1) ≤ v5_6 ∧ v5_6 ≤ 1299) ∧ ((-2147483648) ≤ v8_156 ∧ v8_156 ≤ 2147483647) ∧ ((-2147483648) ≤ s0_156 ∧ s0_156 ≤ 2147483647) ∧ (I4 0 220 = I 0 220) ∧ (I4 0 221 ≤ 20000)) → gv_X (gr_E ws0 tb (2 + nr) (yX13_holds, cX13_holds, 12, (some .int)) kX13_holds) (gv_Q cX13_holds (some .int) (gr_sh ++ ext) (fun r h' => (∃ (I' : gr_I) (J' : gr_J), h' = gr_h I' J' ∧ gr_Inv I' ∧ gr_fr [220, 221] [138] I I' ∧ gr_fj [220, 221] [138] J J' ∧ (∃ z : Int, r = some (.inl z) ∧ (-3) ≤ z ∧ z ≤ 1 ∧ (I' 0 220 = I 0 220) ∧ (I' 0 221 ≤ 20001) ∧ (z = -1 ∨ I' 0 221 ≤ 20000))))) (509, [(0, .inr (.inr (some 0))), (5, .inl v5_6), (6, .inr (.inl v6_156)), (8, .inl v8_156)], [.inl s0_156], gr_sh ++ ext, gr_h I4 J5) := by
      intro v6_156 v8_156 s0_156 m_156
      obtain ⟨hv5_6_156, hv8_156, hs0_156, e0_156, e1_156⟩ := m_156
      have f157 := (gr_b_0_220 hI4)
      have f158 := (gr_b_0_221 hI4)
      have f159 := (gr_b_0_4 hI4)
      have L526 : ((I4 0 220 = I 0 220) ∧ (I4 0 221 ≤ 20000)) → gv_X (gr_E ws0 tb (2 + nr) (yX13_holds, cX13_holds, 12, (some .int)) kX13_holds) (gv_Q cX13_holds (some .int) (gr_sh ++ ext) (fun r h' => (∃ (I' : gr_I) (J' : gr_J), h' = gr_h I' J' ∧ gr_Inv I' ∧ gr_fr [220, 221] [138] I I' ∧ gr_fj [220, 221] [138] J J' ∧ (∃ z : Int, r = some (.inl z) ∧ (-3) ≤ z ∧ z ≤ 1 ∧ (I' 0 220 = I 0 220) ∧ (I' 0 221 ≤ 20001) ∧ (z = -1 ∨ I' 0 221 ≤ 20000))))) (526, [], [], gr_sh ++ ext, gr_h I4 J5) := by
        intro m_160
        obtain ⟨e0_160, e1_160⟩ := m_160
        have f161 := (gr_b_0_220 hI4)
        have f162 := (gr_b_0_221 hI4)
        have f163 := (gr_b_0_4 hI4)
        refine gv_run 1 true hD (pc' := 528) (lv' := []) (st' := [.inl (-3)]) (h' := gr_h I4 J5) (C := (True ∧ True)) rfl ⟨trivial, trivial⟩ ?_
        exact gv_iret hD rfl ⟨I4, J5, rfl, hI4, FI4, FJ5, ⟨_, rfl, by exact gz_m 151 (by omega)⟩⟩
      have L529 : ∀ (v9_164 : Int), (((-1) ≤ v5_6 ∧ v5_6 ≤ 1299) ∧ (0 ≤ v8_156 ∧ v8_156 ≤ 2147483647) ∧ ((-2147483648) ≤ v9_164 ∧ v9_164 ≤ 2147483647) ∧ (I4 0 220 = I 0 220) ∧ (I4 0 221 ≤ 20000)) → gv_X (gr_E ws0 tb (2 + nr) (yX13_holds, cX13_holds, 12, (some .int)) kX13_holds) (gv_Q cX13_holds (some .int) (gr_sh ++ ext) (fun r h' => (∃ (I' : gr_I) (J' : gr_J), h' = gr_h I' J' ∧ gr_Inv I' ∧ gr_fr [220, 221] [138] I I' ∧ gr_fj [220, 221] [138] J J' ∧ (∃ z : Int, r = some (.inl z) ∧ (-3) ≤ z ∧ z ≤ 1 ∧ (I' 0 220 = I 0 220) ∧ (I' 0 221 ≤ 20001) ∧ (z = -1 ∨ I' 0 221 ≤ 20000))))) (529, [(0, .inr (.inr (some 0))), (5, .inl v5_6), (6, .inr (.inl v6_156)), (8, .inl v8_156), (9, .inl v9_164)], [], gr_sh ++ ext, gr_h I4 J5) := by
        intro v9_164 m_164
        obtain ⟨hv5_6_164, hv8_156_164, hv9_164, e0_164, e1_164⟩ := m_164
        have f165 := (gr_b_0_220 hI4)
        have f166 := (gr_b_0_221 hI4)
        have f167 := (gr_b_0_4 hI4)
        have L561 : ∀ (s0_168 : Int), (((-3) ≤ s0_168 ∧ s0_168 ≤ 1) ∧ (I4 0 220 = I 0 220) ∧ (I4 0 221 ≤ 20000)) → gv_X (gr_E ws0 tb (2 + nr) (yX13_holds, cX13_holds, 12, (some .int)) kX13_holds) (gv_Q cX13_holds (some .int) (gr_sh ++ ext) (fun r h' => (∃ (I' : gr_I) (J' : gr_J), h' = gr_h I' J' ∧ gr_Inv I' ∧ gr_fr [220, 221] [138] I I' ∧ gr_fj [220, 221] [138] J J' ∧ (∃ z : Int, r = some (.inl z) ∧ (-3) ≤ z ∧ z ≤ 1 ∧ (I' 0 220 = I 0 220) ∧ (I' 0 221 ≤ 20001) ∧ (z = -1 ∨ I' 0 221 ≤ 20000))))) (561, [], [.inl s0_168], gr_sh ++ ext, gr_h I4 J5) := by
          intro s0_168 m_168
          obtain ⟨hs0_168, e0_168, e1_168⟩ := m_168
          have f169 := (gr_b_0_220 hI4)
          have f170 := (gr_b_0_221 hI4)
          have f171 := (gr_b_0_4 hI4)
          exact gv_iret hD rfl ⟨I4, J5, rfl, hI4, FI4, FJ5, ⟨_, rfl, by exact gz_m 152 (by omega)⟩⟩
        have L580 : ∀ (s0_172 : Int), ((0 ≤ s0_172 ∧ s0_172 ≤ 1) ∧ (I4 0 220 = I 0 220) ∧ (I4 0 221 ≤ 20000)) → gv_X (gr_E ws0 tb (2 + nr) (yX13_holds, cX13_holds, 12, (some .int)) kX13_holds) (gv_Q cX13_holds (some .int) (gr_sh ++ ext) (fun r h' => (∃ (I' : gr_I) (J' : gr_J), h' = gr_h I' J' ∧ gr_Inv I' ∧ gr_fr [220, 221] [138] I I' ∧ gr_fj [220, 221] [138] J J' ∧ (∃ z : Int, r = some (.inl z) ∧ (-3) ≤ z ∧ z ≤ 1 ∧ (I' 0 220 = I 0 220) ∧ (I' 0 221 ≤ 20001) ∧ (z = -1 ∨ I' 0 221 ≤ 20000))))) (580, [], [.inl s0_172], gr_sh ++ ext, gr_h I4 J5) := by
          intro s0_172 m_172
          obtain ⟨hs0_172, e0_172, e1_172⟩ := m_172
          have f173 := (gr_b_0_220 hI4)
          have f174 := (gr_b_0_221 hI4)
          have f175 := (gr_b_0_4 hI4)
          exact gv_iret hD rfl ⟨I4, J5, rfl, hI4, FI4, FJ5, ⟨_, rfl, by exact gz_m 153 (by omega)⟩⟩
        have f176 := gw_cmp (v6_156) ((J5 0 228))
        refine gv_run 4 true hD (pc' := 536) (lv' := [(0, .inr (.inr (some 0))), (5, .inl v5_6), (6, .inr (.inl v6_156)), (8, .inl v8_156), (9, .inl v9_164)]) (st' := [.inl ((lg_cmp (v6_156) ((J5 0 228))).toInt)]) (h' := gr_h I4 J5) (C := ((((True ∧ True) ∧ True) ∧ True) ∧ True)) rfl ⟨⟨⟨⟨trivial, trivial⟩, trivial⟩, trivial⟩, trivial⟩ ?_
        refine gv_if_ne (t := 562) hD rfl rfl ⟨by exact gz_m 154 (by omega), by exact gz_m 155 (by omega)⟩ (fun c177 => ?_) (fun c177 => ?_)
        · refine gv_run 4 true hD (pc' := 569) (lv' := [(0, .inr (.inr (some 0))), (5, .inl v5_6), (6, .inr (.inl v6_156)), (8, .inl v8_156), (9, .inl v9_164)]) (st' := [.inl v9_164, .inl v8_156, .inr (.inl v6_156), .inr (.inr (some 0))]) (h' := gr_h I4 J5) (C := ((((True ∧ True) ∧ True) ∧ True) ∧ True)) rfl ⟨⟨⟨⟨trivial, trivial⟩, trivial⟩, trivial⟩, trivial⟩ ?_
          obtain ⟨r178, h178, E178, P178⟩ := r_isFact_f (ws0 := ws0) (tb := tb) hws htb ext I4 J5 hI4 v6_156 v8_156 v9_164 ⟨by exact gz_m 156 (by omega), by exact gz_m 157 (by omega)⟩ ⟨by exact gz_m 158 (by omega), by exact gz_m 159 (by omega)⟩ 
          obtain ⟨rfl, ⟨z178, rfl, q178⟩⟩ := P178
          refine gv_callV hD rfl (As := [.inr (.inl v6_156), .inl v8_156, .inl v9_164]) (st := []) rfl (by decide) rfl rfl (gr_lV hws rfl) (Nat.le_of_ble_eq_true rfl) (gz_Ev_mono (d := 1) (by exact gz_m 160 (by omega)) E178) ?_
          show gv_X _ _ (572, [(0, .inr (.inr (some 0))), (5, .inl v5_6), (6, .inr (.inl v6_156)), (8, .inl v8_156), (9, .inl v9_164)], [.inl z178], gr_sh ++ ext, gr_h I4 J5)
          refine gv_if_eq (t := 579) hD rfl rfl ⟨by exact gz_m 161 (by omega), by exact gz_m 162 (by omega)⟩ (fun c179 => ?_) (fun c179 => ?_)
          · refine gv_run 1 true hD (pc' := 580) (lv' := [(0, .inr (.inr (some 0))), (5, .inl v5_6), (6, .inr (.inl v6_156)), (8, .inl v8_156), (9, .inl v9_164)]) (st' := [.inl 0]) (h' := gr_h I4 J5) (C := (True ∧ True)) rfl ⟨trivial, trivial⟩ ?_
            refine gv_pick [] rfl ?_
            exact L580 0 (by exact gz_m 163 (by omega))
          · refine gv_run 2 true hD (pc' := 580) (lv' := [(0, .inr (.inr (some 0))), (5, .inl v5_6), (6, .inr (.inl v6_156)), (8, .inl v8_156), (9, .inl v9_164)]) (st' := [.inl 1]) (h' := gr_h I4 J5) (C := ((True ∧ True) ∧ True)) rfl ⟨⟨trivial, trivial⟩, trivial⟩ ?_
            refine gv_pick [] rfl ?_
            exact L580 1 (by exact gz_m 164 (by omega))
        · refine gv_run 1 true hD (pc' := 541) (lv' := [(0, .inr (.inr (some 0))), (5, .inl v5_6), (6, .inr (.inl v6_156)), (8, .inl v8_156), (9, .inl v9_164)]) (st' := [.inl v5_6]) (h' := gr_h I4 J5) (C := (True ∧ True)) rfl ⟨trivial, trivial⟩ ?_
          refine gv_if_ge (t := 549) hD rfl rfl ⟨by exact gz_m 165 (by omega), by exact gz_m 166 (by omega)⟩ (fun c180 => ?_) (fun c180 => ?_)
          · refine gv_run 2 true hD (pc' := 553) (lv' := [(0, .inr (.inr (some 0))), (5, .inl v5_6), (6, .inr (.inl v6_156)), (8, .inl v8_156), (9, .inl v9_164)]) (st' := [.inl v9_164, .inl v8_156]) (h' := gr_h I4 J5) (C := ((True ∧ True) ∧ True)) rfl ⟨⟨trivial, trivial⟩, trivial⟩ ?_
            refine gv_icmp_ne (t := 560) hD rfl rfl ⟨⟨by exact gz_m 167 (by omega), by exact gz_m 168 (by omega)⟩, ⟨by exact gz_m 169 (by omega), by exact gz_m 170 (by omega)⟩⟩ (fun c181 => ?_) (fun c181 => ?_)
            · refine gv_run 1 true hD (pc' := 561) (lv' := [(0, .inr (.inr (some 0))), (5, .inl v5_6), (6, .inr (.inl v6_156)), (8, .inl v8_156), (9, .inl v9_164)]) (st' := [.inl 0]) (h' := gr_h I4 J5) (C := (True ∧ True)) rfl ⟨trivial, trivial⟩ ?_
              refine gv_pick [] rfl ?_
              exact L561 0 (by exact gz_m 171 (by omega))
            · refine gv_run 2 true hD (pc' := 561) (lv' := [(0, .inr (.inr (some 0))), (5, .inl v5_6), (6, .inr (.inl v6_156)), (8, .inl v8_156), (9, .inl v9_164)]) (st' := [.inl 1]) (h' := gr_h I4 J5) (C := ((True ∧ True) ∧ True)) rfl ⟨⟨trivial, trivial⟩, trivial⟩ ?_
              refine gv_pick [] rfl ?_
              exact L561 1 (by exact gz_m 172 (by omega))
          · refine gv_run 2 true hD (pc' := 561) (lv' := [(0, .inr (.inr (some 0))), (5, .inl v5_6), (6, .inr (.inl v6_156)), (8, .inl v8_156), (9, .inl v9_164)]) (st' := [.inl (-3)]) (h' := gr_h I4 J5) (C := ((True ∧ True) ∧ True)) rfl ⟨⟨trivial, trivial⟩, trivial⟩ ?_
            refine gv_pick [] rfl ?_
            exact L561 (-3) (by exact gz_m 173 (by omega))
      refine gv_run 2 true hD (pc' := 513) (lv' := [(9, .inl s0_156), (0, .inr (.inr (some 0))), (5, .inl v5_6), (6, .inr (.inl v6_156)), (8, .inl v8_156)]) (st' := [.inl v8_156]) (h' := gr_h I4 J5) (C := ((True ∧ True) ∧ True)) rfl ⟨⟨trivial, trivial⟩, trivial⟩ ?_
      refine gv_if_lt (t := 526) hD rfl rfl ⟨by exact gz_m 174 (by omega), by exact gz_m 175 (by omega)⟩ (fun c182 => ?_) (fun c182 => ?_)
      · refine gv_pick [] rfl ?_
        exact L526 (by exact gz_m 176 (by omega))
      · refine gv_run 1 true hD (pc' := 518) (lv' := [(9, .inl s0_156), (0, .inr (.inr (some 0))), (5, .inl v5_6), (6, .inr (.inl v6_156)), (8, .inl v8_156)]) (st' := [.inl v5_6]) (h' := gr_h I4 J5) (C := (True ∧ True)) rfl ⟨trivial, trivial⟩ ?_
        refine gv_if_lt (t := 529) hD rfl rfl ⟨by exact gz_m 177 (by omega), by exact gz_m 178 (by omega)⟩ (fun c183 => ?_) (fun c183 => ?_)
        · refine gv_pick [1, 2, 3, 4, 0] rfl ?_
          exact L529 s0_156 (by exact gz_m 179 (by omega))
        · refine gv_run 1 true hD (pc' := 523) (lv' := [(9, .inl s0_156), (0, .inr (.inr (some 0))), (5, .inl v5_6), (6, .inr (.inl v6_156)), (8, .inl v8_156)]) (st' := [.inl s0_156]) (h' := gr_h I4 J5) (C := (True ∧ True)) rfl ⟨trivial, trivial⟩ ?_
          refine gv_if_ge (t := 529) hD rfl rfl ⟨by exact gz_m 180 (by omega), by exact gz_m 181 (by omega)⟩ (fun c184 => ?_) (fun c184 => ?_)
          · refine gv_pick [1, 2, 3, 4, 0] rfl ?_
            exact L529 s0_156 (by exact gz_m 182 (by omega))
          · refine gv_pick [] rfl ?_
            exact L526 (by exact gz_m 183 (by omega))
    have t185 := x0.1
    have t186 := gr_GH_b x0 (x := a1) ⟨by exact gz_m 184 (by omega), by exact gz_m 185 (by omega)⟩
    have f187 := (gr_b_134 hI4 (Int.toNat v3_6))
    refine gv_run 4 true hD (pc' := 124) (lv' := [(0, .inr (.inr (some 0))), (3, .inl v3_6), (4, .inl v4_6), (5, .inl v5_6)]) (st' := [.inl (I4 134 (Int.toNat v3_6))]) (h' := gr_h I4 J5) (C := ((((True ∧ True) ∧ True) ∧ True) ∧ (0 ≤ v3_6 ∧ v3_6 < ((2000 : Nat) : Int)))) rfl ⟨⟨⟨⟨trivial, trivial⟩, trivial⟩, trivial⟩, ⟨by exact gz_m 186 (by omega), by exact gz_m 187 (by omega)⟩⟩ ?_
    rw [FI4 134 (Int.toNat v3_6) rfl]
    have f188 := (gr_b_134 hI (Int.toNat v3_6))
    refine gv_run 1 true hD (pc' := 125) (lv' := [(0, .inr (.inr (some 0))), (3, .inl v3_6), (4, .inl v4_6), (5, .inl v5_6)]) (st' := [.inl 2, .inl (I 134 (Int.toNat v3_6))]) (h' := gr_h I4 J5) (C := (True ∧ True)) rfl ⟨trivial, trivial⟩ ?_
    refine gv_icmp_eq (t := 131) hD rfl rfl ⟨⟨by exact gz_m 188 (by omega), by exact gz_m 189 (by omega)⟩, ⟨by exact gz_m 190 (by omega), by exact gz_m 191 (by omega)⟩⟩ (fun c189 => ?_) (fun c189 => ?_)
    · refine gv_run 4 true hD (pc' := 137) (lv' := [(0, .inr (.inr (some 0))), (3, .inl v3_6), (4, .inl v4_6), (5, .inl v5_6)]) (st' := [.inr (.inl (J5 137 (Int.toNat v3_6)))]) (h' := gr_h I4 J5) (C := ((((True ∧ True) ∧ True) ∧ True) ∧ (0 ≤ v3_6 ∧ v3_6 < ((2000 : Nat) : Int)))) rfl ⟨⟨⟨⟨trivial, trivial⟩, trivial⟩, trivial⟩, ⟨by exact gz_m 192 (by omega), by exact gz_m 193 (by omega)⟩⟩ ?_
      have f190 := gw_cmp ((J5 137 (Int.toNat v3_6))) ((J5 0 222))
      refine gv_run 5 true hD (pc' := 146) (lv' := [(6, .inr (.inl (J5 137 (Int.toNat v3_6)))), (0, .inr (.inr (some 0))), (3, .inl v3_6), (4, .inl v4_6), (5, .inl v5_6)]) (st' := [.inl ((lg_cmp ((J5 137 (Int.toNat v3_6))) ((J5 0 222))).toInt)]) (h' := gr_h I4 J5) (C := (((((True ∧ True) ∧ True) ∧ True) ∧ True) ∧ True)) rfl ⟨⟨⟨⟨⟨trivial, trivial⟩, trivial⟩, trivial⟩, trivial⟩, trivial⟩ ?_
      refine gv_if_eq (t := 169) hD rfl rfl ⟨by exact gz_m 194 (by omega), by exact gz_m 195 (by omega)⟩ (fun c191 => ?_) (fun c191 => ?_)
      · refine gv_pick [1, 3, 4, 0] rfl ?_
        exact L169 ((J5 137 (Int.toNat v3_6))) (by exact gz_m 196 (by omega))
      · have f192 := gw_cmp ((J5 137 (Int.toNat v3_6))) ((J5 0 223))
        refine gv_run 4 true hD (pc' := 156) (lv' := [(6, .inr (.inl (J5 137 (Int.toNat v3_6)))), (0, .inr (.inr (some 0))), (3, .inl v3_6), (4, .inl v4_6), (5, .inl v5_6)]) (st' := [.inl ((lg_cmp ((J5 137 (Int.toNat v3_6))) ((J5 0 223))).toInt)]) (h' := gr_h I4 J5) (C := ((((True ∧ True) ∧ True) ∧ True) ∧ True)) rfl ⟨⟨⟨⟨trivial, trivial⟩, trivial⟩, trivial⟩, trivial⟩ ?_
        refine gv_if_eq (t := 169) hD rfl rfl ⟨by exact gz_m 197 (by omega), by exact gz_m 198 (by omega)⟩ (fun c193 => ?_) (fun c193 => ?_)
        · refine gv_pick [1, 3, 4, 0] rfl ?_
          exact L169 ((J5 137 (Int.toNat v3_6))) (by exact gz_m 199 (by omega))
        · have f194 := gw_cmp ((J5 137 (Int.toNat v3_6))) ((J5 0 224))
          refine gv_run 4 true hD (pc' := 166) (lv' := [(6, .inr (.inl (J5 137 (Int.toNat v3_6)))), (0, .inr (.inr (some 0))), (3, .inl v3_6), (4, .inl v4_6), (5, .inl v5_6)]) (st' := [.inl ((lg_cmp ((J5 137 (Int.toNat v3_6))) ((J5 0 224))).toInt)]) (h' := gr_h I4 J5) (C := ((((True ∧ True) ∧ True) ∧ True) ∧ True)) rfl ⟨⟨⟨⟨trivial, trivial⟩, trivial⟩, trivial⟩, trivial⟩ ?_
          refine gv_if_ne (t := 271) hD rfl rfl ⟨by exact gz_m 200 (by omega), by exact gz_m 201 (by omega)⟩ (fun c195 => ?_) (fun c195 => ?_)
          · have f196 := gw_cmp ((J5 137 (Int.toNat v3_6))) ((J5 0 225))
            refine gv_run 4 true hD (pc' := 278) (lv' := [(6, .inr (.inl (J5 137 (Int.toNat v3_6)))), (0, .inr (.inr (some 0))), (3, .inl v3_6), (4, .inl v4_6), (5, .inl v5_6)]) (st' := [.inl ((lg_cmp ((J5 137 (Int.toNat v3_6))) ((J5 0 225))).toInt)]) (h' := gr_h I4 J5) (C := ((((True ∧ True) ∧ True) ∧ True) ∧ True)) rfl ⟨⟨⟨⟨trivial, trivial⟩, trivial⟩, trivial⟩, trivial⟩ ?_
            refine gv_if_ne (t := 312) hD rfl rfl ⟨by exact gz_m 202 (by omega), by exact gz_m 203 (by omega)⟩ (fun c197 => ?_) (fun c197 => ?_)
            · have f198 := gw_cmp ((J5 137 (Int.toNat v3_6))) ((J5 0 226))
              refine gv_run 4 true hD (pc' := 319) (lv' := [(6, .inr (.inl (J5 137 (Int.toNat v3_6)))), (0, .inr (.inr (some 0))), (3, .inl v3_6), (4, .inl v4_6), (5, .inl v5_6)]) (st' := [.inl ((lg_cmp ((J5 137 (Int.toNat v3_6))) ((J5 0 226))).toInt)]) (h' := gr_h I4 J5) (C := ((((True ∧ True) ∧ True) ∧ True) ∧ True)) rfl ⟨⟨⟨⟨trivial, trivial⟩, trivial⟩, trivial⟩, trivial⟩ ?_
              refine gv_if_eq (t := 332) hD rfl rfl ⟨by exact gz_m 204 (by omega), by exact gz_m 205 (by omega)⟩ (fun c199 => ?_) (fun c199 => ?_)
              · refine gv_pick [1, 3, 4, 0] rfl ?_
                exact L332 ((J5 137 (Int.toNat v3_6))) (by exact gz_m 206 (by omega))
              · have f200 := gw_cmp ((J5 137 (Int.toNat v3_6))) ((J5 0 227))
                refine gv_run 4 true hD (pc' := 329) (lv' := [(6, .inr (.inl (J5 137 (Int.toNat v3_6)))), (0, .inr (.inr (some 0))), (3, .inl v3_6), (4, .inl v4_6), (5, .inl v5_6)]) (st' := [.inl ((lg_cmp ((J5 137 (Int.toNat v3_6))) ((J5 0 227))).toInt)]) (h' := gr_h I4 J5) (C := ((((True ∧ True) ∧ True) ∧ True) ∧ True)) rfl ⟨⟨⟨⟨trivial, trivial⟩, trivial⟩, trivial⟩, trivial⟩ ?_
                refine gv_if_ne (t := 486) hD rfl rfl ⟨by exact gz_m 207 (by omega), by exact gz_m 208 (by omega)⟩ (fun c201 => ?_) (fun c201 => ?_)
                · have t202 := x0.1
                  have t203 := gr_GH_b x0 (x := a1) ⟨by exact gz_m 209 (by omega), by exact gz_m 210 (by omega)⟩
                  have t204 := gr_GH_b x0 (x := v4_6) ⟨by exact gz_m 211 (by omega), by exact gz_m 212 (by omega)⟩
                  refine gv_run 2 true hD (pc' := 489) (lv' := [(6, .inr (.inl (J5 137 (Int.toNat v3_6)))), (0, .inr (.inr (some 0))), (3, .inl v3_6), (4, .inl v4_6), (5, .inl v5_6)]) (st' := [.inl v4_6, .inr (.inr (some 0))]) (h' := gr_h I4 J5) (C := ((True ∧ True) ∧ True)) rfl ⟨⟨trivial, trivial⟩, trivial⟩ ?_
                  obtain ⟨r205, h205, E205, P205⟩ := r_thingOf (ws0 := ws0) (tb := tb) hws htb ext I4 J5 hI4 v4_6 ⟨by exact gz_m 213 (by omega), by exact gz_m 214 (by omega)⟩ (fun k => by rw [FI4 134 _ rfl] at k; have h9 := gr_GH_1 x0 (x := v4_6) ⟨by exact gz_m 215 (by omega), by exact gz_m 216 (by omega)⟩ k; rw [FI4 135 _ rfl]; exact gz_m 217 (by omega))
                  obtain ⟨rfl, ⟨z205, rfl, q205⟩⟩ := P205
                  refine gv_callV hD rfl (As := [.inl v4_6]) (st := []) rfl (by decide) rfl rfl (gr_lV hws rfl) (Nat.le_of_ble_eq_true rfl) (gz_Ev_mono (d := 2) (by exact gz_m 218 (by omega)) E205) ?_
                  show gv_X _ _ (492, [(6, .inr (.inl (J5 137 (Int.toNat v3_6)))), (0, .inr (.inr (some 0))), (3, .inl v3_6), (4, .inl v4_6), (5, .inl v5_6)], [.inl z205], gr_sh ++ ext, gr_h I4 J5)
                  refine gv_run 2 true hD (pc' := 496) (lv' := [(8, .inl z205), (6, .inr (.inl (J5 137 (Int.toNat v3_6)))), (0, .inr (.inr (some 0))), (3, .inl v3_6), (4, .inl v4_6), (5, .inl v5_6)]) (st' := [.inl v5_6]) (h' := gr_h I4 J5) (C := ((True ∧ True) ∧ True)) rfl ⟨⟨trivial, trivial⟩, trivial⟩ ?_
                  refine gv_if_ge (t := 503) hD rfl rfl ⟨by exact gz_m 219 (by omega), by exact gz_m 220 (by omega)⟩ (fun c206 => ?_) (fun c206 => ?_)
                  · refine gv_run 2 true hD (pc' := 506) (lv' := [(8, .inl z205), (6, .inr (.inl (J5 137 (Int.toNat v3_6)))), (0, .inr (.inr (some 0))), (3, .inl v3_6), (4, .inl v4_6), (5, .inl v5_6)]) (st' := [.inl v5_6, .inr (.inr (some 0))]) (h' := gr_h I4 J5) (C := ((True ∧ True) ∧ True)) rfl ⟨⟨trivial, trivial⟩, trivial⟩ ?_
                    obtain ⟨r207, h207, E207, P207⟩ := r_thingOf (ws0 := ws0) (tb := tb) hws htb ext I4 J5 hI4 v5_6 ⟨by exact gz_m 221 (by omega), by exact gz_m 222 (by omega)⟩ (fun k => by rw [FI4 134 _ rfl] at k; have h9 := gr_GH_1 x0 (x := v5_6) ⟨by exact gz_m 223 (by omega), by exact gz_m 224 (by omega)⟩ k; rw [FI4 135 _ rfl]; exact gz_m 225 (by omega))
                    obtain ⟨rfl, ⟨z207, rfl, q207⟩⟩ := P207
                    refine gv_callV hD rfl (As := [.inl v5_6]) (st := []) rfl (by decide) rfl rfl (gr_lV hws rfl) (Nat.le_of_ble_eq_true rfl) (gz_Ev_mono (d := 2) (by exact gz_m 226 (by omega)) E207) ?_
                    show gv_X _ _ (509, [(8, .inl z205), (6, .inr (.inl (J5 137 (Int.toNat v3_6)))), (0, .inr (.inr (some 0))), (3, .inl v3_6), (4, .inl v4_6), (5, .inl v5_6)], [.inl z207], gr_sh ++ ext, gr_h I4 J5)
                    refine gv_pick [2, 5, 1, 0] rfl ?_
                    exact L509 ((J5 137 (Int.toNat v3_6))) z205 z207 (by exact gz_m 227 (by omega))
                  · refine gv_run 2 true hD (pc' := 509) (lv' := [(8, .inl z205), (6, .inr (.inl (J5 137 (Int.toNat v3_6)))), (0, .inr (.inr (some 0))), (3, .inl v3_6), (4, .inl v4_6), (5, .inl v5_6)]) (st' := [.inl (-1)]) (h' := gr_h I4 J5) (C := ((True ∧ True) ∧ True)) rfl ⟨⟨trivial, trivial⟩, trivial⟩ ?_
                    refine gv_pick [2, 5, 1, 0] rfl ?_
                    exact L509 ((J5 137 (Int.toNat v3_6))) z205 (-1) (by exact gz_m 228 (by omega))
                · refine gv_pick [1, 3, 4, 0] rfl ?_
                  exact L332 ((J5 137 (Int.toNat v3_6))) (by exact gz_m 229 (by omega))
            · refine gv_run 1 true hD (pc' := 283) (lv' := [(6, .inr (.inl (J5 137 (Int.toNat v3_6)))), (0, .inr (.inr (some 0))), (3, .inl v3_6), (4, .inl v4_6), (5, .inl v5_6)]) (st' := [.inl v5_6]) (h' := gr_h I4 J5) (C := (True ∧ True)) rfl ⟨trivial, trivial⟩ ?_
              refine gv_if_lt (t := 289) hD rfl rfl ⟨by exact gz_m 230 (by omega), by exact gz_m 231 (by omega)⟩ (fun c208 => ?_) (fun c208 => ?_)
              · have t209 := x0.1
                have t210 := gr_GH_b x0 (x := a1) ⟨by exact gz_m 232 (by omega), by exact gz_m 233 (by omega)⟩
                have t211 := gr_GH_b x0 (x := v4_6) ⟨by exact gz_m 234 (by omega), by exact gz_m 235 (by omega)⟩
                refine gv_run 2 true hD (pc' := 292) (lv' := [(6, .inr (.inl (J5 137 (Int.toNat v3_6)))), (0, .inr (.inr (some 0))), (3, .inl v3_6), (4, .inl v4_6), (5, .inl v5_6)]) (st' := [.inl v4_6, .inr (.inr (some 0))]) (h' := gr_h I4 J5) (C := ((True ∧ True) ∧ True)) rfl ⟨⟨trivial, trivial⟩, trivial⟩ ?_
                have t212 := FI4 137 (Int.toNat v4_6) rfl
                obtain ⟨r213, h213, E213, P213⟩ := ihR I4 J5 hI4 v4_6 ⟨by exact gz_m 236 (by omega), by exact gz_m 237 (by omega)⟩ (gr_GH_F x0 FI4) (by exact gz_m 238 (by omega)) (by exact gz_m 239 (by omega)) (by rw [FI4 137 _ rfl]; exact gz_m 240 (by omega)) (by rw [FI4 137 _ rfl]; exact gz_m 241 (by omega)) (by exact gz_m 242 (by omega)) (by exact gz_m 243 (by omega))
                obtain ⟨I214, J215, rfl, hI214, g213, k213, ⟨z213, rfl, q213⟩⟩ := P213
                have FI214 := gr_frt FI4 g213 rfl rfl
                have FJ215 := gr_fjt FJ5 k213 rfl rfl
                have t216 := g213 0 4 rfl
                have f217 := (gr_b_0_220 hI214)
                have f218 := (gr_b_0_221 hI214)
                have f219 := (gr_b_0_4 hI214)
                refine gv_callV hD rfl (As := [.inl v4_6]) (st := []) rfl (by decide) rfl rfl (gr_lV hws rfl) (Nat.le_of_ble_eq_true rfl) (gz_Ev_mono (d := (2 + nr)) (Nat.le_refl _) E213) ?_
                show gv_X _ _ (295, [(6, .inr (.inl (J5 137 (Int.toNat v3_6)))), (0, .inr (.inr (some 0))), (3, .inl v3_6), (4, .inl v4_6), (5, .inl v5_6)], [.inl z213], gr_sh ++ ext, gr_h I214 J215)
                refine gv_run 2 true hD (pc' := 299) (lv' := [(8, .inl z213), (6, .inr (.inl (J5 137 (Int.toNat v3_6)))), (0, .inr (.inr (some 0))), (3, .inl v3_6), (4, .inl v4_6), (5, .inl v5_6)]) (st' := [.inl z213]) (h' := gr_h I214 J215) (C := ((True ∧ True) ∧ True)) rfl ⟨⟨trivial, trivial⟩, trivial⟩ ?_
                refine gv_if_ge (t := 307) hD rfl rfl ⟨by exact gz_m 244 (by omega), by exact gz_m 245 (by omega)⟩ (fun c220 => ?_) (fun c220 => ?_)
                · refine gv_run 3 true hD (pc' := 311) (lv' := [(8, .inl z213), (6, .inr (.inl (J5 137 (Int.toNat v3_6)))), (0, .inr (.inr (some 0))), (3, .inl v3_6), (4, .inl v4_6), (5, .inl v5_6)]) (st' := [.inl (1 - z213)]) (h' := gr_h I214 J215) (C := (((True ∧ True) ∧ True) ∧ True)) rfl ⟨⟨⟨trivial, trivial⟩, trivial⟩, trivial⟩ ?_
                  exact gv_iret hD rfl ⟨I214, J215, rfl, hI214, FI214, FJ215, ⟨_, rfl, by exact gz_m 246 (by omega)⟩⟩
                · refine gv_run 2 true hD (pc' := 311) (lv' := [(8, .inl z213), (6, .inr (.inl (J5 137 (Int.toNat v3_6)))), (0, .inr (.inr (some 0))), (3, .inl v3_6), (4, .inl v4_6), (5, .inl v5_6)]) (st' := [.inl z213]) (h' := gr_h I214 J215) (C := ((True ∧ True) ∧ True)) rfl ⟨⟨trivial, trivial⟩, trivial⟩ ?_
                  exact gv_iret hD rfl ⟨I214, J215, rfl, hI214, FI214, FJ215, ⟨_, rfl, by exact gz_m 247 (by omega)⟩⟩
              · refine gv_run 1 true hD (pc' := 288) (lv' := [(6, .inr (.inl (J5 137 (Int.toNat v3_6)))), (0, .inr (.inr (some 0))), (3, .inl v3_6), (4, .inl v4_6), (5, .inl v5_6)]) (st' := [.inl (-3)]) (h' := gr_h I4 J5) (C := (True ∧ True)) rfl ⟨trivial, trivial⟩ ?_
                exact gv_iret hD rfl ⟨I4, J5, rfl, hI4, FI4, FJ5, ⟨_, rfl, by exact gz_m 248 (by omega)⟩⟩
          · refine gv_pick [1, 3, 4, 0] rfl ?_
            exact L169 ((J5 137 (Int.toNat v3_6))) (by exact gz_m 249 (by omega))
    · refine gv_run 1 true hD (pc' := 130) (lv' := [(0, .inr (.inr (some 0))), (3, .inl v3_6), (4, .inl v4_6), (5, .inl v5_6)]) (st' := [.inl (-3)]) (h' := gr_h I4 J5) (C := (True ∧ True)) rfl ⟨trivial, trivial⟩ ?_
      exact gv_iret hD rfl ⟨I4, J5, rfl, hI4, FI4, FJ5, ⟨_, rfl, by exact gz_m 250 (by omega)⟩⟩
  have t221 := x0.1
  have t222 := gr_GH_b x0 (x := a1) ⟨by exact gz_m 251 (by omega), by exact gz_m 252 (by omega)⟩
  have f223 := (gr_b_0_221 hI)
  refine gv_run 5 true hD (pc' := 7) (lv' := [(0, .inr (.inr (some 0))), (1, .inl a1)]) (st' := [.inl ((I 0 221) + 1), .inr (.inr (some 0))]) (h' := gr_h I J) (C := (((((True ∧ True) ∧ True) ∧ True) ∧ True) ∧ True)) rfl ⟨⟨⟨⟨⟨trivial, trivial⟩, trivial⟩, trivial⟩, trivial⟩, trivial⟩ ?_
  refine gv_run 1 true hD (pc' := 10) (lv' := [(0, .inr (.inr (some 0))), (1, .inl a1)]) (st' := []) (h' := gz_up (gr_h I J) 0 221 (.inl (((I 0 221) + 1)))) (C := (True ∧ True)) rfl ⟨trivial, trivial⟩ ?_
  refine gr_st hI FI rfl rfl ⟨⟨by show 0 ≤ _; exact gz_m 253 (by omega), by show _ ≤ 20001; exact gz_m 254 (by omega)⟩, trivial⟩ (fun I224 hI224 FI224 q225 p225 => ?_)
  have t226 := p225 0 220 (by decide)
  have t227 := p225 0 4 (by decide)
  have f228 := (gr_b_0_220 hI224)
  have f229 := (gr_b_0_221 hI224)
  have f230 := (gr_b_0_4 hI224)
  have f231 := (gr_b_0_221 hI224)
  refine gv_run 3 true hD (pc' := 17) (lv' := [(0, .inr (.inr (some 0))), (1, .inl a1)]) (st' := [.inl 20000, .inl (I224 0 221)]) (h' := gr_h I224 J) (C := (((True ∧ True) ∧ True) ∧ True)) rfl ⟨⟨⟨trivial, trivial⟩, trivial⟩, trivial⟩ ?_
  refine gv_icmp_le (t := 22) hD rfl rfl ⟨⟨by exact gz_m 255 (by omega), by exact gz_m 256 (by omega)⟩, ⟨by exact gz_m 257 (by omega), by exact gz_m 258 (by omega)⟩⟩ (fun c232 => ?_) (fun c232 => ?_)
  · have f233 := (gr_b_134 hI224 (Int.toNat a1))
    refine gv_run 4 true hD (pc' := 28) (lv' := [(0, .inr (.inr (some 0))), (1, .inl a1)]) (st' := [.inl (I224 134 (Int.toNat a1))]) (h' := gr_h I224 J) (C := ((((True ∧ True) ∧ True) ∧ True) ∧ (0 ≤ a1 ∧ a1 < ((2000 : Nat) : Int)))) rfl ⟨⟨⟨⟨trivial, trivial⟩, trivial⟩, trivial⟩, ⟨by exact gz_m 259 (by omega), by exact gz_m 260 (by omega)⟩⟩ ?_
    rw [FI224 134 (Int.toNat a1) rfl]
    have f234 := (gr_b_134 hI (Int.toNat a1))
    refine gv_run 1 true hD (pc' := 29) (lv' := [(0, .inr (.inr (some 0))), (1, .inl a1)]) (st' := [.inl 4, .inl (I 134 (Int.toNat a1))]) (h' := gr_h I224 J) (C := (True ∧ True)) rfl ⟨trivial, trivial⟩ ?_
    refine gv_icmp_eq (t := 35) hD rfl rfl ⟨⟨by exact gz_m 261 (by omega), by exact gz_m 262 (by omega)⟩, ⟨by exact gz_m 263 (by omega), by exact gz_m 264 (by omega)⟩⟩ (fun c235 => ?_) (fun c235 => ?_)
    · have t236 := x0.1
      have t237 := gr_GH_b x0 (x := a1) ⟨by exact gz_m 265 (by omega), by exact gz_m 266 (by omega)⟩
      have t238 := gr_GH_4 x0 (x := a1) ⟨by exact gz_m 267 (by omega), by exact gz_m 268 (by omega)⟩ (by exact gz_m 269 (by omega))
      have f239 := (gr_b_135 hI224 (Int.toNat a1))
      refine gv_run 6 true hD (pc' := 45) (lv' := [(0, .inr (.inr (some 0))), (1, .inl a1)]) (st' := [.inl (I224 135 (Int.toNat a1)), .inr (.inr (some 134))]) (h' := gr_h I224 J) (C := ((((((True ∧ True) ∧ True) ∧ True) ∧ True) ∧ True) ∧ (0 ≤ a1 ∧ a1 < ((2000 : Nat) : Int)))) rfl ⟨⟨⟨⟨⟨⟨trivial, trivial⟩, trivial⟩, trivial⟩, trivial⟩, trivial⟩, ⟨by exact gz_m 270 (by omega), by exact gz_m 271 (by omega)⟩⟩ ?_
      rw [FI224 135 (Int.toNat a1) rfl]
      have f240 := (gr_b_135 hI (Int.toNat a1))
      have f241 := (gr_b_134 hI224 (Int.toNat ((I 135 (Int.toNat a1)))))
      refine gv_run 1 true hD (pc' := 46) (lv' := [(0, .inr (.inr (some 0))), (1, .inl a1)]) (st' := [.inl (I224 134 (Int.toNat ((I 135 (Int.toNat a1)))))]) (h' := gr_h I224 J) (C := (True ∧ (0 ≤ ((I 135 (Int.toNat a1))) ∧ ((I 135 (Int.toNat a1))) < ((2000 : Nat) : Int)))) rfl ⟨trivial, ⟨by exact gz_m 272 (by omega), by exact gz_m 273 (by omega)⟩⟩ ?_
      rw [FI224 134 (Int.toNat ((I 135 (Int.toNat a1)))) rfl]
      have f242 := (gr_b_134 hI (Int.toNat ((I 135 (Int.toNat a1)))))
      refine gv_run 1 true hD (pc' := 47) (lv' := [(0, .inr (.inr (some 0))), (1, .inl a1)]) (st' := [.inl 4, .inl (I 134 (Int.toNat ((I 135 (Int.toNat a1)))))]) (h' := gr_h I224 J) (C := (True ∧ True)) rfl ⟨trivial, trivial⟩ ?_
      refine gv_icmp_ne (t := 59) hD rfl rfl ⟨⟨by exact gz_m 274 (by omega), by exact gz_m 275 (by omega)⟩, ⟨by exact gz_m 276 (by omega), by exact gz_m 277 (by omega)⟩⟩ (fun c243 => ?_) (fun c243 => ?_)
      · refine gv_run 3 true hD (pc' := 62) (lv' := [(2, .inl (-1)), (0, .inr (.inr (some 0))), (1, .inl a1)]) (st' := [.inl (-1)]) (h' := gr_h I224 J) (C := (((True ∧ True) ∧ True) ∧ True)) rfl ⟨⟨⟨trivial, trivial⟩, trivial⟩, trivial⟩ ?_
        refine gv_if_ge (t := 74) hD rfl rfl ⟨by exact gz_m 278 (by omega), by exact gz_m 279 (by omega)⟩ (fun c244 => ?_) (fun c244 => ?_)
        · exfalso; exact gz_m 280 (by omega)
        · have f245 := (gr_b_135 hI224 (Int.toNat a1))
          refine gv_run 4 true hD (pc' := 71) (lv' := [(2, .inl (-1)), (0, .inr (.inr (some 0))), (1, .inl a1)]) (st' := [.inl (I224 135 (Int.toNat a1))]) (h' := gr_h I224 J) (C := ((((True ∧ True) ∧ True) ∧ True) ∧ (0 ≤ a1 ∧ a1 < ((2000 : Nat) : Int)))) rfl ⟨⟨⟨⟨trivial, trivial⟩, trivial⟩, trivial⟩, ⟨by exact gz_m 281 (by omega), by exact gz_m 282 (by omega)⟩⟩ ?_
          rw [FI224 135 (Int.toNat a1) rfl]
          have f246 := (gr_b_135 hI (Int.toNat a1))
          refine gv_run 3 true hD (pc' := 82) (lv' := [(3, .inl (I 135 (Int.toNat a1))), (2, .inl (-1)), (0, .inr (.inr (some 0))), (1, .inl a1)]) (st' := [.inl (-1)]) (h' := gr_h I224 J) (C := (((True ∧ True) ∧ True) ∧ True)) rfl ⟨⟨⟨trivial, trivial⟩, trivial⟩, trivial⟩ ?_
          refine gv_if_ge (t := 94) hD rfl rfl ⟨by exact gz_m 283 (by omega), by exact gz_m 284 (by omega)⟩ (fun c247 => ?_) (fun c247 => ?_)
          · exfalso; exact gz_m 285 (by omega)
          · have f248 := (gr_b_136 hI224 (Int.toNat a1))
            refine gv_run 4 true hD (pc' := 91) (lv' := [(3, .inl (I 135 (Int.toNat a1))), (2, .inl (-1)), (0, .inr (.inr (some 0))), (1, .inl a1)]) (st' := [.inl (I224 136 (Int.toNat a1))]) (h' := gr_h I224 J) (C := ((((True ∧ True) ∧ True) ∧ True) ∧ (0 ≤ a1 ∧ a1 < ((2000 : Nat) : Int)))) rfl ⟨⟨⟨⟨trivial, trivial⟩, trivial⟩, trivial⟩, ⟨by exact gz_m 286 (by omega), by exact gz_m 287 (by omega)⟩⟩ ?_
            rw [FI224 136 (Int.toNat a1) rfl]
            have f249 := (gr_b_136 hI (Int.toNat a1))
            refine gv_run 3 true hD (pc' := 103) (lv' := [(4, .inl (I 136 (Int.toNat a1))), (3, .inl (I 135 (Int.toNat a1))), (2, .inl (-1)), (0, .inr (.inr (some 0))), (1, .inl a1)]) (st' := [.inl (-1)]) (h' := gr_h I224 J) (C := (((True ∧ True) ∧ True) ∧ True)) rfl ⟨⟨⟨trivial, trivial⟩, trivial⟩, trivial⟩ ?_
            refine gv_if_ge (t := 110) hD rfl rfl ⟨by exact gz_m 288 (by omega), by exact gz_m 289 (by omega)⟩ (fun c250 => ?_) (fun c250 => ?_)
            · exfalso; exact gz_m 290 (by omega)
            · refine gv_run 3 true hD (pc' := 118) (lv' := [(5, .inl (-1)), (4, .inl (I 136 (Int.toNat a1))), (3, .inl (I 135 (Int.toNat a1))), (2, .inl (-1)), (0, .inr (.inr (some 0))), (1, .inl a1)]) (st' := []) (h' := gr_h I224 J) (C := (((True ∧ True) ∧ True) ∧ True)) rfl ⟨⟨⟨trivial, trivial⟩, trivial⟩, trivial⟩ ?_
              refine gv_pick [4, 2, 1, 0] rfl ?_
              exact L118 I224 J ((I 135 (Int.toNat a1))) ((I 136 (Int.toNat a1))) (-1) hI224 FI224 FJ (by exact gz_m 291 (by omega))
      · have f251 := (gr_b_135 hI224 (Int.toNat a1))
        refine gv_run 4 true hD (pc' := 56) (lv' := [(0, .inr (.inr (some 0))), (1, .inl a1)]) (st' := [.inl (I224 135 (Int.toNat a1))]) (h' := gr_h I224 J) (C := ((((True ∧ True) ∧ True) ∧ True) ∧ (0 ≤ a1 ∧ a1 < ((2000 : Nat) : Int)))) rfl ⟨⟨⟨⟨trivial, trivial⟩, trivial⟩, trivial⟩, ⟨by exact gz_m 292 (by omega), by exact gz_m 293 (by omega)⟩⟩ ?_
        rw [FI224 135 (Int.toNat a1) rfl]
        have f252 := (gr_b_135 hI (Int.toNat a1))
        refine gv_run 3 true hD (pc' := 62) (lv' := [(2, .inl (I 135 (Int.toNat a1))), (0, .inr (.inr (some 0))), (1, .inl a1)]) (st' := [.inl (I 135 (Int.toNat a1))]) (h' := gr_h I224 J) (C := (((True ∧ True) ∧ True) ∧ True)) rfl ⟨⟨⟨trivial, trivial⟩, trivial⟩, trivial⟩ ?_
        refine gv_if_ge (t := 74) hD rfl rfl ⟨by exact gz_m 294 (by omega), by exact gz_m 295 (by omega)⟩ (fun c253 => ?_) (fun c253 => ?_)
        · have t254 := gr_GH_4 x0 (x := (I 135 (Int.toNat a1))) ⟨by exact gz_m 296 (by omega), by exact gz_m 297 (by omega)⟩ (by exact gz_m 298 (by omega))
          have f255 := (gr_b_135 hI224 (Int.toNat ((I 135 (Int.toNat a1)))))
          refine gv_run 4 true hD (pc' := 80) (lv' := [(2, .inl (I 135 (Int.toNat a1))), (0, .inr (.inr (some 0))), (1, .inl a1)]) (st' := [.inl (I224 135 (Int.toNat ((I 135 (Int.toNat a1)))))]) (h' := gr_h I224 J) (C := ((((True ∧ True) ∧ True) ∧ True) ∧ (0 ≤ ((I 135 (Int.toNat a1))) ∧ ((I 135 (Int.toNat a1))) < ((2000 : Nat) : Int)))) rfl ⟨⟨⟨⟨trivial, trivial⟩, trivial⟩, trivial⟩, ⟨by exact gz_m 299 (by omega), by exact gz_m 300 (by omega)⟩⟩ ?_
          rw [FI224 135 (Int.toNat ((I 135 (Int.toNat a1)))) rfl]
          have f256 := (gr_b_135 hI (Int.toNat ((I 135 (Int.toNat a1)))))
          refine gv_run 2 true hD (pc' := 82) (lv' := [(3, .inl (I 135 (Int.toNat ((I 135 (Int.toNat a1)))))), (2, .inl (I 135 (Int.toNat a1))), (0, .inr (.inr (some 0))), (1, .inl a1)]) (st' := [.inl (I 135 (Int.toNat a1))]) (h' := gr_h I224 J) (C := ((True ∧ True) ∧ True)) rfl ⟨⟨trivial, trivial⟩, trivial⟩ ?_
          refine gv_if_ge (t := 94) hD rfl rfl ⟨by exact gz_m 301 (by omega), by exact gz_m 302 (by omega)⟩ (fun c257 => ?_) (fun c257 => ?_)
          · have t258 := gr_GH_4 x0 (x := (I 135 (Int.toNat a1))) ⟨by exact gz_m 303 (by omega), by exact gz_m 304 (by omega)⟩ (by exact gz_m 305 (by omega))
            have f259 := (gr_b_136 hI224 (Int.toNat ((I 135 (Int.toNat a1)))))
            refine gv_run 4 true hD (pc' := 100) (lv' := [(3, .inl (I 135 (Int.toNat ((I 135 (Int.toNat a1)))))), (2, .inl (I 135 (Int.toNat a1))), (0, .inr (.inr (some 0))), (1, .inl a1)]) (st' := [.inl (I224 136 (Int.toNat ((I 135 (Int.toNat a1)))))]) (h' := gr_h I224 J) (C := ((((True ∧ True) ∧ True) ∧ True) ∧ (0 ≤ ((I 135 (Int.toNat a1))) ∧ ((I 135 (Int.toNat a1))) < ((2000 : Nat) : Int)))) rfl ⟨⟨⟨⟨trivial, trivial⟩, trivial⟩, trivial⟩, ⟨by exact gz_m 306 (by omega), by exact gz_m 307 (by omega)⟩⟩ ?_
            rw [FI224 136 (Int.toNat ((I 135 (Int.toNat a1)))) rfl]
            have f260 := (gr_b_136 hI (Int.toNat ((I 135 (Int.toNat a1)))))
            refine gv_run 2 true hD (pc' := 103) (lv' := [(4, .inl (I 136 (Int.toNat ((I 135 (Int.toNat a1)))))), (3, .inl (I 135 (Int.toNat ((I 135 (Int.toNat a1)))))), (2, .inl (I 135 (Int.toNat a1))), (0, .inr (.inr (some 0))), (1, .inl a1)]) (st' := [.inl (I 135 (Int.toNat a1))]) (h' := gr_h I224 J) (C := ((True ∧ True) ∧ True)) rfl ⟨⟨trivial, trivial⟩, trivial⟩ ?_
            refine gv_if_ge (t := 110) hD rfl rfl ⟨by exact gz_m 308 (by omega), by exact gz_m 309 (by omega)⟩ (fun c261 => ?_) (fun c261 => ?_)
            · have f262 := (gr_b_136 hI224 (Int.toNat a1))
              refine gv_run 4 true hD (pc' := 116) (lv' := [(4, .inl (I 136 (Int.toNat ((I 135 (Int.toNat a1)))))), (3, .inl (I 135 (Int.toNat ((I 135 (Int.toNat a1)))))), (2, .inl (I 135 (Int.toNat a1))), (0, .inr (.inr (some 0))), (1, .inl a1)]) (st' := [.inl (I224 136 (Int.toNat a1))]) (h' := gr_h I224 J) (C := ((((True ∧ True) ∧ True) ∧ True) ∧ (0 ≤ a1 ∧ a1 < ((2000 : Nat) : Int)))) rfl ⟨⟨⟨⟨trivial, trivial⟩, trivial⟩, trivial⟩, ⟨by exact gz_m 310 (by omega), by exact gz_m 311 (by omega)⟩⟩ ?_
              rw [FI224 136 (Int.toNat a1) rfl]
              have f263 := (gr_b_136 hI (Int.toNat a1))
              refine gv_run 1 true hD (pc' := 118) (lv' := [(5, .inl (I 136 (Int.toNat a1))), (4, .inl (I 136 (Int.toNat ((I 135 (Int.toNat a1)))))), (3, .inl (I 135 (Int.toNat ((I 135 (Int.toNat a1)))))), (2, .inl (I 135 (Int.toNat a1))), (0, .inr (.inr (some 0))), (1, .inl a1)]) (st' := []) (h' := gr_h I224 J) (C := (True ∧ True)) rfl ⟨trivial, trivial⟩ ?_
              refine gv_pick [4, 2, 1, 0] rfl ?_
              exact L118 I224 J ((I 135 (Int.toNat ((I 135 (Int.toNat a1)))))) ((I 136 (Int.toNat ((I 135 (Int.toNat a1)))))) ((I 136 (Int.toNat a1))) hI224 FI224 FJ (by exact gz_m 312 (by omega))
            · exfalso; exact gz_m 313 (by omega)
          · exfalso; exact gz_m 314 (by omega)
        · exfalso; exact gz_m 315 (by omega)
    · refine gv_run 1 true hD (pc' := 34) (lv' := [(0, .inr (.inr (some 0))), (1, .inl a1)]) (st' := [.inl (-3)]) (h' := gr_h I224 J) (C := (True ∧ True)) rfl ⟨trivial, trivial⟩ ?_
      exact gv_iret hD rfl ⟨I224, J, rfl, hI224, FI224, FJ, ⟨_, rfl, by exact gz_m 316 (by omega)⟩⟩
  · refine gv_run 1 true hD (pc' := 21) (lv' := [(0, .inr (.inr (some 0))), (1, .inl a1)]) (st' := [.inl (-1)]) (h' := gr_h I224 J) (C := (True ∧ True)) rfl ⟨trivial, trivial⟩ ?_
    exact gv_iret hD rfl ⟨I224, J, rfl, hI224, FI224, FJ, ⟨_, rfl, by exact gz_m 317 (by omega)⟩⟩
