set_option maxHeartbeats 8000000 in
set_option maxRecDepth 100000 in
theorem r_sign {ws0 : List Cond} {tb : String → gz_T} (hws : ∀ w ∈ gr_ws, w ∈ ws0) (htb : tb RX13 = gr_T) (ext : gz_Sh) (I : gr_I) (J : gr_J) (hI : gr_Inv I) (a1 : Int) (ha1 : 0 ≤ a1 ∧ a1 ≤ 127) (x0 : I 0 71 = 4 → I 0 72 ≤ 999) : ∃ r h', gz_Ev ws0 tb 1 (yX13_sign, cX13_sign, 2, (some .boolean)) [.inr (.inr (some 0)), .inl a1] (gr_sh ++ ext) (gr_h I J) r (gr_sh ++ ext) h' 0 0 ∧ (h' = gr_h I J ∧ (∃ z : Int, r = some (.inl z) ∧ 0 ≤ z ∧ z ≤ 1 ∧ (z = 0 ∨ I 0 71 = 4))) := by
  have hD : gv_D (gr_E ws0 tb 0 (yX13_sign, cX13_sign, 2, (some .boolean)) kX13_sign) := gq_of oX13_sign
  refine gr_ev (d := 0) (l := kX13_sign) (Po := fun r h' => (h' = gr_h I J ∧ (∃ z : Int, r = some (.inl z) ∧ 0 ≤ z ∧ z ≤ 1 ∧ (z = 0 ∨ I 0 71 = 4)))) htb rfl (Nat.le_of_ble_eq_true rfl) ?_
  have f1 := (gr_b_0_71 hI)
  have L26 : ∀ (s0_2 : Int), ((0 ≤ s0_2 ∧ s0_2 ≤ 1) ∧ (s0_2 = 0 ∨ I 0 71 = 4)) → gv_X (gr_E ws0 tb 0 (yX13_sign, cX13_sign, 2, (some .boolean)) kX13_sign) (gv_Q cX13_sign (some .boolean) (gr_sh ++ ext) (fun r h' => (h' = gr_h I J ∧ (∃ z : Int, r = some (.inl z) ∧ 0 ≤ z ∧ z ≤ 1 ∧ (z = 0 ∨ I 0 71 = 4))))) (26, [], [.inl s0_2], gr_sh ++ ext, gr_h I J) := by
    intro s0_2 m_2
    obtain ⟨hs0_2, e0_2⟩ := m_2
    have f3 := (gr_b_0_71 hI)
    exact gv_zret hD rfl (by exact gz_m 0 (by omega)) ⟨rfl, ⟨_, rfl, by exact gz_m 1 (by omega)⟩⟩
  have L25 : gv_X (gr_E ws0 tb 0 (yX13_sign, cX13_sign, 2, (some .boolean)) kX13_sign) (gv_Q cX13_sign (some .boolean) (gr_sh ++ ext) (fun r h' => (h' = gr_h I J ∧ (∃ z : Int, r = some (.inl z) ∧ 0 ≤ z ∧ z ≤ 1 ∧ (z = 0 ∨ I 0 71 = 4))))) (25, [], [], gr_sh ++ ext, gr_h I J) := by
    have f5 := (gr_b_0_71 hI)
    refine gv_run 1 true hD (pc' := 26) (lv' := []) (st' := [.inl 0]) (h' := gr_h I J) (C := (True ∧ True)) rfl ⟨trivial, trivial⟩ ?_
    exact L26 0 (by exact gz_m 2 (by omega))
  have f6 := (gr_b_0_71 hI)
  refine gv_run 3 true hD (pc' := 5) (lv' := [(0, .inr (.inr (some 0))), (1, .inl a1)]) (st' := [.inl 4, .inl (I 0 71)]) (h' := gr_h I J) (C := (((True ∧ True) ∧ True) ∧ True)) rfl ⟨⟨⟨trivial, trivial⟩, trivial⟩, trivial⟩ ?_
  refine gv_icmp_ne (t := 25) hD rfl rfl ⟨⟨by exact gz_m 3 (by omega), by exact gz_m 4 (by omega)⟩, ⟨by exact gz_m 5 (by omega), by exact gz_m 6 (by omega)⟩⟩ (fun c7 => ?_) (fun c7 => ?_)
  · refine gv_pick [] rfl ?_
    exact L25 
  · have f8 := (gr_b_0_72 hI)
    have f9 := (gr_b_57 hI (Int.toNat ((I 0 72))))
    refine gv_run 5 true hD (pc' := 17) (lv' := [(0, .inr (.inr (some 0))), (1, .inl a1)]) (st' := [.inl (I 57 (Int.toNat ((I 0 72))))]) (h' := gr_h I J) (C := (((((True ∧ True) ∧ True) ∧ True) ∧ True) ∧ (0 ≤ (I 0 72) ∧ (I 0 72) < ((1000 : Nat) : Int)))) rfl ⟨⟨⟨⟨⟨trivial, trivial⟩, trivial⟩, trivial⟩, trivial⟩, ⟨by exact gz_m 7 (by omega), by exact gz_m 8 (by omega)⟩⟩ ?_
    refine gv_run 1 true hD (pc' := 18) (lv' := [(0, .inr (.inr (some 0))), (1, .inl a1)]) (st' := [.inl a1, .inl (I 57 (Int.toNat ((I 0 72))))]) (h' := gr_h I J) (C := (True ∧ True)) rfl ⟨trivial, trivial⟩ ?_
    refine gv_icmp_ne (t := 25) hD rfl rfl ⟨⟨by exact gz_m 9 (by omega), by exact gz_m 10 (by omega)⟩, ⟨by exact gz_m 11 (by omega), by exact gz_m 12 (by omega)⟩⟩ (fun c10 => ?_) (fun c10 => ?_)
    · refine gv_pick [] rfl ?_
      exact L25 
    · refine gv_run 2 true hD (pc' := 26) (lv' := [(0, .inr (.inr (some 0))), (1, .inl a1)]) (st' := [.inl 1]) (h' := gr_h I J) (C := ((True ∧ True) ∧ True)) rfl ⟨⟨trivial, trivial⟩, trivial⟩ ?_
      refine gv_pick [] rfl ?_
      exact L26 1 (by exact gz_m 13 (by omega))
set_option maxHeartbeats 8000000 in
set_option maxRecDepth 100000 in
theorem r_same {ws0 : List Cond} {tb : String → gz_T} (hws : ∀ w ∈ gr_ws, w ∈ ws0) (htb : tb RX13 = gr_T) (ext : gz_Sh) (I : gr_I) (J : gr_J) (hI : gr_Inv I) (a1 : Int) (a2 : Int) (ha1 : (-2147483648) ≤ a1 ∧ a1 ≤ 2147483647) (ha2 : (-2147483648) ≤ a2 ∧ a2 ≤ 2147483647)  : ∃ r h', gz_Ev ws0 tb 1 (yX13_same, cX13_same, 4, (some .boolean)) [.inr (.inr (some 0)), .inl a1, .inl a2] (gr_sh ++ ext) (gr_h I J) r (gr_sh ++ ext) h' 0 0 ∧ (∃ (I' : gr_I) (J' : gr_J), h' = gr_h I' J' ∧ gr_Inv I' ∧ gr_fr [0] [] I I' ∧ gr_fj [0] [] J J' ∧ (∃ z : Int, r = some (.inl z) ∧ 0 ≤ z ∧ z ≤ 1)) := by
  have FI : gr_fr [0] [] I I := fun _ _ _ => rfl
  have FJ : gr_fj [0] [] J J := fun _ _ _ => rfl
  have hD : gv_D (gr_E ws0 tb 0 (yX13_same, cX13_same, 4, (some .boolean)) kX13_same) := gq_of oX13_same
  refine gr_ev (d := 0) (l := kX13_same) (Po := fun r h' => (∃ (I' : gr_I) (J' : gr_J), h' = gr_h I' J' ∧ gr_Inv I' ∧ gr_fr [0] [] I I' ∧ gr_fj [0] [] J J' ∧ (∃ z : Int, r = some (.inl z) ∧ 0 ≤ z ∧ z ≤ 1))) htb rfl (Nat.le_of_ble_eq_true rfl) ?_
  have f1 := (gr_b_0_0 hI)
  have L26 : ∀ (s1_2 : Int), (((-2147483648) ≤ a1 ∧ a1 ≤ 2147483647) ∧ ((-2147483648) ≤ a2 ∧ a2 ≤ 2147483647) ∧ (0 ≤ s1_2 ∧ s1_2 ≤ 1) ∧ (s1_2 = 0 → 0 ≤ a1 ∧ a1 ≤ 7 ∧ 0 ≤ a2 ∧ a2 ≤ 7)) → gv_X (gr_E ws0 tb 0 (yX13_same, cX13_same, 4, (some .boolean)) kX13_same) (gv_Q cX13_same (some .boolean) (gr_sh ++ ext) (fun r h' => (∃ (I' : gr_I) (J' : gr_J), h' = gr_h I' J' ∧ gr_Inv I' ∧ gr_fr [0] [] I I' ∧ gr_fj [0] [] J J' ∧ (∃ z : Int, r = some (.inl z) ∧ 0 ≤ z ∧ z ≤ 1)))) (26, [(0, .inr (.inr (some 0))), (1, .inl a1), (2, .inl a2)], [.inl s1_2, .inr (.inr (some 0))], gr_sh ++ ext, gr_h I J) := by
    intro s1_2 m_2
    obtain ⟨ha1_2, ha2_2, hs1_2, e0_2⟩ := m_2
    have f3 := (gr_b_0_0 hI)
    have L51 : ∀ (I4 : gr_I) (J5 : gr_J) , gr_Inv I4 → gr_fr [0] [] I I4 → gr_fj [0] [] J J5 → gv_X (gr_E ws0 tb 0 (yX13_same, cX13_same, 4, (some .boolean)) kX13_same) (gv_Q cX13_same (some .boolean) (gr_sh ++ ext) (fun r h' => (∃ (I' : gr_I) (J' : gr_J), h' = gr_h I' J' ∧ gr_Inv I' ∧ gr_fr [0] [] I I' ∧ gr_fj [0] [] J J' ∧ (∃ z : Int, r = some (.inl z) ∧ 0 ≤ z ∧ z ≤ 1)))) (51, [], [], gr_sh ++ ext, gr_h I4 J5) := by
      intro I4 J5 hI4 FI4 FJ5
      have f7 := (gr_b_0_0 hI4)
      refine gv_run 1 true hD (pc' := 52) (lv' := []) (st' := [.inl 0]) (h' := gr_h I4 J5) (C := (True ∧ True)) rfl ⟨trivial, trivial⟩ ?_
      exact gv_zret hD rfl (by exact gz_m 0 (by omega)) ⟨I4, J5, rfl, hI4, FI4, FJ5, ⟨_, rfl, by exact gz_m 1 (by omega)⟩⟩
    have L55 : ∀ (n : Nat) (I8 : gr_I) (J9 : gr_J) (v3_10 : Int), (61 - v3_10).toNat < n → gr_Inv I8 → gr_fr [0] [] I I8 → gr_fj [0] [] J J9 → ((0 ≤ a1 ∧ a1 ≤ 7) ∧ (0 ≤ a2 ∧ a2 ≤ 7) ∧ (0 ≤ v3_10 ∧ v3_10 ≤ 60)) → gv_X (gr_E ws0 tb 0 (yX13_same, cX13_same, 4, (some .boolean)) kX13_same) (gv_Q cX13_same (some .boolean) (gr_sh ++ ext) (fun r h' => (∃ (I' : gr_I) (J' : gr_J), h' = gr_h I' J' ∧ gr_Inv I' ∧ gr_fr [0] [] I I' ∧ gr_fj [0] [] J J' ∧ (∃ z : Int, r = some (.inl z) ∧ 0 ≤ z ∧ z ≤ 1)))) (55, [(0, .inr (.inr (some 0))), (1, .inl a1), (2, .inl a2), (3, .inl v3_10)], [], gr_sh ++ ext, gr_h I8 J9) := by
      intro n
      induction n with
      | zero => intro I8 J9 v3_10 hn; exact gz_m 2 (by omega)
      | succ n ih55 =>
        intro I8 J9 v3_10 hn hI8 FI8 FJ9 m_10
        obtain ⟨ha1_10, ha2_10, hv3_10⟩ := m_10
        have f11 := (gr_b_0_0 hI8)
        have f12 := (gr_b_115 hI8 (Int.toNat a1))
        refine gv_run 5 true hD (pc' := 62) (lv' := [(0, .inr (.inr (some 0))), (1, .inl a1), (2, .inl a2), (3, .inl v3_10)]) (st' := [.inl (I8 115 (Int.toNat a1)), .inl v3_10]) (h' := gr_h I8 J9) (C := (((((True ∧ True) ∧ True) ∧ True) ∧ True) ∧ (0 ≤ a1 ∧ a1 < ((8 : Nat) : Int)))) rfl ⟨⟨⟨⟨⟨trivial, trivial⟩, trivial⟩, trivial⟩, trivial⟩, ⟨by exact gz_m 3 (by omega), by exact gz_m 4 (by omega)⟩⟩ ?_
        refine gv_icmp_ge (t := 98) hD rfl rfl ⟨⟨by exact gz_m 5 (by omega), by exact gz_m 6 (by omega)⟩, ⟨by exact gz_m 7 (by omega), by exact gz_m 8 (by omega)⟩⟩ (fun c13 => ?_) (fun c13 => ?_)
        · refine gv_run 1 true hD (pc' := 99) (lv' := [(0, .inr (.inr (some 0))), (1, .inl a1), (2, .inl a2), (3, .inl v3_10)]) (st' := [.inl 1]) (h' := gr_h I8 J9) (C := (True ∧ True)) rfl ⟨trivial, trivial⟩ ?_
          exact gv_zret hD rfl (by exact gz_m 9 (by omega)) ⟨I8, J9, rfl, hI8, FI8, FJ9, ⟨_, rfl, by exact gz_m 10 (by omega)⟩⟩
        · refine gv_run 7 true hD (pc' := 75) (lv' := [(0, .inr (.inr (some 0))), (1, .inl a1), (2, .inl a2), (3, .inl v3_10)]) (st' := [.inl ((60 * a1) + v3_10), .inr (.inr (some 114))]) (h' := gr_h I8 J9) (C := (((((((True ∧ True) ∧ True) ∧ True) ∧ True) ∧ True) ∧ True) ∧ True)) rfl ⟨⟨⟨⟨⟨⟨⟨trivial, trivial⟩, trivial⟩, trivial⟩, trivial⟩, trivial⟩, trivial⟩, trivial⟩ ?_
          have f14 := (gr_b_114 hI8 (Int.toNat (((60 * a1) + v3_10))))
          refine gv_run 1 true hD (pc' := 76) (lv' := [(0, .inr (.inr (some 0))), (1, .inl a1), (2, .inl a2), (3, .inl v3_10)]) (st' := [.inl (I8 114 (Int.toNat (((60 * a1) + v3_10))))]) (h' := gr_h I8 J9) (C := (True ∧ (0 ≤ (((60 * a1) + v3_10)) ∧ (((60 * a1) + v3_10)) < ((480 : Nat) : Int)))) rfl ⟨trivial, ⟨by exact gz_m 11 (by omega), by exact gz_m 12 (by omega)⟩⟩ ?_
          refine gv_run 7 true hD (pc' := 86) (lv' := [(0, .inr (.inr (some 0))), (1, .inl a1), (2, .inl a2), (3, .inl v3_10)]) (st' := [.inl ((60 * a2) + v3_10), .inr (.inr (some 114)), .inl (I8 114 (Int.toNat (((60 * a1) + v3_10))))]) (h' := gr_h I8 J9) (C := (((((((True ∧ True) ∧ True) ∧ True) ∧ True) ∧ True) ∧ True) ∧ True)) rfl ⟨⟨⟨⟨⟨⟨⟨trivial, trivial⟩, trivial⟩, trivial⟩, trivial⟩, trivial⟩, trivial⟩, trivial⟩ ?_
          have f15 := (gr_b_114 hI8 (Int.toNat (((60 * a2) + v3_10))))
          refine gv_run 1 true hD (pc' := 87) (lv' := [(0, .inr (.inr (some 0))), (1, .inl a1), (2, .inl a2), (3, .inl v3_10)]) (st' := [.inl (I8 114 (Int.toNat (((60 * a2) + v3_10)))), .inl (I8 114 (Int.toNat (((60 * a1) + v3_10))))]) (h' := gr_h I8 J9) (C := (True ∧ (0 ≤ (((60 * a2) + v3_10)) ∧ (((60 * a2) + v3_10)) < ((480 : Nat) : Int)))) rfl ⟨trivial, ⟨by exact gz_m 13 (by omega), by exact gz_m 14 (by omega)⟩⟩ ?_
          refine gv_icmp_eq (t := 92) hD rfl rfl ⟨⟨by exact gz_m 15 (by omega), by exact gz_m 16 (by omega)⟩, ⟨by exact gz_m 17 (by omega), by exact gz_m 18 (by omega)⟩⟩ (fun c16 => ?_) (fun c16 => ?_)
          · refine gv_run 2 true hD (pc' := 55) (lv' := [(3, .inl (v3_10 + 1)), (0, .inr (.inr (some 0))), (1, .inl a1), (2, .inl a2)]) (st' := []) (h' := gr_h I8 J9) (C := ((True ∧ True) ∧ True)) rfl ⟨⟨trivial, trivial⟩, trivial⟩ ?_
            refine gv_pick [1, 2, 3, 0] rfl ?_
            exact ih55 I8 J9 (v3_10 + 1) (by exact gz_m 19 (by omega)) hI8 FI8 FJ9 (by exact gz_m 20 (by omega))
          · refine gv_run 1 true hD (pc' := 91) (lv' := [(0, .inr (.inr (some 0))), (1, .inl a1), (2, .inl a2), (3, .inl v3_10)]) (st' := [.inl 0]) (h' := gr_h I8 J9) (C := (True ∧ True)) rfl ⟨trivial, trivial⟩ ?_
            exact gv_zret hD rfl (by exact gz_m 21 (by omega)) ⟨I8, J9, rfl, hI8, FI8, FJ9, ⟨_, rfl, by exact gz_m 22 (by omega)⟩⟩
    refine gv_run 1 true hD (pc' := 29) (lv' := [(0, .inr (.inr (some 0))), (1, .inl a1), (2, .inl a2)]) (st' := []) (h' := gz_up (gr_h I J) 0 0 (.inl s1_2)) (C := (True ∧ True)) rfl ⟨trivial, trivial⟩ ?_
    refine gr_st hI FI rfl rfl ⟨⟨by show 0 ≤ _; exact gz_m 23 (by omega), by show _ ≤ 2; exact gz_m 24 (by omega)⟩, trivial⟩ (fun I17 hI17 FI17 q18 p18 => ?_)
    have f19 := (gr_b_0_0 hI17)
    have f20 := (gr_b_0_0 hI17)
    refine gv_run 2 true hD (pc' := 33) (lv' := [(0, .inr (.inr (some 0))), (1, .inl a1), (2, .inl a2)]) (st' := [.inl (I17 0 0)]) (h' := gr_h I17 J) (C := ((True ∧ True) ∧ True)) rfl ⟨⟨trivial, trivial⟩, trivial⟩ ?_
    refine gv_if_ne (t := 51) hD rfl rfl ⟨by exact gz_m 25 (by omega), by exact gz_m 26 (by omega)⟩ (fun c21 => ?_) (fun c21 => ?_)
    · refine gv_pick [] rfl ?_
      exact L51 I17 J hI17 FI17 FJ
    · have f22 := (gr_b_115 hI17 (Int.toNat a1))
      refine gv_run 4 true hD (pc' := 42) (lv' := [(0, .inr (.inr (some 0))), (1, .inl a1), (2, .inl a2)]) (st' := [.inl (I17 115 (Int.toNat a1))]) (h' := gr_h I17 J) (C := ((((True ∧ True) ∧ True) ∧ True) ∧ (0 ≤ a1 ∧ a1 < ((8 : Nat) : Int)))) rfl ⟨⟨⟨⟨trivial, trivial⟩, trivial⟩, trivial⟩, ⟨by exact gz_m 27 (by omega), by exact gz_m 28 (by omega)⟩⟩ ?_
      have f23 := (gr_b_115 hI17 (Int.toNat a2))
      refine gv_run 4 true hD (pc' := 48) (lv' := [(0, .inr (.inr (some 0))), (1, .inl a1), (2, .inl a2)]) (st' := [.inl (I17 115 (Int.toNat a2)), .inl (I17 115 (Int.toNat a1))]) (h' := gr_h I17 J) (C := ((((True ∧ True) ∧ True) ∧ True) ∧ (0 ≤ a2 ∧ a2 < ((8 : Nat) : Int)))) rfl ⟨⟨⟨⟨trivial, trivial⟩, trivial⟩, trivial⟩, ⟨by exact gz_m 29 (by omega), by exact gz_m 30 (by omega)⟩⟩ ?_
      refine gv_icmp_eq (t := 53) hD rfl rfl ⟨⟨by exact gz_m 31 (by omega), by exact gz_m 32 (by omega)⟩, ⟨by exact gz_m 33 (by omega), by exact gz_m 34 (by omega)⟩⟩ (fun c24 => ?_) (fun c24 => ?_)
      · refine gv_run 2 true hD (pc' := 55) (lv' := [(3, .inl 0), (0, .inr (.inr (some 0))), (1, .inl a1), (2, .inl a2)]) (st' := []) (h' := gr_h I17 J) (C := ((True ∧ True) ∧ True)) rfl ⟨⟨trivial, trivial⟩, trivial⟩ ?_
        refine gv_pick [1, 2, 3, 0] rfl ?_
        exact L55 _ I17 J 0 (Nat.lt_succ_self _) hI17 FI17 FJ (by exact gz_m 35 (by omega))
      · refine gv_pick [] rfl ?_
        exact L51 I17 J hI17 FI17 FJ
  have L21 : (((-2147483648) ≤ a1 ∧ a1 ≤ 2147483647) ∧ ((-2147483648) ≤ a2 ∧ a2 ≤ 2147483647)) → gv_X (gr_E ws0 tb 0 (yX13_same, cX13_same, 4, (some .boolean)) kX13_same) (gv_Q cX13_same (some .boolean) (gr_sh ++ ext) (fun r h' => (∃ (I' : gr_I) (J' : gr_J), h' = gr_h I' J' ∧ gr_Inv I' ∧ gr_fr [0] [] I I' ∧ gr_fj [0] [] J J' ∧ (∃ z : Int, r = some (.inl z) ∧ 0 ≤ z ∧ z ≤ 1)))) (21, [(0, .inr (.inr (some 0))), (1, .inl a1), (2, .inl a2)], [.inr (.inr (some 0))], gr_sh ++ ext, gr_h I J) := by
    intro m_25
    obtain ⟨ha1_25, ha2_25⟩ := m_25
    have f26 := (gr_b_0_0 hI)
    refine gv_run 2 true hD (pc' := 26) (lv' := [(0, .inr (.inr (some 0))), (1, .inl a1), (2, .inl a2)]) (st' := [.inl 1, .inr (.inr (some 0))]) (h' := gr_h I J) (C := ((True ∧ True) ∧ True)) rfl ⟨⟨trivial, trivial⟩, trivial⟩ ?_
    exact L26 1 (by exact gz_m 36 (by omega))
  refine gv_run 2 true hD (pc' := 2) (lv' := [(0, .inr (.inr (some 0))), (1, .inl a1), (2, .inl a2)]) (st' := [.inl a1, .inr (.inr (some 0))]) (h' := gr_h I J) (C := ((True ∧ True) ∧ True)) rfl ⟨⟨trivial, trivial⟩, trivial⟩ ?_
  refine gv_if_lt (t := 21) hD rfl rfl ⟨by exact gz_m 37 (by omega), by exact gz_m 38 (by omega)⟩ (fun c27 => ?_) (fun c27 => ?_)
  · exact L21 (by exact gz_m 39 (by omega))
  · refine gv_run 2 true hD (pc' := 8) (lv' := [(0, .inr (.inr (some 0))), (1, .inl a1), (2, .inl a2)]) (st' := [.inl 7, .inl a1, .inr (.inr (some 0))]) (h' := gr_h I J) (C := ((True ∧ True) ∧ True)) rfl ⟨⟨trivial, trivial⟩, trivial⟩ ?_
    refine gv_icmp_gt (t := 21) hD rfl rfl ⟨⟨by exact gz_m 40 (by omega), by exact gz_m 41 (by omega)⟩, ⟨by exact gz_m 42 (by omega), by exact gz_m 43 (by omega)⟩⟩ (fun c28 => ?_) (fun c28 => ?_)
    · exact L21 (by exact gz_m 44 (by omega))
    · refine gv_run 1 true hD (pc' := 12) (lv' := [(0, .inr (.inr (some 0))), (1, .inl a1), (2, .inl a2)]) (st' := [.inl a2, .inr (.inr (some 0))]) (h' := gr_h I J) (C := (True ∧ True)) rfl ⟨trivial, trivial⟩ ?_
      refine gv_if_lt (t := 21) hD rfl rfl ⟨by exact gz_m 45 (by omega), by exact gz_m 46 (by omega)⟩ (fun c29 => ?_) (fun c29 => ?_)
      · exact L21 (by exact gz_m 47 (by omega))
      · refine gv_run 2 true hD (pc' := 18) (lv' := [(0, .inr (.inr (some 0))), (1, .inl a1), (2, .inl a2)]) (st' := [.inl 7, .inl a2, .inr (.inr (some 0))]) (h' := gr_h I J) (C := ((True ∧ True) ∧ True)) rfl ⟨⟨trivial, trivial⟩, trivial⟩ ?_
        refine gv_icmp_le (t := 25) hD rfl rfl ⟨⟨by exact gz_m 48 (by omega), by exact gz_m 49 (by omega)⟩, ⟨by exact gz_m 50 (by omega), by exact gz_m 51 (by omega)⟩⟩ (fun c30 => ?_) (fun c30 => ?_)
        · refine gv_run 1 true hD (pc' := 26) (lv' := [(0, .inr (.inr (some 0))), (1, .inl a1), (2, .inl a2)]) (st' := [.inl 0, .inr (.inr (some 0))]) (h' := gr_h I J) (C := (True ∧ True)) rfl ⟨trivial, trivial⟩ ?_
          exact L26 0 (by exact gz_m 52 (by omega))
        · exact L21 (by exact gz_m 53 (by omega))
set_option maxHeartbeats 8000000 in
set_option maxRecDepth 100000 in
theorem r_times {ws0 : List Cond} {tb : String → gz_T} (hws : ∀ w ∈ gr_ws, w ∈ ws0) (htb : tb RX13 = gr_T) (ext : gz_Sh) (I : gr_I) (J : gr_J) (hI : gr_Inv I) (a1 : Int64) (a2 : Int64)   : ∃ r h', gz_Ev ws0 tb 1 (yX13_times, cX13_times, 4, (some .long)) [.inr (.inl a1), .inr (.inl a2)] (gr_sh ++ ext) (gr_h I J) r (gr_sh ++ ext) h' 0 0 ∧ (h' = gr_h I J ∧ (∃ z : Int64, r = some (.inr (.inl z)))) := by
  have hD : gv_D (gr_E ws0 tb 0 (yX13_times, cX13_times, 4, (some .long)) kX13_times) := gq_of oX13_times
  refine gr_ev (d := 0) (l := kX13_times) (Po := fun r h' => (h' = gr_h I J ∧ (∃ z : Int64, r = some (.inr (.inl z))))) htb rfl (Nat.le_of_ble_eq_true rfl) ?_
  have L25 : ∀ (s0_1 : Int64), gv_X (gr_E ws0 tb 0 (yX13_times, cX13_times, 4, (some .long)) kX13_times) (gv_Q cX13_times (some .long) (gr_sh ++ ext) (fun r h' => (h' = gr_h I J ∧ (∃ z : Int64, r = some (.inr (.inl z)))))) (25, [], [.inr (.inl s0_1)], gr_sh ++ ext, gr_h I J) := by
    intro s0_1
    exact gv_lret hD rfl ⟨rfl, ⟨_, rfl⟩⟩
  have L22 : gv_X (gr_E ws0 tb 0 (yX13_times, cX13_times, 4, (some .long)) kX13_times) (gv_Q cX13_times (some .long) (gr_sh ++ ext) (fun r h' => (h' = gr_h I J ∧ (∃ z : Int64, r = some (.inr (.inl z)))))) (22, [(0, .inr (.inl a1)), (2, .inr (.inl a2))], [], gr_sh ++ ext, gr_h I J) := by
    refine gv_run 3 true hD (pc' := 25) (lv' := [(0, .inr (.inl a1)), (2, .inr (.inl a2))]) (st' := [.inr (.inl (a1 * a2))]) (h' := gr_h I J) (C := (((True ∧ True) ∧ True) ∧ True)) rfl ⟨⟨⟨trivial, trivial⟩, trivial⟩, trivial⟩ ?_
    refine gv_pick [] rfl ?_
    exact L25 (a1 * a2)
  have f3 := gw_cmp (a1) ((Int64.ofNat 0))
  refine gv_run 3 true hD (pc' := 3) (lv' := [(0, .inr (.inl a1)), (2, .inr (.inl a2))]) (st' := [.inl ((lg_cmp (a1) ((Int64.ofNat 0))).toInt)]) (h' := gr_h I J) (C := (((True ∧ True) ∧ True) ∧ True)) rfl ⟨⟨⟨trivial, trivial⟩, trivial⟩, trivial⟩ ?_
  refine gv_if_eq (t := 22) hD rfl rfl ⟨by exact gz_m 0 (by omega), by exact gz_m 1 (by omega)⟩ (fun c4 => ?_) (fun c4 => ?_)
  · exact L22
  · have f5 := gw_cmp (a2) (((1000000000000000000) / a1))
    refine gv_run 5 true hD (pc' := 13) (lv' := [(0, .inr (.inl a1)), (2, .inr (.inl a2))]) (st' := [.inl ((lg_cmp (a2) (((1000000000000000000) / a1))).toInt)]) (h' := gr_h I J) (C := (((((True ∧ True) ∧ True) ∧ True) ∧ (¬ a1 = 0)) ∧ True)) rfl ⟨⟨⟨⟨⟨trivial, trivial⟩, trivial⟩, trivial⟩, (by intro q; subst q; exact absurd (show (lg_cmp 0 (Int64.ofNat 0)).toInt = 0 by decide) (by assumption))⟩, trivial⟩ ?_
    refine gv_if_le (t := 22) hD rfl rfl ⟨by exact gz_m 2 (by omega), by exact gz_m 3 (by omega)⟩ (fun c6 => ?_) (fun c6 => ?_)
    · exact L22
    · refine gv_run 2 true hD (pc' := 25) (lv' := [(0, .inr (.inl a1)), (2, .inr (.inl a2))]) (st' := [.inr (.inl (1000000000000000000))]) (h' := gr_h I J) (C := ((True ∧ True) ∧ True)) rfl ⟨⟨trivial, trivial⟩, trivial⟩ ?_
      refine gv_pick [] rfl ?_
      exact L25 (1000000000000000000)
set_option maxHeartbeats 8000000 in
set_option maxRecDepth 100000 in
theorem r_word__84 {ws0 : List Cond} {tb : String → gz_T} (hws : ∀ w ∈ gr_ws, w ∈ ws0) (htb : tb RX13 = gr_T) (ext : gz_Sh) (I : gr_I) (J : gr_J) (hI : gr_Inv I) (a1 : Int) (a3 : Int) (a4 : Int) (ha1 : 0 ≤ a1 ∧ a1 ≤ 23) (ha3 : 0 ≤ a3 ∧ a3 ≤ 576) (ha4 : 0 ≤ a4 ∧ a4 ≤ 24) (x0 : a3 + a4 ≤ 576) : ∃ r h', gz_Ev ws0 tb 1 (yX13_word_, cX13_word_, 6, none) [.inr (.inr (some 0)), .inl a1, .inr (.inr (some 84)), .inl a3, .inl a4] (gr_sh ++ ext) (gr_h I J) r (gr_sh ++ ext) h' 0 0 ∧ (∃ (I' : gr_I) (J' : gr_J), h' = gr_h I' J' ∧ gr_Inv I' ∧ gr_fr [] [83, 85] I I' ∧ gr_fj [] [83, 85] J J' ∧ r = none) := by
  have FI : gr_fr [] [83, 85] I I := fun _ _ _ => rfl
  have FJ : gr_fj [] [83, 85] J J := fun _ _ _ => rfl
  have hD : gv_D (gr_E ws0 tb 0 (yX13_word_, cX13_word_, 6, none) kX13_word_) := gq_of oX13_word_
  refine gr_ev (d := 0) (l := kX13_word_) (Po := fun r h' => (∃ (I' : gr_I) (J' : gr_J), h' = gr_h I' J' ∧ gr_Inv I' ∧ gr_fr [] [83, 85] I I' ∧ gr_fj [] [83, 85] J J' ∧ r = none)) htb rfl (Nat.le_of_ble_eq_true rfl) ?_
  have L11 : ∀ (n : Nat) (I1 : gr_I) (J2 : gr_J) (v5_3 : Int), (25 - v5_3).toNat < n → gr_Inv I1 → gr_fr [] [83, 85] I I1 → gr_fj [] [83, 85] J J2 → ((0 ≤ a1 ∧ a1 ≤ 23) ∧ (0 ≤ a3 ∧ a3 ≤ 576) ∧ (0 ≤ a4 ∧ a4 ≤ 24) ∧ (0 ≤ v5_3 ∧ v5_3 ≤ 24)) → gv_X (gr_E ws0 tb 0 (yX13_word_, cX13_word_, 6, none) kX13_word_) (gv_Q cX13_word_ none (gr_sh ++ ext) (fun r h' => (∃ (I' : gr_I) (J' : gr_J), h' = gr_h I' J' ∧ gr_Inv I' ∧ gr_fr [] [83, 85] I I' ∧ gr_fj [] [83, 85] J J' ∧ r = none))) (11, [(0, .inr (.inr (some 0))), (1, .inl a1), (2, .inr (.inr (some 84))), (3, .inl a3), (4, .inl a4), (5, .inl v5_3)], [], gr_sh ++ ext, gr_h I1 J2) := by
    intro n
    induction n with
    | zero => intro I1 J2 v5_3 hn; exact gz_m 0 (by omega)
    | succ n ih11 =>
      intro I1 J2 v5_3 hn hI1 FI1 FJ2 m_3
      obtain ⟨ha1_3, ha3_3, ha4_3, hv5_3⟩ := m_3
      refine gv_run 2 true hD (pc' := 15) (lv' := [(0, .inr (.inr (some 0))), (1, .inl a1), (2, .inr (.inr (some 84))), (3, .inl a3), (4, .inl a4), (5, .inl v5_3)]) (st' := [.inl a4, .inl v5_3]) (h' := gr_h I1 J2) (C := ((True ∧ True) ∧ True)) rfl ⟨⟨trivial, trivial⟩, trivial⟩ ?_
      refine gv_icmp_ge (t := 42) hD rfl rfl ⟨⟨by exact gz_m 1 (by omega), by exact gz_m 2 (by omega)⟩, ⟨by exact gz_m 3 (by omega), by exact gz_m 4 (by omega)⟩⟩ (fun c4 => ?_) (fun c4 => ?_)
      · exact gv_vret hD rfl ⟨I1, J2, rfl, hI1, FI1, FJ2, rfl⟩
      · refine gv_run 7 true hD (pc' := 29) (lv' := [(0, .inr (.inr (some 0))), (1, .inl a1), (2, .inr (.inr (some 84))), (3, .inl a3), (4, .inl a4), (5, .inl v5_3)]) (st' := [.inl ((24 * a1) + v5_3), .inr (.inr (some 83))]) (h' := gr_h I1 J2) (C := (((((((True ∧ True) ∧ True) ∧ True) ∧ True) ∧ True) ∧ True) ∧ True)) rfl ⟨⟨⟨⟨⟨⟨⟨trivial, trivial⟩, trivial⟩, trivial⟩, trivial⟩, trivial⟩, trivial⟩, trivial⟩ ?_
        have f5 := (gr_b_84 hI1 (Int.toNat ((a3 + v5_3))))
        refine gv_run 5 true hD (pc' := 35) (lv' := [(0, .inr (.inr (some 0))), (1, .inl a1), (2, .inr (.inr (some 84))), (3, .inl a3), (4, .inl a4), (5, .inl v5_3)]) (st' := [.inl (I1 84 (Int.toNat ((a3 + v5_3)))), .inl ((24 * a1) + v5_3), .inr (.inr (some 83))]) (h' := gr_h I1 J2) (C := (((((True ∧ True) ∧ True) ∧ True) ∧ True) ∧ (0 ≤ (a3 + v5_3) ∧ (a3 + v5_3) < ((576 : Nat) : Int)))) rfl ⟨⟨⟨⟨⟨trivial, trivial⟩, trivial⟩, trivial⟩, trivial⟩, ⟨by exact gz_m 5 (by omega), by exact gz_m 6 (by omega)⟩⟩ ?_
        have f6 := gw_nar_byte (x := ((I1 84 (Int.toNat ((a3 + v5_3))))))
        refine gv_run 1 true hD (pc' := 36) (lv' := [(0, .inr (.inr (some 0))), (1, .inl a1), (2, .inr (.inr (some 84))), (3, .inl a3), (4, .inl a4), (5, .inl v5_3)]) (st' := []) (h' := gz_up (gr_h I1 J2) 83 (Int.toNat (((24 * a1) + v5_3))) (.inl (((vp_nar .byte (Int32.ofInt ((I1 84 (Int.toNat ((a3 + v5_3))))))).toInt)))) (C := (True ∧ (0 ≤ (((24 * a1) + v5_3)) ∧ (((24 * a1) + v5_3)) < ((576 : Nat) : Int)))) rfl ⟨trivial, ⟨by exact gz_m 7 (by omega), by exact gz_m 8 (by omega)⟩⟩ ?_
        refine gr_st hI1 FI1 rfl rfl ⟨⟨by show (-128) ≤ _; exact gz_m 9 (by omega), by show _ ≤ 127; exact gz_m 10 (by omega)⟩, trivial⟩ (fun I7 hI7 FI7 q8 p8 => ?_)
        refine gv_run 2 true hD (pc' := 11) (lv' := [(5, .inl (v5_3 + 1)), (0, .inr (.inr (some 0))), (1, .inl a1), (2, .inr (.inr (some 84))), (3, .inl a3), (4, .inl a4)]) (st' := []) (h' := gr_h I7 J2) (C := ((True ∧ True) ∧ True)) rfl ⟨⟨trivial, trivial⟩, trivial⟩ ?_
        refine gv_pick [1, 2, 3, 4, 5, 0] rfl ?_
        exact ih11 I7 J2 (v5_3 + 1) (by exact gz_m 11 (by omega)) hI7 FI7 FJ2 (by exact gz_m 12 (by omega))
  refine gv_run 4 true hD (pc' := 7) (lv' := [(0, .inr (.inr (some 0))), (1, .inl a1), (2, .inr (.inr (some 84))), (3, .inl a3), (4, .inl a4)]) (st' := [.inl a4, .inl a1, .inr (.inr (some 85))]) (h' := gr_h I J) (C := ((((True ∧ True) ∧ True) ∧ True) ∧ True)) rfl ⟨⟨⟨⟨trivial, trivial⟩, trivial⟩, trivial⟩, trivial⟩ ?_
  refine gv_run 1 true hD (pc' := 8) (lv' := [(0, .inr (.inr (some 0))), (1, .inl a1), (2, .inr (.inr (some 84))), (3, .inl a3), (4, .inl a4)]) (st' := []) (h' := gz_up (gr_h I J) 85 (Int.toNat a1) (.inl a4)) (C := (True ∧ (0 ≤ a1 ∧ a1 < ((24 : Nat) : Int)))) rfl ⟨trivial, ⟨by exact gz_m 13 (by omega), by exact gz_m 14 (by omega)⟩⟩ ?_
  refine gr_st hI FI rfl rfl ⟨⟨by show 0 ≤ _; exact gz_m 15 (by omega), by show _ ≤ 24; exact gz_m 16 (by omega)⟩, trivial⟩ (fun I9 hI9 FI9 q10 p10 => ?_)
  refine gv_run 2 true hD (pc' := 11) (lv' := [(5, .inl 0), (0, .inr (.inr (some 0))), (1, .inl a1), (2, .inr (.inr (some 84))), (3, .inl a3), (4, .inl a4)]) (st' := []) (h' := gr_h I9 J) (C := ((True ∧ True) ∧ True)) rfl ⟨⟨trivial, trivial⟩, trivial⟩ ?_
  refine gv_pick [1, 2, 3, 4, 5, 0] rfl ?_
  exact L11 _ I9 J 0 (Nat.lt_succ_self _) hI9 FI9 FJ (by exact gz_m 17 (by omega))
set_option maxHeartbeats 8000000 in
set_option maxRecDepth 100000 in
theorem r_word__78 {ws0 : List Cond} {tb : String → gz_T} (hws : ∀ w ∈ gr_ws, w ∈ ws0) (htb : tb RX13 = gr_T) (ext : gz_Sh) (I : gr_I) (J : gr_J) (hI : gr_Inv I) (a1 : Int) (a3 : Int) (a4 : Int) (ha1 : 0 ≤ a1 ∧ a1 ≤ 23) (ha3 : 0 ≤ a3 ∧ a3 ≤ 36864) (ha4 : 0 ≤ a4 ∧ a4 ≤ 24) (x0 : a3 + a4 ≤ 36864) : ∃ r h', gz_Ev ws0 tb 1 (yX13_word_, cX13_word_, 6, none) [.inr (.inr (some 0)), .inl a1, .inr (.inr (some 78)), .inl a3, .inl a4] (gr_sh ++ ext) (gr_h I J) r (gr_sh ++ ext) h' 0 0 ∧ (∃ (I' : gr_I) (J' : gr_J), h' = gr_h I' J' ∧ gr_Inv I' ∧ gr_fr [] [83, 85] I I' ∧ gr_fj [] [83, 85] J J' ∧ r = none) := by
  have FI : gr_fr [] [83, 85] I I := fun _ _ _ => rfl
  have FJ : gr_fj [] [83, 85] J J := fun _ _ _ => rfl
  have hD : gv_D (gr_E ws0 tb 0 (yX13_word_, cX13_word_, 6, none) kX13_word_) := gq_of oX13_word_
  refine gr_ev (d := 0) (l := kX13_word_) (Po := fun r h' => (∃ (I' : gr_I) (J' : gr_J), h' = gr_h I' J' ∧ gr_Inv I' ∧ gr_fr [] [83, 85] I I' ∧ gr_fj [] [83, 85] J J' ∧ r = none)) htb rfl (Nat.le_of_ble_eq_true rfl) ?_
  have L11 : ∀ (n : Nat) (I1 : gr_I) (J2 : gr_J) (v5_3 : Int), (25 - v5_3).toNat < n → gr_Inv I1 → gr_fr [] [83, 85] I I1 → gr_fj [] [83, 85] J J2 → ((0 ≤ a1 ∧ a1 ≤ 23) ∧ (0 ≤ a3 ∧ a3 ≤ 36864) ∧ (0 ≤ a4 ∧ a4 ≤ 24) ∧ (0 ≤ v5_3 ∧ v5_3 ≤ 24)) → gv_X (gr_E ws0 tb 0 (yX13_word_, cX13_word_, 6, none) kX13_word_) (gv_Q cX13_word_ none (gr_sh ++ ext) (fun r h' => (∃ (I' : gr_I) (J' : gr_J), h' = gr_h I' J' ∧ gr_Inv I' ∧ gr_fr [] [83, 85] I I' ∧ gr_fj [] [83, 85] J J' ∧ r = none))) (11, [(0, .inr (.inr (some 0))), (1, .inl a1), (2, .inr (.inr (some 78))), (3, .inl a3), (4, .inl a4), (5, .inl v5_3)], [], gr_sh ++ ext, gr_h I1 J2) := by
    intro n
    induction n with
    | zero => intro I1 J2 v5_3 hn; exact gz_m 0 (by omega)
    | succ n ih11 =>
      intro I1 J2 v5_3 hn hI1 FI1 FJ2 m_3
      obtain ⟨ha1_3, ha3_3, ha4_3, hv5_3⟩ := m_3
      refine gv_run 2 true hD (pc' := 15) (lv' := [(0, .inr (.inr (some 0))), (1, .inl a1), (2, .inr (.inr (some 78))), (3, .inl a3), (4, .inl a4), (5, .inl v5_3)]) (st' := [.inl a4, .inl v5_3]) (h' := gr_h I1 J2) (C := ((True ∧ True) ∧ True)) rfl ⟨⟨trivial, trivial⟩, trivial⟩ ?_
      refine gv_icmp_ge (t := 42) hD rfl rfl ⟨⟨by exact gz_m 1 (by omega), by exact gz_m 2 (by omega)⟩, ⟨by exact gz_m 3 (by omega), by exact gz_m 4 (by omega)⟩⟩ (fun c4 => ?_) (fun c4 => ?_)
      · exact gv_vret hD rfl ⟨I1, J2, rfl, hI1, FI1, FJ2, rfl⟩
      · refine gv_run 7 true hD (pc' := 29) (lv' := [(0, .inr (.inr (some 0))), (1, .inl a1), (2, .inr (.inr (some 78))), (3, .inl a3), (4, .inl a4), (5, .inl v5_3)]) (st' := [.inl ((24 * a1) + v5_3), .inr (.inr (some 83))]) (h' := gr_h I1 J2) (C := (((((((True ∧ True) ∧ True) ∧ True) ∧ True) ∧ True) ∧ True) ∧ True)) rfl ⟨⟨⟨⟨⟨⟨⟨trivial, trivial⟩, trivial⟩, trivial⟩, trivial⟩, trivial⟩, trivial⟩, trivial⟩ ?_
        have f5 := (gr_b_78 hI1 (Int.toNat ((a3 + v5_3))))
        refine gv_run 5 true hD (pc' := 35) (lv' := [(0, .inr (.inr (some 0))), (1, .inl a1), (2, .inr (.inr (some 78))), (3, .inl a3), (4, .inl a4), (5, .inl v5_3)]) (st' := [.inl (I1 78 (Int.toNat ((a3 + v5_3)))), .inl ((24 * a1) + v5_3), .inr (.inr (some 83))]) (h' := gr_h I1 J2) (C := (((((True ∧ True) ∧ True) ∧ True) ∧ True) ∧ (0 ≤ (a3 + v5_3) ∧ (a3 + v5_3) < ((36864 : Nat) : Int)))) rfl ⟨⟨⟨⟨⟨trivial, trivial⟩, trivial⟩, trivial⟩, trivial⟩, ⟨by exact gz_m 5 (by omega), by exact gz_m 6 (by omega)⟩⟩ ?_
        have f6 := gw_nar_byte (x := ((I1 78 (Int.toNat ((a3 + v5_3))))))
        refine gv_run 1 true hD (pc' := 36) (lv' := [(0, .inr (.inr (some 0))), (1, .inl a1), (2, .inr (.inr (some 78))), (3, .inl a3), (4, .inl a4), (5, .inl v5_3)]) (st' := []) (h' := gz_up (gr_h I1 J2) 83 (Int.toNat (((24 * a1) + v5_3))) (.inl (((vp_nar .byte (Int32.ofInt ((I1 78 (Int.toNat ((a3 + v5_3))))))).toInt)))) (C := (True ∧ (0 ≤ (((24 * a1) + v5_3)) ∧ (((24 * a1) + v5_3)) < ((576 : Nat) : Int)))) rfl ⟨trivial, ⟨by exact gz_m 7 (by omega), by exact gz_m 8 (by omega)⟩⟩ ?_
        refine gr_st hI1 FI1 rfl rfl ⟨⟨by show (-128) ≤ _; exact gz_m 9 (by omega), by show _ ≤ 127; exact gz_m 10 (by omega)⟩, trivial⟩ (fun I7 hI7 FI7 q8 p8 => ?_)
        refine gv_run 2 true hD (pc' := 11) (lv' := [(5, .inl (v5_3 + 1)), (0, .inr (.inr (some 0))), (1, .inl a1), (2, .inr (.inr (some 78))), (3, .inl a3), (4, .inl a4)]) (st' := []) (h' := gr_h I7 J2) (C := ((True ∧ True) ∧ True)) rfl ⟨⟨trivial, trivial⟩, trivial⟩ ?_
        refine gv_pick [1, 2, 3, 4, 5, 0] rfl ?_
        exact ih11 I7 J2 (v5_3 + 1) (by exact gz_m 11 (by omega)) hI7 FI7 FJ2 (by exact gz_m 12 (by omega))
  refine gv_run 4 true hD (pc' := 7) (lv' := [(0, .inr (.inr (some 0))), (1, .inl a1), (2, .inr (.inr (some 78))), (3, .inl a3), (4, .inl a4)]) (st' := [.inl a4, .inl a1, .inr (.inr (some 85))]) (h' := gr_h I J) (C := ((((True ∧ True) ∧ True) ∧ True) ∧ True)) rfl ⟨⟨⟨⟨trivial, trivial⟩, trivial⟩, trivial⟩, trivial⟩ ?_
  refine gv_run 1 true hD (pc' := 8) (lv' := [(0, .inr (.inr (some 0))), (1, .inl a1), (2, .inr (.inr (some 78))), (3, .inl a3), (4, .inl a4)]) (st' := []) (h' := gz_up (gr_h I J) 85 (Int.toNat a1) (.inl a4)) (C := (True ∧ (0 ≤ a1 ∧ a1 < ((24 : Nat) : Int)))) rfl ⟨trivial, ⟨by exact gz_m 13 (by omega), by exact gz_m 14 (by omega)⟩⟩ ?_
  refine gr_st hI FI rfl rfl ⟨⟨by show 0 ≤ _; exact gz_m 15 (by omega), by show _ ≤ 24; exact gz_m 16 (by omega)⟩, trivial⟩ (fun I9 hI9 FI9 q10 p10 => ?_)
  refine gv_run 2 true hD (pc' := 11) (lv' := [(5, .inl 0), (0, .inr (.inr (some 0))), (1, .inl a1), (2, .inr (.inr (some 78))), (3, .inl a3), (4, .inl a4)]) (st' := []) (h' := gr_h I9 J) (C := ((True ∧ True) ∧ True)) rfl ⟨⟨trivial, trivial⟩, trivial⟩ ?_
  refine gv_pick [1, 2, 3, 4, 5, 0] rfl ?_
  exact L11 _ I9 J 0 (Nat.lt_succ_self _) hI9 FI9 FJ (by exact gz_m 17 (by omega))
