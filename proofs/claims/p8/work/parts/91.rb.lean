set_option maxHeartbeats 8000000 in
set_option maxRecDepth 100000 in
theorem r_right {ws0 : List Cond} {tb : String → gz_T} (hws : ∀ w ∈ gr_ws, w ∈ ws0) (htb : tb RX13 = gr_T) (ext : gz_Sh) (I : gr_I) (J : gr_J) (hI : gr_Inv I) (a1 : Int) (a2 : Int) (a3 : Int) (ha1 : 0 ≤ a1 ∧ a1 ≤ 7) (ha2 : 0 ≤ a2 ∧ a2 ≤ 191) (ha3 : 0 ≤ a3 ∧ a3 ≤ 24)  : ∃ r h', gz_Ev ws0 tb 3 (yX13_right, cX13_right, 7, (some .boolean)) [.inr (.inr (some 0)), .inl a1, .inl a2, .inl a3] (gr_sh ++ ext) (gr_h I J) r (gr_sh ++ ext) h' 0 0 ∧ (h' = gr_h I J ∧ (∃ z : Int, r = some (.inl z) ∧ 0 ≤ z ∧ z ≤ 1)) := by
  have hD : gv_D (gr_E ws0 tb 2 (yX13_right, cX13_right, 7, (some .boolean)) kX13_right) := gq_of oX13_right
  refine gr_ev (d := 2) (l := kX13_right) (Po := fun r h' => (h' = gr_h I J ∧ (∃ z : Int, r = some (.inl z) ∧ 0 ≤ z ∧ z ≤ 1))) htb rfl (Nat.le_of_ble_eq_true rfl) ?_
  have f1 := (gr_b_0_126 hI)
  have L8 : ∀ (n : Nat) (v4_2 : Int) (v5_2 : Int), (577 - v5_2).toNat < n → ((0 ≤ a1 ∧ a1 ≤ 7) ∧ (0 ≤ a2 ∧ a2 ≤ 191) ∧ (0 ≤ v4_2 ∧ v4_2 ≤ 24) ∧ (0 ≤ v5_2 ∧ v5_2 ≤ 576)) → gv_X (gr_E ws0 tb 2 (yX13_right, cX13_right, 7, (some .boolean)) kX13_right) (gv_Q cX13_right (some .boolean) (gr_sh ++ ext) (fun r h' => (h' = gr_h I J ∧ (∃ z : Int, r = some (.inl z) ∧ 0 ≤ z ∧ z ≤ 1)))) (8, [(0, .inr (.inr (some 0))), (1, .inl a1), (2, .inl a2), (4, .inl v4_2), (5, .inl v5_2)], [], gr_sh ++ ext, gr_h I J) := by
    intro n
    induction n with
    | zero => intro v4_2 v5_2 hn; exact gz_m 0 (by omega)
    | succ n ih8 =>
      intro v4_2 v5_2 hn m_2
      obtain ⟨ha1_2, ha2_2, hv4_2, hv5_2⟩ := m_2
      have f3 := (gr_b_0_126 hI)
      have L85 : ∀ (v4_4 : Int), ((0 ≤ a1 ∧ a1 ≤ 7) ∧ (0 ≤ a2 ∧ a2 ≤ 191) ∧ (0 ≤ v4_4 ∧ v4_4 ≤ 24) ∧ (0 ≤ v5_2 ∧ v5_2 ≤ 575)) → gv_X (gr_E ws0 tb 2 (yX13_right, cX13_right, 7, (some .boolean)) kX13_right) (gv_Q cX13_right (some .boolean) (gr_sh ++ ext) (fun r h' => (h' = gr_h I J ∧ (∃ z : Int, r = some (.inl z) ∧ 0 ≤ z ∧ z ≤ 1)))) (85, [(0, .inr (.inr (some 0))), (1, .inl a1), (2, .inl a2), (4, .inl v4_4), (5, .inl v5_2)], [], gr_sh ++ ext, gr_h I J) := by
        intro v4_4 m_4
        obtain ⟨ha1_4, ha2_4, hv4_4, hv5_2_4⟩ := m_4
        have f5 := (gr_b_0_126 hI)
        refine gv_run 2 true hD (pc' := 8) (lv' := [(5, .inl (v5_2 + 1)), (0, .inr (.inr (some 0))), (1, .inl a1), (2, .inl a2), (4, .inl v4_4)]) (st' := []) (h' := gr_h I J) (C := ((True ∧ True) ∧ True)) rfl ⟨⟨trivial, trivial⟩, trivial⟩ ?_
        refine gv_pick [1, 2, 3, 4, 0] rfl ?_
        exact ih8 v4_4 (v5_2 + 1) (by exact gz_m 1 (by omega)) (by exact gz_m 2 (by omega))
      have L91 : gv_X (gr_E ws0 tb 2 (yX13_right, cX13_right, 7, (some .boolean)) kX13_right) (gv_Q cX13_right (some .boolean) (gr_sh ++ ext) (fun r h' => (h' = gr_h I J ∧ (∃ z : Int, r = some (.inl z) ∧ 0 ≤ z ∧ z ≤ 1)))) (91, [], [], gr_sh ++ ext, gr_h I J) := by
        have f7 := (gr_b_0_126 hI)
        refine gv_run 1 true hD (pc' := 92) (lv' := []) (st' := [.inl 1]) (h' := gr_h I J) (C := (True ∧ True)) rfl ⟨trivial, trivial⟩ ?_
        exact gv_zret hD rfl (by exact gz_m 3 (by omega)) ⟨rfl, ⟨_, rfl, by exact gz_m 4 (by omega)⟩⟩
      refine gv_run 6 true hD (pc' := 15) (lv' := [(0, .inr (.inr (some 0))), (1, .inl a1), (2, .inl a2), (4, .inl v4_2), (5, .inl v5_2)]) (st' := [.inl ((3 * a2) + 3), .inl v5_2]) (h' := gr_h I J) (C := ((((((True ∧ True) ∧ True) ∧ True) ∧ True) ∧ True) ∧ True)) rfl ⟨⟨⟨⟨⟨⟨trivial, trivial⟩, trivial⟩, trivial⟩, trivial⟩, trivial⟩, trivial⟩ ?_
      refine gv_icmp_ge (t := 91) hD rfl rfl ⟨⟨by exact gz_m 5 (by omega), by exact gz_m 6 (by omega)⟩, ⟨by exact gz_m 7 (by omega), by exact gz_m 8 (by omega)⟩⟩ (fun c8 => ?_) (fun c8 => ?_)
      · refine gv_pick [] rfl ?_
        exact L91 
      · have f9 := (show ((-2147483648) ≤ I 30 (Int.toNat v5_2) ∧ I 30 (Int.toNat v5_2) ≤ 2147483647) ∧ ((I 30 (Int.toNat v5_2)) = -2147483648 ∨ (I 30 (Int.toNat v5_2)) = 2147483647 ∨ -16 ≤ (I 30 (Int.toNat v5_2)) ∧ (I 30 (Int.toNat v5_2)) ≤ 32015) from hI 30 (Int.toNat v5_2))
        refine gv_run 4 true hD (pc' := 25) (lv' := [(0, .inr (.inr (some 0))), (1, .inl a1), (2, .inl a2), (4, .inl v4_2), (5, .inl v5_2)]) (st' := [.inl (I 30 (Int.toNat v5_2))]) (h' := gr_h I J) (C := ((((True ∧ True) ∧ True) ∧ True) ∧ (0 ≤ v5_2 ∧ v5_2 < ((576 : Nat) : Int)))) rfl ⟨⟨⟨⟨trivial, trivial⟩, trivial⟩, trivial⟩, ⟨by exact gz_m 9 (by omega), by exact gz_m 10 (by omega)⟩⟩ ?_
        refine gv_run 1 true hD (pc' := 28) (lv' := [(0, .inr (.inr (some 0))), (1, .inl a1), (2, .inl a2), (4, .inl v4_2), (5, .inl v5_2)]) (st' := [.inl 2147483647, .inl (I 30 (Int.toNat v5_2))]) (h' := gr_h I J) (C := (True ∧ True)) rfl ⟨trivial, trivial⟩ ?_
        refine gv_icmp_eq (t := 91) hD rfl rfl ⟨⟨by exact gz_m 11 (by omega), by exact gz_m 12 (by omega)⟩, ⟨by exact gz_m 13 (by omega), by exact gz_m 14 (by omega)⟩⟩ (fun c10 => ?_) (fun c10 => ?_)
        · refine gv_pick [] rfl ?_
          exact L91 
        · have f11 := (show ((-2147483648) ≤ I 30 (Int.toNat v5_2) ∧ I 30 (Int.toNat v5_2) ≤ 2147483647) ∧ ((I 30 (Int.toNat v5_2)) = -2147483648 ∨ (I 30 (Int.toNat v5_2)) = 2147483647 ∨ -16 ≤ (I 30 (Int.toNat v5_2)) ∧ (I 30 (Int.toNat v5_2)) ≤ 32015) from hI 30 (Int.toNat v5_2))
          refine gv_run 4 true hD (pc' := 38) (lv' := [(0, .inr (.inr (some 0))), (1, .inl a1), (2, .inl a2), (4, .inl v4_2), (5, .inl v5_2)]) (st' := [.inl (I 30 (Int.toNat v5_2))]) (h' := gr_h I J) (C := ((((True ∧ True) ∧ True) ∧ True) ∧ (0 ≤ v5_2 ∧ v5_2 < ((576 : Nat) : Int)))) rfl ⟨⟨⟨⟨trivial, trivial⟩, trivial⟩, trivial⟩, ⟨by exact gz_m 15 (by omega), by exact gz_m 16 (by omega)⟩⟩ ?_
          refine gv_run 1 true hD (pc' := 41) (lv' := [(0, .inr (.inr (some 0))), (1, .inl a1), (2, .inl a2), (4, .inl v4_2), (5, .inl v5_2)]) (st' := [.inl (-2147483648), .inl (I 30 (Int.toNat v5_2))]) (h' := gr_h I J) (C := (True ∧ True)) rfl ⟨trivial, trivial⟩ ?_
          refine gv_icmp_ne (t := 55) hD rfl rfl ⟨⟨by exact gz_m 17 (by omega), by exact gz_m 18 (by omega)⟩, ⟨by exact gz_m 19 (by omega), by exact gz_m 20 (by omega)⟩⟩ (fun c12 => ?_) (fun c12 => ?_)
          · have f13 := (show ((-2147483648) ≤ I 30 (Int.toNat v5_2) ∧ I 30 (Int.toNat v5_2) ≤ 2147483647) ∧ ((I 30 (Int.toNat v5_2)) = -2147483648 ∨ (I 30 (Int.toNat v5_2)) = 2147483647 ∨ -16 ≤ (I 30 (Int.toNat v5_2)) ∧ (I 30 (Int.toNat v5_2)) ≤ 32015) from hI 30 (Int.toNat v5_2))
            refine gv_run 6 true hD (pc' := 64) (lv' := [(0, .inr (.inr (some 0))), (1, .inl a1), (2, .inl a2), (4, .inl v4_2), (5, .inl v5_2)]) (st' := [.inl (I 30 (Int.toNat v5_2)), .inl a1, .inr (.inr (some 0))]) (h' := gr_h I J) (C := ((((((True ∧ True) ∧ True) ∧ True) ∧ True) ∧ True) ∧ (0 ≤ v5_2 ∧ v5_2 < ((576 : Nat) : Int)))) rfl ⟨⟨⟨⟨⟨⟨trivial, trivial⟩, trivial⟩, trivial⟩, trivial⟩, trivial⟩, ⟨by exact gz_m 21 (by omega), by exact gz_m 22 (by omega)⟩⟩ ?_
            refine gv_run 1 true hD (pc' := 66) (lv' := [(0, .inr (.inr (some 0))), (1, .inl a1), (2, .inl a2), (4, .inl v4_2), (5, .inl v5_2)]) (st' := [.inl v4_2, .inl (I 30 (Int.toNat v5_2)), .inl a1, .inr (.inr (some 0))]) (h' := gr_h I J) (C := (True ∧ True)) rfl ⟨trivial, trivial⟩ ?_
            obtain ⟨r14, h14, E14, P14⟩ := r_stands (ws0 := ws0) (tb := tb) hws htb ext I J hI a1 ((I 30 (Int.toNat v5_2))) v4_2 ⟨by exact gz_m 23 (by omega), by exact gz_m 24 (by omega)⟩ ⟨by exact gz_m 25 (by omega), by exact gz_m 26 (by omega)⟩ ⟨by exact gz_m 27 (by omega), by exact gz_m 28 (by omega)⟩ 
            obtain ⟨rfl, ⟨z14, rfl, q14⟩⟩ := P14
            refine gv_callV hD rfl (As := [.inl a1, .inl (I 30 (Int.toNat v5_2)), .inl v4_2]) (st := []) rfl (by decide) rfl rfl (gr_lV hws rfl) (Nat.le_of_ble_eq_true rfl) (gz_Ev_mono (d := 2) (by decide) E14) ?_
            show gv_X _ _ (69, [(0, .inr (.inr (some 0))), (1, .inl a1), (2, .inl a2), (4, .inl v4_2), (5, .inl v5_2)], [.inl z14], gr_sh ++ ext, gr_h I J)
            refine gv_run 2 true hD (pc' := 73) (lv' := [(6, .inl z14), (0, .inr (.inr (some 0))), (1, .inl a1), (2, .inl a2), (4, .inl v4_2), (5, .inl v5_2)]) (st' := [.inl z14]) (h' := gr_h I J) (C := ((True ∧ True) ∧ True)) rfl ⟨⟨trivial, trivial⟩, trivial⟩ ?_
            refine gv_if_ge (t := 78) hD rfl rfl ⟨by exact gz_m 29 (by omega), by exact gz_m 30 (by omega)⟩ (fun c15 => ?_) (fun c15 => ?_)
            · refine gv_run 4 true hD (pc' := 85) (lv' := [(4, .inl (v4_2 + z14)), (6, .inl z14), (0, .inr (.inr (some 0))), (1, .inl a1), (2, .inl a2), (5, .inl v5_2)]) (st' := []) (h' := gr_h I J) (C := ((((True ∧ True) ∧ True) ∧ True) ∧ True)) rfl ⟨⟨⟨⟨trivial, trivial⟩, trivial⟩, trivial⟩, trivial⟩ ?_
              refine gv_pick [2, 3, 4, 0, 5] rfl ?_
              exact L85 (v4_2 + z14) (by exact gz_m 31 (by omega))
            · refine gv_run 1 true hD (pc' := 77) (lv' := [(6, .inl z14), (0, .inr (.inr (some 0))), (1, .inl a1), (2, .inl a2), (4, .inl v4_2), (5, .inl v5_2)]) (st' := [.inl 0]) (h' := gr_h I J) (C := (True ∧ True)) rfl ⟨trivial, trivial⟩ ?_
              exact gv_zret hD rfl (by exact gz_m 32 (by omega)) ⟨rfl, ⟨_, rfl, by exact gz_m 33 (by omega)⟩⟩
          · have f16 := (gr_b_0_126 hI)
            refine gv_run 3 true hD (pc' := 50) (lv' := [(0, .inr (.inr (some 0))), (1, .inl a1), (2, .inl a2), (4, .inl v4_2), (5, .inl v5_2)]) (st' := [.inl (I 0 126), .inl v4_2]) (h' := gr_h I J) (C := (((True ∧ True) ∧ True) ∧ True)) rfl ⟨⟨⟨trivial, trivial⟩, trivial⟩, trivial⟩ ?_
            refine gv_icmp_eq (t := 85) hD rfl rfl ⟨⟨by exact gz_m 34 (by omega), by exact gz_m 35 (by omega)⟩, ⟨by exact gz_m 36 (by omega), by exact gz_m 37 (by omega)⟩⟩ (fun c17 => ?_) (fun c17 => ?_)
            · exact L85 v4_2 (by exact gz_m 38 (by omega))
            · refine gv_run 1 true hD (pc' := 54) (lv' := [(0, .inr (.inr (some 0))), (1, .inl a1), (2, .inl a2), (4, .inl v4_2), (5, .inl v5_2)]) (st' := [.inl 0]) (h' := gr_h I J) (C := (True ∧ True)) rfl ⟨trivial, trivial⟩ ?_
              exact gv_zret hD rfl (by exact gz_m 39 (by omega)) ⟨rfl, ⟨_, rfl, by exact gz_m 40 (by omega)⟩⟩
  refine gv_run 6 true hD (pc' := 8) (lv' := [(5, .inl (3 * a2)), (4, .inl a3), (0, .inr (.inr (some 0))), (1, .inl a1), (2, .inl a2), (3, .inl a3)]) (st' := []) (h' := gr_h I J) (C := ((((((True ∧ True) ∧ True) ∧ True) ∧ True) ∧ True) ∧ True)) rfl ⟨⟨⟨⟨⟨⟨trivial, trivial⟩, trivial⟩, trivial⟩, trivial⟩, trivial⟩, trivial⟩ ?_
  refine gv_pick [2, 3, 4, 1, 0] rfl ?_
  exact L8 _ a3 (3 * a2) (Nat.lt_succ_self _) (by exact gz_m 41 (by omega))
set_option maxHeartbeats 8000000 in
set_option maxRecDepth 100000 in
theorem r_left {ws0 : List Cond} {tb : String → gz_T} (hws : ∀ w ∈ gr_ws, w ∈ ws0) (htb : tb RX13 = gr_T) (ext : gz_Sh) (I : gr_I) (J : gr_J) (hI : gr_Inv I) (a1 : Int) (a2 : Int) (a3 : Int) (ha1 : 0 ≤ a1 ∧ a1 ≤ 7) (ha2 : 0 ≤ a2 ∧ a2 ≤ 191) (ha3 : 0 ≤ a3 ∧ a3 ≤ 24)  : ∃ r h', gz_Ev ws0 tb 2 (yX13_left, cX13_left, 9, (some .boolean)) [.inr (.inr (some 0)), .inl a1, .inl a2, .inl a3] (gr_sh ++ ext) (gr_h I J) r (gr_sh ++ ext) h' 0 0 ∧ (h' = gr_h I J ∧ (∃ z : Int, r = some (.inl z) ∧ 0 ≤ z ∧ z ≤ 1)) := by
  have hD : gv_D (gr_E ws0 tb 1 (yX13_left, cX13_left, 9, (some .boolean)) kX13_left) := gq_of oX13_left
  refine gr_ev (d := 1) (l := kX13_left) (Po := fun r h' => (h' = gr_h I J ∧ (∃ z : Int, r = some (.inl z) ∧ 0 ≤ z ∧ z ≤ 1))) htb rfl (Nat.le_of_ble_eq_true rfl) ?_
  have L10 : ∀ (n : Nat) (v4_1 : Int) (v5_1 : Int), (v5_1 - (-2)).toNat < n → ((0 ≤ a1 ∧ a1 ≤ 7) ∧ (0 ≤ a2 ∧ a2 ≤ 191) ∧ (0 ≤ v4_1 ∧ v4_1 ≤ 24) ∧ ((-1) ≤ v5_1 ∧ v5_1 ≤ 575)) → gv_X (gr_E ws0 tb 1 (yX13_left, cX13_left, 9, (some .boolean)) kX13_left) (gv_Q cX13_left (some .boolean) (gr_sh ++ ext) (fun r h' => (h' = gr_h I J ∧ (∃ z : Int, r = some (.inl z) ∧ 0 ≤ z ∧ z ≤ 1)))) (10, [(0, .inr (.inr (some 0))), (1, .inl a1), (2, .inl a2), (4, .inl v4_1), (5, .inl v5_1)], [], gr_sh ++ ext, gr_h I J) := by
    intro n
    induction n with
    | zero => intro v4_1 v5_1 hn; exact gz_m 0 (by omega)
    | succ n ih10 =>
      intro v4_1 v5_1 hn m_1
      obtain ⟨ha1_1, ha2_1, hv4_1, hv5_1⟩ := m_1
      have L159 : ∀ (v4_2 : Int), ((0 ≤ a1 ∧ a1 ≤ 7) ∧ (0 ≤ a2 ∧ a2 ≤ 191) ∧ (0 ≤ v4_2 ∧ v4_2 ≤ 24) ∧ (0 ≤ v5_1 ∧ v5_1 ≤ 575)) → gv_X (gr_E ws0 tb 1 (yX13_left, cX13_left, 9, (some .boolean)) kX13_left) (gv_Q cX13_left (some .boolean) (gr_sh ++ ext) (fun r h' => (h' = gr_h I J ∧ (∃ z : Int, r = some (.inl z) ∧ 0 ≤ z ∧ z ≤ 1)))) (159, [(0, .inr (.inr (some 0))), (1, .inl a1), (2, .inl a2), (4, .inl v4_2), (5, .inl v5_1)], [], gr_sh ++ ext, gr_h I J) := by
        intro v4_2 m_2
        obtain ⟨ha1_2, ha2_2, hv4_2, hv5_1_2⟩ := m_2
        refine gv_run 2 true hD (pc' := 10) (lv' := [(5, .inl (v5_1 + (-1))), (0, .inr (.inr (some 0))), (1, .inl a1), (2, .inl a2), (4, .inl v4_2)]) (st' := []) (h' := gr_h I J) (C := ((True ∧ True) ∧ True)) rfl ⟨⟨trivial, trivial⟩, trivial⟩ ?_
        refine gv_pick [1, 2, 3, 4, 0] rfl ?_
        exact ih10 v4_2 ((v5_1 + (-1))) (by exact gz_m 1 (by omega)) (by exact gz_m 2 (by omega))
      have L82 : gv_X (gr_E ws0 tb 1 (yX13_left, cX13_left, 9, (some .boolean)) kX13_left) (gv_Q cX13_left (some .boolean) (gr_sh ++ ext) (fun r h' => (h' = gr_h I J ∧ (∃ z : Int, r = some (.inl z) ∧ 0 ≤ z ∧ z ≤ 1)))) (82, [], [], gr_sh ++ ext, gr_h I J) := by
        refine gv_run 1 true hD (pc' := 83) (lv' := []) (st' := [.inl 0]) (h' := gr_h I J) (C := (True ∧ True)) rfl ⟨trivial, trivial⟩ ?_
        exact gv_zret hD rfl (by exact gz_m 3 (by omega)) ⟨rfl, ⟨_, rfl, by exact gz_m 4 (by omega)⟩⟩
      have L109 : ∀ (n : Nat) (v6_4 : Int) (v7_4 : Int) (v8_4 : Int), (16 - v8_4).toNat < n → ((0 ≤ a1 ∧ a1 ≤ 7) ∧ (0 ≤ a2 ∧ a2 ≤ 191) ∧ (0 ≤ v4_1 ∧ v4_1 ≤ 24) ∧ (0 ≤ v5_1 ∧ v5_1 ≤ 575) ∧ (0 ≤ v6_4 ∧ v6_4 ≤ 32015) ∧ (0 ≤ v7_4 ∧ v7_4 ≤ 15) ∧ (0 ≤ v8_4 ∧ v8_4 ≤ 15) ∧ (v7_4 ≤ v4_1)) → gv_X (gr_E ws0 tb 1 (yX13_left, cX13_left, 9, (some .boolean)) kX13_left) (gv_Q cX13_left (some .boolean) (gr_sh ++ ext) (fun r h' => (h' = gr_h I J ∧ (∃ z : Int, r = some (.inl z) ∧ 0 ≤ z ∧ z ≤ 1)))) (109, [(0, .inr (.inr (some 0))), (1, .inl a1), (2, .inl a2), (4, .inl v4_1), (5, .inl v5_1), (6, .inl v6_4), (7, .inl v7_4), (8, .inl v8_4)], [], gr_sh ++ ext, gr_h I J) := by
        intro n
        induction n with
        | zero => intro v6_4 v7_4 v8_4 hn; exact gz_m 5 (by omega)
        | succ n ih109 =>
          intro v6_4 v7_4 v8_4 hn m_4
          obtain ⟨ha1_4, ha2_4, hv4_1_4, hv5_1_4, hv6_4, hv7_4, hv8_4, e0_4⟩ := m_4
          refine gv_run 2 true hD (pc' := 113) (lv' := [(0, .inr (.inr (some 0))), (1, .inl a1), (2, .inl a2), (4, .inl v4_1), (5, .inl v5_1), (6, .inl v6_4), (7, .inl v7_4), (8, .inl v8_4)]) (st' := [.inl v7_4, .inl v8_4]) (h' := gr_h I J) (C := ((True ∧ True) ∧ True)) rfl ⟨⟨trivial, trivial⟩, trivial⟩ ?_
          refine gv_icmp_ge (t := 152) hD rfl rfl ⟨⟨by exact gz_m 6 (by omega), by exact gz_m 7 (by omega)⟩, ⟨by exact gz_m 8 (by omega), by exact gz_m 9 (by omega)⟩⟩ (fun c5 => ?_) (fun c5 => ?_)
          · refine gv_run 4 true hD (pc' := 159) (lv' := [(4, .inl (v4_1 - v7_4)), (0, .inr (.inr (some 0))), (1, .inl a1), (2, .inl a2), (5, .inl v5_1), (6, .inl v6_4), (7, .inl v7_4), (8, .inl v8_4)]) (st' := []) (h' := gr_h I J) (C := ((((True ∧ True) ∧ True) ∧ True) ∧ True)) rfl ⟨⟨⟨⟨trivial, trivial⟩, trivial⟩, trivial⟩, trivial⟩ ?_
            refine gv_pick [1, 2, 3, 0, 4] rfl ?_
            exact L159 (v4_1 - v7_4) (by exact gz_m 10 (by omega))
          · refine gv_run 7 true hD (pc' := 128) (lv' := [(0, .inr (.inr (some 0))), (1, .inl a1), (2, .inl a2), (4, .inl v4_1), (5, .inl v5_1), (6, .inl v6_4), (7, .inl v7_4), (8, .inl v8_4)]) (st' := [.inl ((v4_1 - v7_4) + v8_4), .inr (.inr (some 77))]) (h' := gr_h I J) (C := (((((((True ∧ True) ∧ True) ∧ True) ∧ True) ∧ True) ∧ True) ∧ True)) rfl ⟨⟨⟨⟨⟨⟨⟨trivial, trivial⟩, trivial⟩, trivial⟩, trivial⟩, trivial⟩, trivial⟩, trivial⟩ ?_
            have f6 := (gr_b_77 hI (Int.toNat (((v4_1 - v7_4) + v8_4))))
            refine gv_run 1 true hD (pc' := 129) (lv' := [(0, .inr (.inr (some 0))), (1, .inl a1), (2, .inl a2), (4, .inl v4_1), (5, .inl v5_1), (6, .inl v6_4), (7, .inl v7_4), (8, .inl v8_4)]) (st' := [.inl (I 77 (Int.toNat (((v4_1 - v7_4) + v8_4))))]) (h' := gr_h I J) (C := (True ∧ (0 ≤ (((v4_1 - v7_4) + v8_4)) ∧ (((v4_1 - v7_4) + v8_4)) < ((64 : Nat) : Int)))) rfl ⟨trivial, ⟨by exact gz_m 11 (by omega), by exact gz_m 12 (by omega)⟩⟩ ?_
            have f7 := gw_shr (x := v6_4) (y := 4) ⟨by exact gz_m 13 (by omega), by exact gz_m 14 (by omega)⟩
            refine gv_run 7 true hD (pc' := 140) (lv' := [(0, .inr (.inr (some 0))), (1, .inl a1), (2, .inl a2), (4, .inl v4_1), (5, .inl v5_1), (6, .inl v6_4), (7, .inl v7_4), (8, .inl v8_4)]) (st' := [.inl (((Int32.ofInt v6_4 >>> (Int32.ofInt 4 &&& 31)).toInt) + v8_4), .inr (.inr (some 51)), .inl (I 77 (Int.toNat (((v4_1 - v7_4) + v8_4))))]) (h' := gr_h I J) (C := (((((((True ∧ True) ∧ True) ∧ True) ∧ True) ∧ True) ∧ True) ∧ True)) rfl ⟨⟨⟨⟨⟨⟨⟨trivial, trivial⟩, trivial⟩, trivial⟩, trivial⟩, trivial⟩, trivial⟩, trivial⟩ ?_
            have f8 := (gr_b_51 hI (Int.toNat ((((Int32.ofInt v6_4 >>> (Int32.ofInt 4 &&& 31)).toInt) + v8_4))))
            refine gv_run 1 true hD (pc' := 141) (lv' := [(0, .inr (.inr (some 0))), (1, .inl a1), (2, .inl a2), (4, .inl v4_1), (5, .inl v5_1), (6, .inl v6_4), (7, .inl v7_4), (8, .inl v8_4)]) (st' := [.inl (I 51 (Int.toNat ((((Int32.ofInt v6_4 >>> (Int32.ofInt 4 &&& 31)).toInt) + v8_4)))), .inl (I 77 (Int.toNat (((v4_1 - v7_4) + v8_4))))]) (h' := gr_h I J) (C := (True ∧ (0 ≤ ((((Int32.ofInt v6_4 >>> (Int32.ofInt 4 &&& 31)).toInt) + v8_4)) ∧ ((((Int32.ofInt v6_4 >>> (Int32.ofInt 4 &&& 31)).toInt) + v8_4)) < ((82000 : Nat) : Int)))) rfl ⟨trivial, ⟨by exact gz_m 15 (by omega), by exact gz_m 16 (by omega)⟩⟩ ?_
            refine gv_icmp_eq (t := 146) hD rfl rfl ⟨⟨by exact gz_m 17 (by omega), by exact gz_m 18 (by omega)⟩, ⟨by exact gz_m 19 (by omega), by exact gz_m 20 (by omega)⟩⟩ (fun c9 => ?_) (fun c9 => ?_)
            · refine gv_run 2 true hD (pc' := 109) (lv' := [(8, .inl (v8_4 + 1)), (0, .inr (.inr (some 0))), (1, .inl a1), (2, .inl a2), (4, .inl v4_1), (5, .inl v5_1), (6, .inl v6_4), (7, .inl v7_4)]) (st' := []) (h' := gr_h I J) (C := ((True ∧ True) ∧ True)) rfl ⟨⟨trivial, trivial⟩, trivial⟩ ?_
              refine gv_pick [1, 2, 3, 4, 5, 6, 7, 0] rfl ?_
              exact ih109 v6_4 v7_4 (v8_4 + 1) (by exact gz_m 21 (by omega)) (by exact gz_m 22 (by omega))
            · refine gv_run 1 true hD (pc' := 145) (lv' := [(0, .inr (.inr (some 0))), (1, .inl a1), (2, .inl a2), (4, .inl v4_1), (5, .inl v5_1), (6, .inl v6_4), (7, .inl v7_4), (8, .inl v8_4)]) (st' := [.inl 0]) (h' := gr_h I J) (C := (True ∧ True)) rfl ⟨trivial, trivial⟩ ?_
              exact gv_zret hD rfl (by exact gz_m 23 (by omega)) ⟨rfl, ⟨_, rfl, by exact gz_m 24 (by omega)⟩⟩
      refine gv_run 4 true hD (pc' := 15) (lv' := [(0, .inr (.inr (some 0))), (1, .inl a1), (2, .inl a2), (4, .inl v4_1), (5, .inl v5_1)]) (st' := [.inl (3 * a2), .inl v5_1]) (h' := gr_h I J) (C := ((((True ∧ True) ∧ True) ∧ True) ∧ True)) rfl ⟨⟨⟨⟨trivial, trivial⟩, trivial⟩, trivial⟩, trivial⟩ ?_
      refine gv_icmp_lt (t := 165) hD rfl rfl ⟨⟨by exact gz_m 25 (by omega), by exact gz_m 26 (by omega)⟩, ⟨by exact gz_m 27 (by omega), by exact gz_m 28 (by omega)⟩⟩ (fun c10 => ?_) (fun c10 => ?_)
      · refine gv_run 1 true hD (pc' := 166) (lv' := [(0, .inr (.inr (some 0))), (1, .inl a1), (2, .inl a2), (4, .inl v4_1), (5, .inl v5_1)]) (st' := [.inl 1]) (h' := gr_h I J) (C := (True ∧ True)) rfl ⟨trivial, trivial⟩ ?_
        exact gv_zret hD rfl (by exact gz_m 29 (by omega)) ⟨rfl, ⟨_, rfl, by exact gz_m 30 (by omega)⟩⟩
      · have f11 := (show ((-2147483648) ≤ I 29 (Int.toNat v5_1) ∧ I 29 (Int.toNat v5_1) ≤ 2147483647) ∧ ((I 29 (Int.toNat v5_1)) = -2147483648 ∨ (I 29 (Int.toNat v5_1)) = 2147483647 ∨ -16 ≤ (I 29 (Int.toNat v5_1)) ∧ (I 29 (Int.toNat v5_1)) ≤ 32015) from hI 29 (Int.toNat v5_1))
        refine gv_run 4 true hD (pc' := 25) (lv' := [(0, .inr (.inr (some 0))), (1, .inl a1), (2, .inl a2), (4, .inl v4_1), (5, .inl v5_1)]) (st' := [.inl (I 29 (Int.toNat v5_1))]) (h' := gr_h I J) (C := ((((True ∧ True) ∧ True) ∧ True) ∧ (0 ≤ v5_1 ∧ v5_1 < ((576 : Nat) : Int)))) rfl ⟨⟨⟨⟨trivial, trivial⟩, trivial⟩, trivial⟩, ⟨by exact gz_m 31 (by omega), by exact gz_m 32 (by omega)⟩⟩ ?_
        refine gv_run 3 true hD (pc' := 32) (lv' := [(6, .inl (I 29 (Int.toNat v5_1))), (0, .inr (.inr (some 0))), (1, .inl a1), (2, .inl a2), (4, .inl v4_1), (5, .inl v5_1)]) (st' := [.inl 2147483647, .inl (I 29 (Int.toNat v5_1))]) (h' := gr_h I J) (C := (((True ∧ True) ∧ True) ∧ True)) rfl ⟨⟨⟨trivial, trivial⟩, trivial⟩, trivial⟩ ?_
        refine gv_icmp_ne (t := 38) hD rfl rfl ⟨⟨by exact gz_m 33 (by omega), by exact gz_m 34 (by omega)⟩, ⟨by exact gz_m 35 (by omega), by exact gz_m 36 (by omega)⟩⟩ (fun c12 => ?_) (fun c12 => ?_)
        · refine gv_run 2 true hD (pc' := 43) (lv' := [(6, .inl (I 29 (Int.toNat v5_1))), (0, .inr (.inr (some 0))), (1, .inl a1), (2, .inl a2), (4, .inl v4_1), (5, .inl v5_1)]) (st' := [.inl (-2147483648), .inl (I 29 (Int.toNat v5_1))]) (h' := gr_h I J) (C := ((True ∧ True) ∧ True)) rfl ⟨⟨trivial, trivial⟩, trivial⟩ ?_
          refine gv_icmp_ne (t := 53) hD rfl rfl ⟨⟨by exact gz_m 37 (by omega), by exact gz_m 38 (by omega)⟩, ⟨by exact gz_m 39 (by omega), by exact gz_m 40 (by omega)⟩⟩ (fun c13 => ?_) (fun c13 => ?_)
          · refine gv_run 1 true hD (pc' := 55) (lv' := [(6, .inl (I 29 (Int.toNat v5_1))), (0, .inr (.inr (some 0))), (1, .inl a1), (2, .inl a2), (4, .inl v4_1), (5, .inl v5_1)]) (st' := [.inl (I 29 (Int.toNat v5_1))]) (h' := gr_h I J) (C := (True ∧ True)) rfl ⟨trivial, trivial⟩ ?_
            refine gv_if_ge (t := 90) hD rfl rfl ⟨by exact gz_m 41 (by omega), by exact gz_m 42 (by omega)⟩ (fun c14 => ?_) (fun c14 => ?_)
            · have f15 := gw_and (x := ((I 29 (Int.toNat v5_1)))) (y := 15) ⟨by exact gz_m 43 (by omega), by exact gz_m 44 (by omega)⟩
              refine gv_run 6 true hD (pc' := 101) (lv' := [(7, .inl ((Int32.ofInt ((I 29 (Int.toNat v5_1))) &&& Int32.ofInt 15).toInt)), (6, .inl (I 29 (Int.toNat v5_1))), (0, .inr (.inr (some 0))), (1, .inl a1), (2, .inl a2), (4, .inl v4_1), (5, .inl v5_1)]) (st' := [.inl ((Int32.ofInt ((I 29 (Int.toNat v5_1))) &&& Int32.ofInt 15).toInt), .inl v4_1]) (h' := gr_h I J) (C := ((((((True ∧ True) ∧ True) ∧ True) ∧ True) ∧ True) ∧ True)) rfl ⟨⟨⟨⟨⟨⟨trivial, trivial⟩, trivial⟩, trivial⟩, trivial⟩, trivial⟩, trivial⟩ ?_
              refine gv_icmp_ge (t := 106) hD rfl rfl ⟨⟨by exact gz_m 45 (by omega), by exact gz_m 46 (by omega)⟩, ⟨by exact gz_m 47 (by omega), by exact gz_m 48 (by omega)⟩⟩ (fun c16 => ?_) (fun c16 => ?_)
              · refine gv_run 2 true hD (pc' := 109) (lv' := [(8, .inl 0), (7, .inl ((Int32.ofInt ((I 29 (Int.toNat v5_1))) &&& Int32.ofInt 15).toInt)), (6, .inl (I 29 (Int.toNat v5_1))), (0, .inr (.inr (some 0))), (1, .inl a1), (2, .inl a2), (4, .inl v4_1), (5, .inl v5_1)]) (st' := []) (h' := gr_h I J) (C := ((True ∧ True) ∧ True)) rfl ⟨⟨trivial, trivial⟩, trivial⟩ ?_
                refine gv_pick [3, 4, 5, 6, 7, 2, 1, 0] rfl ?_
                exact L109 _ ((I 29 (Int.toNat v5_1))) (((Int32.ofInt ((I 29 (Int.toNat v5_1))) &&& Int32.ofInt 15).toInt)) 0 (Nat.lt_succ_self _) (by exact gz_m 49 (by omega))
              · refine gv_run 1 true hD (pc' := 105) (lv' := [(7, .inl ((Int32.ofInt ((I 29 (Int.toNat v5_1))) &&& Int32.ofInt 15).toInt)), (6, .inl (I 29 (Int.toNat v5_1))), (0, .inr (.inr (some 0))), (1, .inl a1), (2, .inl a2), (4, .inl v4_1), (5, .inl v5_1)]) (st' := [.inl 0]) (h' := gr_h I J) (C := (True ∧ True)) rfl ⟨trivial, trivial⟩ ?_
                exact gv_zret hD rfl (by exact gz_m 50 (by omega)) ⟨rfl, ⟨_, rfl, by exact gz_m 51 (by omega)⟩⟩
            · refine gv_run 1 true hD (pc' := 60) (lv' := [(6, .inl (I 29 (Int.toNat v5_1))), (0, .inr (.inr (some 0))), (1, .inl a1), (2, .inl a2), (4, .inl v4_1), (5, .inl v5_1)]) (st' := [.inl v4_1]) (h' := gr_h I J) (C := (True ∧ True)) rfl ⟨trivial, trivial⟩ ?_
              refine gv_if_eq (t := 82) hD rfl rfl ⟨by exact gz_m 52 (by omega), by exact gz_m 53 (by omega)⟩ (fun c17 => ?_) (fun c17 => ?_)
              · refine gv_pick [] rfl ?_
                exact L82 
              · refine gv_run 7 true hD (pc' := 74) (lv' := [(6, .inl (I 29 (Int.toNat v5_1))), (0, .inr (.inr (some 0))), (1, .inl a1), (2, .inl a2), (4, .inl v4_1), (5, .inl v5_1)]) (st' := [.inl 1, .inl v4_1, .inr (.inr (some 77)), .inl (I 29 (Int.toNat v5_1)), .inl a1, .inr (.inr (some 0))]) (h' := gr_h I J) (C := (((((((True ∧ True) ∧ True) ∧ True) ∧ True) ∧ True) ∧ True) ∧ True)) rfl ⟨⟨⟨⟨⟨⟨⟨trivial, trivial⟩, trivial⟩, trivial⟩, trivial⟩, trivial⟩, trivial⟩, trivial⟩ ?_
                have f18 := (gr_b_77 hI (Int.toNat ((v4_1 - 1))))
                refine gv_run 2 true hD (pc' := 76) (lv' := [(6, .inl (I 29 (Int.toNat v5_1))), (0, .inr (.inr (some 0))), (1, .inl a1), (2, .inl a2), (4, .inl v4_1), (5, .inl v5_1)]) (st' := [.inl (I 77 (Int.toNat ((v4_1 - 1)))), .inl (I 29 (Int.toNat v5_1)), .inl a1, .inr (.inr (some 0))]) (h' := gr_h I J) (C := ((True ∧ True) ∧ (0 ≤ (v4_1 - 1) ∧ (v4_1 - 1) < ((64 : Nat) : Int)))) rfl ⟨⟨trivial, trivial⟩, ⟨by exact gz_m 54 (by omega), by exact gz_m 55 (by omega)⟩⟩ ?_
                obtain ⟨r19, h19, E19, P19⟩ := r_isIn (ws0 := ws0) (tb := tb) hws htb ext I J hI a1 ((I 29 (Int.toNat v5_1))) ((I 77 (Int.toNat ((v4_1 - 1))))) ⟨by exact gz_m 56 (by omega), by exact gz_m 57 (by omega)⟩ ⟨by exact gz_m 58 (by omega), by exact gz_m 59 (by omega)⟩ ⟨by exact gz_m 60 (by omega), by exact gz_m 61 (by omega)⟩ 
                obtain ⟨rfl, ⟨z19, rfl, q19⟩⟩ := P19
                refine gv_callV hD rfl (As := [.inl a1, .inl (I 29 (Int.toNat v5_1)), .inl (I 77 (Int.toNat ((v4_1 - 1))))]) (st := []) rfl (by decide) rfl rfl (gr_lV hws rfl) (Nat.le_of_ble_eq_true rfl) (gz_Ev_mono (d := 1) (by decide) E19) ?_
                show gv_X _ _ (79, [(6, .inl (I 29 (Int.toNat v5_1))), (0, .inr (.inr (some 0))), (1, .inl a1), (2, .inl a2), (4, .inl v4_1), (5, .inl v5_1)], [.inl z19], gr_sh ++ ext, gr_h I J)
                refine gv_if_ne (t := 84) hD rfl rfl ⟨by exact gz_m 62 (by omega), by exact gz_m 63 (by omega)⟩ (fun c20 => ?_) (fun c20 => ?_)
                · refine gv_run 2 true hD (pc' := 159) (lv' := [(4, .inl (v4_1 + (-1))), (6, .inl (I 29 (Int.toNat v5_1))), (0, .inr (.inr (some 0))), (1, .inl a1), (2, .inl a2), (5, .inl v5_1)]) (st' := []) (h' := gr_h I J) (C := ((True ∧ True) ∧ True)) rfl ⟨⟨trivial, trivial⟩, trivial⟩ ?_
                  refine gv_pick [2, 3, 4, 0, 5] rfl ?_
                  exact L159 ((v4_1 + (-1))) (by exact gz_m 64 (by omega))
                · refine gv_pick [] rfl ?_
                  exact L82 
          · refine gv_run 1 true hD (pc' := 48) (lv' := [(6, .inl (I 29 (Int.toNat v5_1))), (0, .inr (.inr (some 0))), (1, .inl a1), (2, .inl a2), (4, .inl v4_1), (5, .inl v5_1)]) (st' := [.inl v4_1]) (h' := gr_h I J) (C := (True ∧ True)) rfl ⟨trivial, trivial⟩ ?_
            refine gv_if_eq (t := 159) hD rfl rfl ⟨by exact gz_m 65 (by omega), by exact gz_m 66 (by omega)⟩ (fun c21 => ?_) (fun c21 => ?_)
            · refine gv_pick [1, 2, 3, 4, 5] rfl ?_
              exact L159 v4_1 (by exact gz_m 67 (by omega))
            · refine gv_run 1 true hD (pc' := 52) (lv' := [(6, .inl (I 29 (Int.toNat v5_1))), (0, .inr (.inr (some 0))), (1, .inl a1), (2, .inl a2), (4, .inl v4_1), (5, .inl v5_1)]) (st' := [.inl 0]) (h' := gr_h I J) (C := (True ∧ True)) rfl ⟨trivial, trivial⟩ ?_
              exact gv_zret hD rfl (by exact gz_m 68 (by omega)) ⟨rfl, ⟨_, rfl, by exact gz_m 69 (by omega)⟩⟩
        · refine gv_run 1 true hD (pc' := 159) (lv' := [(6, .inl (I 29 (Int.toNat v5_1))), (0, .inr (.inr (some 0))), (1, .inl a1), (2, .inl a2), (4, .inl v4_1), (5, .inl v5_1)]) (st' := []) (h' := gr_h I J) (C := (True ∧ True)) rfl ⟨trivial, trivial⟩ ?_
          refine gv_pick [1, 2, 3, 4, 5] rfl ?_
          exact L159 v4_1 (by exact gz_m 70 (by omega))
  refine gv_run 7 true hD (pc' := 8) (lv' := [(4, .inl a3), (0, .inr (.inr (some 0))), (1, .inl a1), (2, .inl a2), (3, .inl a3)]) (st' := [.inl ((3 * a2) + 2)]) (h' := gr_h I J) (C := (((((((True ∧ True) ∧ True) ∧ True) ∧ True) ∧ True) ∧ True) ∧ True)) rfl ⟨⟨⟨⟨⟨⟨⟨trivial, trivial⟩, trivial⟩, trivial⟩, trivial⟩, trivial⟩, trivial⟩, trivial⟩ ?_
  refine gv_run 1 true hD (pc' := 10) (lv' := [(5, .inl ((3 * a2) + 2)), (4, .inl a3), (0, .inr (.inr (some 0))), (1, .inl a1), (2, .inl a2), (3, .inl a3)]) (st' := []) (h' := gr_h I J) (C := (True ∧ True)) rfl ⟨trivial, trivial⟩ ?_
  refine gv_pick [2, 3, 4, 1, 0] rfl ?_
  exact L10 _ a3 (((3 * a2) + 2)) (Nat.lt_succ_self _) (by exact gz_m 71 (by omega))
set_option maxHeartbeats 8000000 in
set_option maxRecDepth 100000 in
theorem r_sounded {ws0 : List Cond} {tb : String → gz_T} (hws : ∀ w ∈ gr_ws, w ∈ ws0) (htb : tb RX13 = gr_T) (ext : gz_Sh) (I : gr_I) (J : gr_J) (hI : gr_Inv I) (a1 : Int) (ha1 : 0 ≤ a1 ∧ a1 ≤ 7)  : ∃ r h', gz_Ev ws0 tb 4 (yX13_sounded, cX13_sounded, 8, (some .int)) [.inr (.inr (some 0)), .inl a1] (gr_sh ++ ext) (gr_h I J) r (gr_sh ++ ext) h' 0 0 ∧ (∃ (I' : gr_I) (J' : gr_J), h' = gr_h I' J' ∧ gr_Inv I' ∧ gr_fr [126] [76, 77] I I' ∧ gr_fj [126] [76, 77] J J' ∧ (∃ z : Int, r = some (.inl z) ∧ (-1) ≤ z ∧ z ≤ 24)) := by
  have FI : gr_fr [126] [76, 77] I I := fun _ _ _ => rfl
  have FJ : gr_fj [126] [76, 77] J J := fun _ _ _ => rfl
  have hD : gv_D (gr_E ws0 tb 3 (yX13_sounded, cX13_sounded, 8, (some .int)) kX13_sounded) := gq_of oX13_sounded
  refine gr_ev (d := 3) (l := kX13_sounded) (Po := fun r h' => (∃ (I' : gr_I) (J' : gr_J), h' = gr_h I' J' ∧ gr_Inv I' ∧ gr_fr [126] [76, 77] I I' ∧ gr_fj [126] [76, 77] J J' ∧ (∃ z : Int, r = some (.inl z) ∧ (-1) ≤ z ∧ z ≤ 24))) htb rfl (Nat.le_of_ble_eq_true rfl) ?_
  have f1 := gz_hi ((gr_b_0_126 hI))
  have L16 : ∀ (n : Nat) (I2 : gr_I) (J3 : gr_J) (v2_4 : Int), (193 - v2_4).toNat < n → gr_Inv I2 → gr_fr [126] [76, 77] I I2 → gr_fj [126] [76, 77] J J3 → ((0 ≤ a1 ∧ a1 ≤ 7) ∧ (0 ≤ v2_4 ∧ v2_4 ≤ 192)) → gv_X (gr_E ws0 tb 3 (yX13_sounded, cX13_sounded, 8, (some .int)) kX13_sounded) (gv_Q cX13_sounded (some .int) (gr_sh ++ ext) (fun r h' => (∃ (I' : gr_I) (J' : gr_J), h' = gr_h I' J' ∧ gr_Inv I' ∧ gr_fr [126] [76, 77] I I' ∧ gr_fj [126] [76, 77] J J' ∧ (∃ z : Int, r = some (.inl z) ∧ (-1) ≤ z ∧ z ≤ 24)))) (16, [(0, .inr (.inr (some 0))), (1, .inl a1), (2, .inl v2_4)], [], gr_sh ++ ext, gr_h I2 J3) := by
    intro n
    induction n with
    | zero => intro I2 J3 v2_4 hn; omega
    | succ n ih16 =>
      intro I2 J3 v2_4 hn hI2 FI2 FJ3 m_4
      obtain ⟨ha1_4, hv2_4⟩ := gz_h2 m_4
      have f5 := gz_hi ((gr_b_0_126 hI2))
      have L36 : ∀ (n : Nat) (I6 : gr_I) (J7 : gr_J) (v3_8 : Int) (v4_8 : Int), (25 - v4_8).toNat < n → gr_Inv I6 → gr_fr [126] [76, 77] I I6 → gr_fj [126] [76, 77] J J7 → ((0 ≤ a1 ∧ a1 ≤ 7) ∧ (0 ≤ v2_4 ∧ v2_4 ≤ 191) ∧ (0 ≤ v3_8 ∧ v3_8 ≤ 24) ∧ (0 ≤ v4_8 ∧ v4_8 ≤ 24)) → gv_X (gr_E ws0 tb 3 (yX13_sounded, cX13_sounded, 8, (some .int)) kX13_sounded) (gv_Q cX13_sounded (some .int) (gr_sh ++ ext) (fun r h' => (∃ (I' : gr_I) (J' : gr_J), h' = gr_h I' J' ∧ gr_Inv I' ∧ gr_fr [126] [76, 77] I I' ∧ gr_fj [126] [76, 77] J J' ∧ (∃ z : Int, r = some (.inl z) ∧ (-1) ≤ z ∧ z ≤ 24)))) (36, [(0, .inr (.inr (some 0))), (1, .inl a1), (2, .inl v2_4), (3, .inl v3_8), (4, .inl v4_8)], [], gr_sh ++ ext, gr_h I6 J7) := by
        intro n
        induction n with
        | zero => intro I6 J7 v3_8 v4_8 hn; omega
        | succ n ih36 =>
          intro I6 J7 v3_8 v4_8 hn hI6 FI6 FJ7 m_8
          clear ha1_4 hv2_4 f5
          obtain ⟨ha1_8, hv2_4_8, hv3_8, hv4_8⟩ := gz_h4 m_8
          have f9 := gz_hi ((gr_b_0_126 hI6))
          have L182 : ∀ (I10 : gr_I) (J11 : gr_J) (v3_12 : Int) (v4_12 : Int), gr_Inv I10 → gr_fr [126] [76, 77] I I10 → gr_fj [126] [76, 77] J J11 → ((0 ≤ a1 ∧ a1 ≤ 7) ∧ (0 ≤ v2_4 ∧ v2_4 ≤ 191) ∧ (0 ≤ v3_12 ∧ v3_12 ≤ 24) ∧ (1 ≤ v4_12 ∧ v4_12 ≤ 24) ∧ (v4_8 < v4_12)) → gv_X (gr_E ws0 tb 3 (yX13_sounded, cX13_sounded, 8, (some .int)) kX13_sounded) (gv_Q cX13_sounded (some .int) (gr_sh ++ ext) (fun r h' => (∃ (I' : gr_I) (J' : gr_J), h' = gr_h I' J' ∧ gr_Inv I' ∧ gr_fr [126] [76, 77] I I' ∧ gr_fj [126] [76, 77] J J' ∧ (∃ z : Int, r = some (.inl z) ∧ (-1) ≤ z ∧ z ≤ 24)))) (182, [(0, .inr (.inr (some 0))), (1, .inl a1), (2, .inl v2_4), (3, .inl v3_12), (4, .inl v4_12)], [], gr_sh ++ ext, gr_h I10 J11) := by
            intro I10 J11 v3_12 v4_12 hI10 FI10 FJ11 m_12
            clear ha1_8 hv2_4_8 hv3_8 hv4_8 f9
            obtain ⟨ha1_12, hv2_4_12, hv3_12, hv4_12, e0_12⟩ := gz_h5 m_12
            refine gv_run 1 true hD (pc' := 36) (lv' := [(0, .inr (.inr (some 0))), (1, .inl a1), (2, .inl v2_4), (3, .inl v3_12), (4, .inl v4_12)]) (st' := []) (h' := gr_h I10 J11) (C := (True ∧ True)) rfl ⟨trivial, trivial⟩ ?_
            exact ih36 I10 J11 v3_12 v4_12 (by (have o1 := gz_sh e0_12; have o2 := gz_sh hv4_12; omega)) hI10 FI10 FJ11 (by (and_intros; (omega); (omega); (have o1 := gz_sh hv2_4_12; omega); (have o1 := gz_sh hv2_4_12; omega); (have o1 := gz_sh hv3_12; omega); (have o1 := gz_sh hv3_12; omega); (have o1 := gz_sh hv4_12; omega); (have o1 := gz_sh hv4_12; omega)))
          have L100 : ∀ (n : Nat) (I14 : gr_I) (J15 : gr_J) (v3_16 : Int) (v5_16 : Int) (v6_16 : Int) (v7_16 : Int), (25 - v3_16).toNat < n → gr_Inv I14 → gr_fr [126] [76, 77] I I14 → gr_fj [126] [76, 77] J J15 → ((0 ≤ a1 ∧ a1 ≤ 7) ∧ (0 ≤ v2_4 ∧ v2_4 ≤ 191) ∧ (0 ≤ v3_16 ∧ v3_16 ≤ 24) ∧ (0 ≤ v4_8 ∧ v4_8 ≤ 23) ∧ (1 ≤ v5_16 ∧ v5_16 ≤ 15) ∧ (0 ≤ v6_16 ∧ v6_16 ≤ 32015) ∧ (0 ≤ v7_16 ∧ v7_16 ≤ 15) ∧ (v4_8 + v5_16 ≤ 24)) → gv_X (gr_E ws0 tb 3 (yX13_sounded, cX13_sounded, 8, (some .int)) kX13_sounded) (gv_Q cX13_sounded (some .int) (gr_sh ++ ext) (fun r h' => (∃ (I' : gr_I) (J' : gr_J), h' = gr_h I' J' ∧ gr_Inv I' ∧ gr_fr [126] [76, 77] I I' ∧ gr_fj [126] [76, 77] J J' ∧ (∃ z : Int, r = some (.inl z) ∧ (-1) ≤ z ∧ z ≤ 24)))) (100, [(0, .inr (.inr (some 0))), (1, .inl a1), (2, .inl v2_4), (3, .inl v3_16), (4, .inl v4_8), (5, .inl v5_16), (6, .inl v6_16), (7, .inl v7_16)], [], gr_sh ++ ext, gr_h I14 J15) := by
            intro n
            induction n with
            | zero => intro I14 J15 v3_16 v5_16 v6_16 v7_16 hn; omega
            | succ n ih100 =>
              intro I14 J15 v3_16 v5_16 v6_16 v7_16 hn hI14 FI14 FJ15 m_16
              clear ha1_8 hv2_4_8 hv3_8 hv4_8 f9
              obtain ⟨ha1_16, hv2_4_16, hv3_16, hv4_8_16, hv5_16, hv6_16, hv7_16, e0_16⟩ := gz_h8 m_16
              have f18 := gz_hi (gw_and (x := v6_16) (y := 15) ⟨by omega, by omega⟩)
              refine gv_run 4 true hD (pc' := 107) (lv' := [(0, .inr (.inr (some 0))), (1, .inl a1), (2, .inl v2_4), (3, .inl v3_16), (4, .inl v4_8), (5, .inl v5_16), (6, .inl v6_16), (7, .inl v7_16)]) (st' := [.inl ((Int32.ofInt v6_16 &&& Int32.ofInt 15).toInt), .inl v7_16]) (h' := gr_h I14 J15) (C := ((((True ∧ True) ∧ True) ∧ True) ∧ True)) rfl ⟨⟨⟨⟨trivial, trivial⟩, trivial⟩, trivial⟩, trivial⟩ ?_
              refine gv_icmp_ge (t := 145) hD rfl rfl ⟨⟨by (have o1 := gz_sh hv7_16; omega), by (have o1 := gz_sh hv7_16; omega)⟩, ⟨by (have o1 := gz_sh f18; omega), by (have o1 := gz_sh f18; omega)⟩⟩ (fun c19 => ?_) (fun c19 => ?_)
              · refine gv_run 5 true hD (pc' := 182) (lv' := [(4, .inl (v4_8 + v5_16)), (0, .inr (.inr (some 0))), (1, .inl a1), (2, .inl v2_4), (3, .inl v3_16), (5, .inl v5_16), (6, .inl v6_16), (7, .inl v7_16)]) (st' := []) (h' := gr_h I14 J15) (C := (((((True ∧ True) ∧ True) ∧ True) ∧ True) ∧ True)) rfl ⟨⟨⟨⟨⟨trivial, trivial⟩, trivial⟩, trivial⟩, trivial⟩, trivial⟩ ?_
                refine gv_pick [1, 2, 3, 4, 0] rfl ?_
                exact L182 I14 J15 v3_16 (v4_8 + v5_16) hI14 FI14 FJ15 (by (and_intros; (omega); (omega); (have o1 := gz_sh hv2_4_16; omega); (have o1 := gz_sh hv2_4_16; omega); (have o1 := gz_sh hv3_16; omega); (have o1 := gz_sh hv3_16; omega); (have o1 := gz_sh hv4_8_16; have o2 := gz_sh hv5_16; omega); (have o1 := gz_sh e0_16; omega); (have o1 := gz_sh hv5_16; omega)))
              · refine gv_run 2 true hD (pc' := 113) (lv' := [(0, .inr (.inr (some 0))), (1, .inl a1), (2, .inl v2_4), (3, .inl v3_16), (4, .inl v4_8), (5, .inl v5_16), (6, .inl v6_16), (7, .inl v7_16)]) (st' := [.inl 24, .inl v3_16]) (h' := gr_h I14 J15) (C := ((True ∧ True) ∧ True)) rfl ⟨⟨trivial, trivial⟩, trivial⟩ ?_
                refine gv_icmp_ne (t := 118) hD rfl rfl ⟨⟨by (have o1 := gz_sh hv3_16; omega), by (have o1 := gz_sh hv3_16; omega)⟩, ⟨by omega, by omega⟩⟩ (fun c20 => ?_) (fun c20 => ?_)
                · refine gv_run 7 true hD (pc' := 132) (lv' := [(3, .inl (v3_16 + 1)), (0, .inr (.inr (some 0))), (1, .inl a1), (2, .inl v2_4), (4, .inl v4_8), (5, .inl v5_16), (6, .inl v6_16), (7, .inl v7_16)]) (st' := [.inl v6_16, .inr (.inr (some 51)), .inl v3_16, .inr (.inr (some 77))]) (h' := gr_h I14 J15) (C := (((((((True ∧ True) ∧ True) ∧ True) ∧ True) ∧ True) ∧ True) ∧ True)) rfl ⟨⟨⟨⟨⟨⟨⟨trivial, trivial⟩, trivial⟩, trivial⟩, trivial⟩, trivial⟩, trivial⟩, trivial⟩ ?_
                  have f21 := gz_hi (gw_shr (x := v6_16) (y := 4) ⟨by (have o1 := gz_sh hv6_16; omega), by (have o1 := gz_sh hv6_16; omega)⟩)
                  refine gv_run 5 true hD (pc' := 138) (lv' := [(3, .inl (v3_16 + 1)), (0, .inr (.inr (some 0))), (1, .inl a1), (2, .inl v2_4), (4, .inl v4_8), (5, .inl v5_16), (6, .inl v6_16), (7, .inl v7_16)]) (st' := [.inl (I14 51 (Int.toNat ((((Int32.ofInt v6_16 >>> (Int32.ofInt 4 &&& 31)).toInt) + v7_16)))), .inl v3_16, .inr (.inr (some 77))]) (h' := gr_h I14 J15) (C := (((((True ∧ True) ∧ True) ∧ True) ∧ True) ∧ (0 ≤ ((((Int32.ofInt v6_16 >>> (Int32.ofInt 4 &&& 31)).toInt) + v7_16)) ∧ ((((Int32.ofInt v6_16 >>> (Int32.ofInt 4 &&& 31)).toInt) + v7_16)) < ((82000 : Nat) : Int)))) rfl ⟨⟨⟨⟨⟨trivial, trivial⟩, trivial⟩, trivial⟩, trivial⟩, ⟨by (have o1 := gz_sh f21; have o2 := gz_sh hv6_16; have o3 := gz_sh hv7_16; omega), by (have o1 := gz_sh f18; have o2 := gz_sh f21; have o3 := gz_sh hv6_16; omega)⟩⟩ ?_
                  have f23 := gz_hi (gw_nar_byte (x := ((I14 51 (Int.toNat ((((Int32.ofInt v6_16 >>> (Int32.ofInt 4 &&& 31)).toInt) + v7_16)))))))
                  refine gv_run 1 true hD (pc' := 139) (lv' := [(3, .inl (v3_16 + 1)), (0, .inr (.inr (some 0))), (1, .inl a1), (2, .inl v2_4), (4, .inl v4_8), (5, .inl v5_16), (6, .inl v6_16), (7, .inl v7_16)]) (st' := []) (h' := gz_up (gr_h I14 J15) 77 (Int.toNat v3_16) (.inl (((vp_nar .byte (Int32.ofInt ((I14 51 (Int.toNat ((((Int32.ofInt v6_16 >>> (Int32.ofInt 4 &&& 31)).toInt) + v7_16))))))).toInt)))) (C := (True ∧ (0 ≤ v3_16 ∧ v3_16 < ((64 : Nat) : Int)))) rfl ⟨trivial, ⟨by (have o1 := gz_sh hv3_16; omega), by (have o1 := gz_sh hv3_16; omega)⟩⟩ ?_
                  refine gr_st hI14 FI14 rfl rfl ⟨⟨by show (-128) ≤ _; (have o1 := gz_sh f23; omega), by show _ ≤ 127; (have o1 := gz_sh f23; omega)⟩, trivial⟩ (fun I24 hI24 FI24 q25 p25 => ?_)
                  refine gv_run 2 true hD (pc' := 100) (lv' := [(7, .inl (v7_16 + 1)), (3, .inl (v3_16 + 1)), (0, .inr (.inr (some 0))), (1, .inl a1), (2, .inl v2_4), (4, .inl v4_8), (5, .inl v5_16), (6, .inl v6_16)]) (st' := []) (h' := gr_h I24 J15) (C := ((True ∧ True) ∧ True)) rfl ⟨⟨trivial, trivial⟩, trivial⟩ ?_
                  refine gv_pick [2, 3, 4, 1, 5, 6, 7, 0] rfl ?_
                  exact ih100 I24 J15 (v3_16 + 1) v5_16 v6_16 (v7_16 + 1) (by (have o1 := gz_sh hv3_16; omega)) hI24 FI24 FJ15 (by (and_intros; (omega); (omega); (have o1 := gz_sh hv2_4_16; omega); (have o1 := gz_sh hv2_4_16; omega); (have o1 := gz_sh hv3_16; omega); (have o1 := gz_sh hv3_16; omega); (have o1 := gz_sh hv4_8_16; omega); (have o1 := gz_sh hv4_8_16; omega); (have o1 := gz_sh hv5_16; omega); (have o1 := gz_sh hv5_16; omega); (have o1 := gz_sh hv6_16; omega); (have o1 := gz_sh hv6_16; omega); (have o1 := gz_sh hv7_16; omega); (have o1 := gz_sh f18; have o2 := gz_sh hv7_16; omega); (have o1 := gz_sh e0_16; omega)))
                · refine gv_run 1 true hD (pc' := 117) (lv' := [(0, .inr (.inr (some 0))), (1, .inl a1), (2, .inl v2_4), (3, .inl v3_16), (4, .inl v4_8), (5, .inl v5_16), (6, .inl v6_16), (7, .inl v7_16)]) (st' := [.inl (-1)]) (h' := gr_h I14 J15) (C := (True ∧ True)) rfl ⟨trivial, trivial⟩ ?_
                  exact gv_iret hD rfl ⟨I14, J15, rfl, hI14, FI14, FJ15, ⟨_, rfl, by (and_intros <;> omega)⟩⟩
          have L155 : ((0 ≤ a1 ∧ a1 ≤ 7) ∧ (0 ≤ v2_4 ∧ v2_4 ≤ 191) ∧ (0 ≤ v3_8 ∧ v3_8 ≤ 24) ∧ (0 ≤ v4_8 ∧ v4_8 ≤ 23)) → gv_X (gr_E ws0 tb 3 (yX13_sounded, cX13_sounded, 8, (some .int)) kX13_sounded) (gv_Q cX13_sounded (some .int) (gr_sh ++ ext) (fun r h' => (∃ (I' : gr_I) (J' : gr_J), h' = gr_h I' J' ∧ gr_Inv I' ∧ gr_fr [126] [76, 77] I I' ∧ gr_fj [126] [76, 77] J J' ∧ (∃ z : Int, r = some (.inl z) ∧ (-1) ≤ z ∧ z ≤ 24)))) (155, [(0, .inr (.inr (some 0))), (1, .inl a1), (2, .inl v2_4), (3, .inl v3_8), (4, .inl v4_8)], [], gr_sh ++ ext, gr_h I6 J7) := by
            intro m_28
            obtain ⟨ha1_28, hv2_4_28, hv3_8_28, hv4_8_28⟩ := gz_h4 m_28
            refine gv_run 2 true hD (pc' := 158) (lv' := [(0, .inr (.inr (some 0))), (1, .inl a1), (2, .inl v2_4), (3, .inl v3_8), (4, .inl v4_8)]) (st' := [.inl 24, .inl v3_8]) (h' := gr_h I6 J7) (C := ((True ∧ True) ∧ True)) rfl ⟨⟨trivial, trivial⟩, trivial⟩ ?_
            refine gv_icmp_ne (t := 163) hD rfl rfl ⟨⟨by (have o1 := gz_sh hv3_8; omega), by (have o1 := gz_sh hv3_8; omega)⟩, ⟨by omega, by omega⟩⟩ (fun c30 => ?_) (fun c30 => ?_)
            · refine gv_run 7 true hD (pc' := 177) (lv' := [(3, .inl (v3_8 + 1)), (0, .inr (.inr (some 0))), (1, .inl a1), (2, .inl v2_4), (4, .inl v4_8)]) (st' := [.inl v4_8, .inr (.inr (some 76)), .inl v3_8, .inr (.inr (some 77))]) (h' := gr_h I6 J7) (C := (((((((True ∧ True) ∧ True) ∧ True) ∧ True) ∧ True) ∧ True) ∧ True)) rfl ⟨⟨⟨⟨⟨⟨⟨trivial, trivial⟩, trivial⟩, trivial⟩, trivial⟩, trivial⟩, trivial⟩, trivial⟩ ?_
              refine gv_run 2 true hD (pc' := 181) (lv' := [(4, .inl (v4_8 + 1)), (3, .inl (v3_8 + 1)), (0, .inr (.inr (some 0))), (1, .inl a1), (2, .inl v2_4)]) (st' := [.inl (I6 76 (Int.toNat v4_8)), .inl v3_8, .inr (.inr (some 77))]) (h' := gr_h I6 J7) (C := ((True ∧ True) ∧ (0 ≤ v4_8 ∧ v4_8 < ((64 : Nat) : Int)))) rfl ⟨⟨trivial, trivial⟩, ⟨by (have o1 := gz_sh hv4_8; have o2 := gz_sh hv4_8_28; omega), by (have o1 := gz_sh hv4_8; have o2 := gz_sh hv4_8_28; omega)⟩⟩ ?_
              have f32 := gz_hi (gw_nar_byte (x := ((I6 76 (Int.toNat v4_8)))))
              refine gv_run 1 true hD (pc' := 182) (lv' := [(4, .inl (v4_8 + 1)), (3, .inl (v3_8 + 1)), (0, .inr (.inr (some 0))), (1, .inl a1), (2, .inl v2_4)]) (st' := []) (h' := gz_up (gr_h I6 J7) 77 (Int.toNat v3_8) (.inl (((vp_nar .byte (Int32.ofInt ((I6 76 (Int.toNat v4_8))))).toInt)))) (C := (True ∧ (0 ≤ v3_8 ∧ v3_8 < ((64 : Nat) : Int)))) rfl ⟨trivial, ⟨by (have o1 := gz_sh hv3_8; omega), by (have o1 := gz_sh hv3_8; omega)⟩⟩ ?_
              refine gr_st hI6 FI6 rfl rfl ⟨⟨by show (-128) ≤ _; (have o1 := gz_sh f32; omega), by show _ ≤ 127; (have o1 := gz_sh f32; omega)⟩, trivial⟩ (fun I33 hI33 FI33 q34 p34 => ?_)
              refine gv_pick [2, 3, 4, 1, 0] rfl ?_
              exact L182 I33 J7 (v3_8 + 1) (v4_8 + 1) hI33 FI33 FJ7 (by (and_intros; (omega); (omega); (have o1 := gz_sh hv2_4_8; omega); (have o1 := gz_sh hv2_4_8; omega); (have o1 := gz_sh hv3_8; omega); (have o1 := gz_sh hv3_8; omega); (have o1 := gz_sh hv4_8; have o2 := gz_sh hv4_8_28; omega); (have o1 := gz_sh hv4_8; have o2 := gz_sh hv4_8_28; omega); (omega)))
            · refine gv_run 1 true hD (pc' := 162) (lv' := [(0, .inr (.inr (some 0))), (1, .inl a1), (2, .inl v2_4), (3, .inl v3_8), (4, .inl v4_8)]) (st' := [.inl (-1)]) (h' := gr_h I6 J7) (C := (True ∧ True)) rfl ⟨trivial, trivial⟩ ?_
              exact gv_iret hD rfl ⟨I6, J7, rfl, hI6, FI6, FJ7, ⟨_, rfl, by (and_intros <;> omega)⟩⟩
          have L188 : ∀ (n : Nat) (I37 : gr_I) (J38 : gr_J) (v5_39 : Int), (25 - v5_39).toNat < n → gr_Inv I37 → gr_fr [126] [76, 77] I I37 → gr_fj [126] [76, 77] J J38 → ((0 ≤ a1 ∧ a1 ≤ 7) ∧ (0 ≤ v2_4 ∧ v2_4 ≤ 191) ∧ (0 ≤ v3_8 ∧ v3_8 ≤ 24) ∧ (0 ≤ v5_39 ∧ v5_39 ≤ 24)) → gv_X (gr_E ws0 tb 3 (yX13_sounded, cX13_sounded, 8, (some .int)) kX13_sounded) (gv_Q cX13_sounded (some .int) (gr_sh ++ ext) (fun r h' => (∃ (I' : gr_I) (J' : gr_J), h' = gr_h I' J' ∧ gr_Inv I' ∧ gr_fr [126] [76, 77] I I' ∧ gr_fj [126] [76, 77] J J' ∧ (∃ z : Int, r = some (.inl z) ∧ (-1) ≤ z ∧ z ≤ 24)))) (188, [(0, .inr (.inr (some 0))), (1, .inl a1), (2, .inl v2_4), (3, .inl v3_8), (5, .inl v5_39)], [], gr_sh ++ ext, gr_h I37 J38) := by
            intro n
            induction n with
            | zero => intro I37 J38 v5_39 hn; omega
            | succ n ih188 =>
              intro I37 J38 v5_39 hn hI37 FI37 FJ38 m_39
              clear ha1_8 hv2_4_8 hv3_8 hv4_8 f9
              obtain ⟨ha1_39, hv2_4_39, hv3_8_39, hv5_39⟩ := gz_h4 m_39
              refine gv_run 2 true hD (pc' := 191) (lv' := [(0, .inr (.inr (some 0))), (1, .inl a1), (2, .inl v2_4), (3, .inl v3_8), (5, .inl v5_39)]) (st' := [.inl v3_8, .inl v5_39]) (h' := gr_h I37 J38) (C := ((True ∧ True) ∧ True)) rfl ⟨⟨trivial, trivial⟩, trivial⟩ ?_
              refine gv_icmp_ge (t := 214) hD rfl rfl ⟨⟨by (have o1 := gz_sh hv5_39; omega), by (have o1 := gz_sh hv5_39; omega)⟩, ⟨by (have o1 := gz_sh hv3_8_39; omega), by (have o1 := gz_sh hv3_8_39; omega)⟩⟩ (fun c41 => ?_) (fun c41 => ?_)
              · refine gv_run 3 true hD (pc' := 219) (lv' := [(0, .inr (.inr (some 0))), (1, .inl a1), (2, .inl v2_4), (3, .inl v3_8), (5, .inl v5_39)]) (st' := []) (h' := gz_up (gr_h I37 J38) 0 126 (.inl v3_8)) (C := (((True ∧ True) ∧ True) ∧ True)) rfl ⟨⟨⟨trivial, trivial⟩, trivial⟩, trivial⟩ ?_
                refine gr_st hI37 FI37 rfl rfl ⟨⟨by show 0 ≤ _; (have o1 := gz_sh hv3_8_39; omega), by show _ ≤ 24; (have o1 := gz_sh hv3_8_39; omega)⟩, trivial⟩ (fun I42 hI42 FI42 q43 p43 => ?_)
                refine gv_run 2 true hD (pc' := 16) (lv' := [(2, .inl (v2_4 + 1)), (0, .inr (.inr (some 0))), (1, .inl a1), (3, .inl v3_8), (5, .inl v5_39)]) (st' := []) (h' := gr_h I42 J38) (C := ((True ∧ True) ∧ True)) rfl ⟨⟨trivial, trivial⟩, trivial⟩ ?_
                refine gv_pick [1, 2, 0] rfl ?_
                exact ih16 I42 J38 (v2_4 + 1) (by (have o1 := gz_sh hv2_4_39; have o2 := gz_sh hv3_8_39; have o3 := gz_sh hv5_39; omega)) hI42 FI42 FJ38 (by (and_intros; (omega); (omega); (have o1 := gz_sh hv2_4_39; omega); (have o1 := gz_sh hv2_4_39; omega)))
              · have f45 := gz_hi ((gr_b_77 hI37 (Int.toNat v5_39)))
                refine gv_run 7 true hD (pc' := 207) (lv' := [(0, .inr (.inr (some 0))), (1, .inl a1), (2, .inl v2_4), (3, .inl v3_8), (5, .inl v5_39)]) (st' := [.inl (I37 77 (Int.toNat v5_39)), .inl v5_39, .inr (.inr (some 76))]) (h' := gr_h I37 J38) (C := (((((((True ∧ True) ∧ True) ∧ True) ∧ True) ∧ True) ∧ True) ∧ (0 ≤ v5_39 ∧ v5_39 < ((64 : Nat) : Int)))) rfl ⟨⟨⟨⟨⟨⟨⟨trivial, trivial⟩, trivial⟩, trivial⟩, trivial⟩, trivial⟩, trivial⟩, ⟨by (have o1 := gz_sh hv5_39; omega), by (have o1 := gz_sh hv5_39; omega)⟩⟩ ?_
                have f46 := gz_hi (gw_nar_byte (x := ((I37 77 (Int.toNat v5_39)))))
                refine gv_run 1 true hD (pc' := 208) (lv' := [(0, .inr (.inr (some 0))), (1, .inl a1), (2, .inl v2_4), (3, .inl v3_8), (5, .inl v5_39)]) (st' := []) (h' := gz_up (gr_h I37 J38) 76 (Int.toNat v5_39) (.inl (((vp_nar .byte (Int32.ofInt ((I37 77 (Int.toNat v5_39))))).toInt)))) (C := (True ∧ (0 ≤ v5_39 ∧ v5_39 < ((64 : Nat) : Int)))) rfl ⟨trivial, ⟨by (have o1 := gz_sh hv5_39; omega), by (have o1 := gz_sh hv5_39; omega)⟩⟩ ?_
                refine gr_st hI37 FI37 rfl rfl ⟨⟨by show (-128) ≤ _; (have o1 := gz_sh f46; omega), by show _ ≤ 127; (have o1 := gz_sh f46; omega)⟩, trivial⟩ (fun I47 hI47 FI47 q48 p48 => ?_)
                refine gv_run 2 true hD (pc' := 188) (lv' := [(5, .inl (v5_39 + 1)), (0, .inr (.inr (some 0))), (1, .inl a1), (2, .inl v2_4), (3, .inl v3_8)]) (st' := []) (h' := gr_h I47 J38) (C := ((True ∧ True) ∧ True)) rfl ⟨⟨trivial, trivial⟩, trivial⟩ ?_
                refine gv_pick [1, 2, 3, 4, 0] rfl ?_
                exact ih188 I47 J38 (v5_39 + 1) (by (have o1 := gz_sh hv3_8_39; have o2 := gz_sh hv5_39; omega)) hI47 FI47 FJ38 (by (and_intros; (omega); (omega); (have o1 := gz_sh hv2_4_39; omega); (have o1 := gz_sh hv2_4_39; omega); (have o1 := gz_sh hv3_8_39; omega); (have o1 := gz_sh hv3_8_39; omega); (have o1 := gz_sh hv5_39; omega); (have o1 := gz_sh hv3_8_39; have o2 := gz_sh hv5_39; omega)))
          refine gv_run 3 true hD (pc' := 42) (lv' := [(0, .inr (.inr (some 0))), (1, .inl a1), (2, .inl v2_4), (3, .inl v3_8), (4, .inl v4_8)]) (st' := [.inl (I6 0 126), .inl v4_8]) (h' := gr_h I6 J7) (C := (((True ∧ True) ∧ True) ∧ True)) rfl ⟨⟨⟨trivial, trivial⟩, trivial⟩, trivial⟩ ?_
          refine gv_icmp_ge (t := 185) hD rfl rfl ⟨⟨by (have o1 := gz_sh hv4_8; omega), by (have o1 := gz_sh hv4_8; omega)⟩, ⟨by (have o1 := gz_sh f9; omega), by (have o1 := gz_sh f9; omega)⟩⟩ (fun c52 => ?_) (fun c52 => ?_)
          · refine gv_run 2 true hD (pc' := 188) (lv' := [(5, .inl 0), (0, .inr (.inr (some 0))), (1, .inl a1), (2, .inl v2_4), (3, .inl v3_8), (4, .inl v4_8)]) (st' := []) (h' := gr_h I6 J7) (C := ((True ∧ True) ∧ True)) rfl ⟨⟨trivial, trivial⟩, trivial⟩ ?_
            refine gv_pick [1, 2, 3, 4, 0] rfl ?_
            exact L188 _ I6 J7 0 (Nat.lt_succ_self _) hI6 FI6 FJ7 (by (and_intros; (omega); (omega); (have o1 := gz_sh hv2_4_8; omega); (have o1 := gz_sh hv2_4_8; omega); (have o1 := gz_sh hv3_8; omega); (have o1 := gz_sh hv3_8; omega); (omega); (omega)))
          · have f53 := gz_hi ((gr_b_27 hI6 (Int.toNat v2_4)))
            refine gv_run 6 true hD (pc' := 53) (lv' := [(0, .inr (.inr (some 0))), (1, .inl a1), (2, .inl v2_4), (3, .inl v3_8), (4, .inl v4_8)]) (st' := [.inl (I6 27 (Int.toNat v2_4)), .inl a1, .inr (.inr (some 0))]) (h' := gr_h I6 J7) (C := ((((((True ∧ True) ∧ True) ∧ True) ∧ True) ∧ True) ∧ (0 ≤ v2_4 ∧ v2_4 < ((192 : Nat) : Int)))) rfl ⟨⟨⟨⟨⟨⟨trivial, trivial⟩, trivial⟩, trivial⟩, trivial⟩, trivial⟩, ⟨by (have o1 := gz_sh hv2_4_8; omega), by (have o1 := gz_sh hv2_4_8; omega)⟩⟩ ?_
            refine gv_run 1 true hD (pc' := 55) (lv' := [(0, .inr (.inr (some 0))), (1, .inl a1), (2, .inl v2_4), (3, .inl v3_8), (4, .inl v4_8)]) (st' := [.inl v4_8, .inl (I6 27 (Int.toNat v2_4)), .inl a1, .inr (.inr (some 0))]) (h' := gr_h I6 J7) (C := (True ∧ True)) rfl ⟨trivial, trivial⟩ ?_
            obtain ⟨r54, h54, E54, P54⟩ := r_stands (ws0 := ws0) (tb := tb) hws htb ext I6 J7 hI6 a1 ((I6 27 (Int.toNat v2_4))) v4_8 ⟨by omega, by omega⟩ ⟨by (have o1 := gz_sh f53; omega), by (have o1 := gz_sh f53; omega)⟩ ⟨by (have o1 := gz_sh hv4_8; omega), by (have o1 := gz_sh hv4_8; omega)⟩ 
            obtain ⟨rfl, ⟨z54, rfl, q54⟩⟩ := P54
            replace q54 := gz_hi q54
            refine gv_callV hD rfl (As := [.inl a1, .inl (I6 27 (Int.toNat v2_4)), .inl v4_8]) (st := []) rfl (by decide) rfl rfl (gr_lV hws rfl) (Nat.le_of_ble_eq_true rfl) (gz_Ev_mono (d := 2) (by decide) E54) ?_
            show gv_X _ _ (58, [(0, .inr (.inr (some 0))), (1, .inl a1), (2, .inl v2_4), (3, .inl v3_8), (4, .inl v4_8)], [.inl z54], gr_sh ++ ext, gr_h I6 J7)
            refine gv_run 2 true hD (pc' := 62) (lv' := [(5, .inl z54), (0, .inr (.inr (some 0))), (1, .inl a1), (2, .inl v2_4), (3, .inl v3_8), (4, .inl v4_8)]) (st' := [.inl z54]) (h' := gr_h I6 J7) (C := ((True ∧ True) ∧ True)) rfl ⟨⟨trivial, trivial⟩, trivial⟩ ?_
            refine gv_if_le (t := 155) hD rfl rfl ⟨by (have o1 := gz_sh q54; omega), by (have o1 := gz_sh q54; omega)⟩ (fun c55 => ?_) (fun c55 => ?_)
            · refine gv_pick [1, 2, 3, 4, 5] rfl ?_
              exact L155 (by (and_intros; (omega); (omega); (have o1 := gz_sh hv2_4_8; omega); (have o1 := gz_sh hv2_4_8; omega); (have o1 := gz_sh hv3_8; omega); (have o1 := gz_sh hv3_8; omega); (have o1 := gz_sh hv4_8; omega); (have o1 := gz_sh f9; have o2 := gz_sh hv4_8; omega)))
            · refine gv_run 6 true hD (pc' := 73) (lv' := [(5, .inl z54), (0, .inr (.inr (some 0))), (1, .inl a1), (2, .inl v2_4), (3, .inl v3_8), (4, .inl v4_8)]) (st' := [.inl (v4_8 + z54), .inl v2_4, .inl a1, .inr (.inr (some 0))]) (h' := gr_h I6 J7) (C := ((((((True ∧ True) ∧ True) ∧ True) ∧ True) ∧ True) ∧ True)) rfl ⟨⟨⟨⟨⟨⟨trivial, trivial⟩, trivial⟩, trivial⟩, trivial⟩, trivial⟩, trivial⟩ ?_
              obtain ⟨r56, h56, E56, P56⟩ := r_right (ws0 := ws0) (tb := tb) hws htb ext I6 J7 hI6 a1 v2_4 (v4_8 + z54) ⟨by omega, by omega⟩ ⟨by (have o1 := gz_sh hv2_4_8; omega), by (have o1 := gz_sh hv2_4_8; omega)⟩ ⟨by (have o1 := gz_sh hv4_8; have o2 := gz_sh q54; omega), by (have o1 := gz_sh f9; have o2 := gz_sh q54; omega)⟩ 
              obtain ⟨rfl, ⟨z56, rfl, q56⟩⟩ := P56
              replace q56 := gz_hi q56
              refine gv_callV hD rfl (As := [.inl a1, .inl v2_4, .inl (v4_8 + z54)]) (st := []) rfl (by decide) rfl rfl (gr_lV hws rfl) (Nat.le_of_ble_eq_true rfl) (gz_Ev_mono (d := 3) (by decide) E56) ?_
              show gv_X _ _ (76, [(5, .inl z54), (0, .inr (.inr (some 0))), (1, .inl a1), (2, .inl v2_4), (3, .inl v3_8), (4, .inl v4_8)], [.inl z56], gr_sh ++ ext, gr_h I6 J7)
              refine gv_if_eq (t := 155) hD rfl rfl ⟨by (have o1 := gz_sh q56; omega), by (have o1 := gz_sh q56; omega)⟩ (fun c57 => ?_) (fun c57 => ?_)
              · refine gv_pick [1, 2, 3, 4, 5] rfl ?_
                exact L155 (by (and_intros; (omega); (omega); (have o1 := gz_sh hv2_4_8; omega); (have o1 := gz_sh hv2_4_8; omega); (have o1 := gz_sh hv3_8; omega); (have o1 := gz_sh hv3_8; omega); (have o1 := gz_sh hv4_8; omega); (have o1 := gz_sh f9; have o2 := gz_sh hv4_8; omega)))
              · refine gv_run 4 true hD (pc' := 83) (lv' := [(5, .inl z54), (0, .inr (.inr (some 0))), (1, .inl a1), (2, .inl v2_4), (3, .inl v3_8), (4, .inl v4_8)]) (st' := [.inl v3_8, .inl v2_4, .inl a1, .inr (.inr (some 0))]) (h' := gr_h I6 J7) (C := ((((True ∧ True) ∧ True) ∧ True) ∧ True)) rfl ⟨⟨⟨⟨trivial, trivial⟩, trivial⟩, trivial⟩, trivial⟩ ?_
                obtain ⟨r58, h58, E58, P58⟩ := r_left (ws0 := ws0) (tb := tb) hws htb ext I6 J7 hI6 a1 v2_4 v3_8 ⟨by omega, by omega⟩ ⟨by (have o1 := gz_sh hv2_4_8; omega), by (have o1 := gz_sh hv2_4_8; omega)⟩ ⟨by (have o1 := gz_sh hv3_8; omega), by (have o1 := gz_sh hv3_8; omega)⟩ 
                obtain ⟨rfl, ⟨z58, rfl, q58⟩⟩ := P58
                replace q58 := gz_hi q58
                refine gv_callV hD rfl (As := [.inl a1, .inl v2_4, .inl v3_8]) (st := []) rfl (by decide) rfl rfl (gr_lV hws rfl) (Nat.le_of_ble_eq_true rfl) (gz_Ev_mono (d := 2) (by decide) E58) ?_
                show gv_X _ _ (86, [(5, .inl z54), (0, .inr (.inr (some 0))), (1, .inl a1), (2, .inl v2_4), (3, .inl v3_8), (4, .inl v4_8)], [.inl z58], gr_sh ++ ext, gr_h I6 J7)
                refine gv_if_eq (t := 155) hD rfl rfl ⟨by (have o1 := gz_sh q58; omega), by (have o1 := gz_sh q58; omega)⟩ (fun c59 => ?_) (fun c59 => ?_)
                · refine gv_pick [1, 2, 3, 4, 5] rfl ?_
                  exact L155 (by (and_intros; (omega); (omega); (have o1 := gz_sh hv2_4_8; omega); (have o1 := gz_sh hv2_4_8; omega); (have o1 := gz_sh hv3_8; omega); (have o1 := gz_sh hv3_8; omega); (have o1 := gz_sh hv4_8; omega); (have o1 := gz_sh f9; have o2 := gz_sh hv4_8; omega)))
                · have f60 := gz_hi ((gr_b_28 hI6 (Int.toNat v2_4)))
                  refine gv_run 4 true hD (pc' := 95) (lv' := [(5, .inl z54), (0, .inr (.inr (some 0))), (1, .inl a1), (2, .inl v2_4), (3, .inl v3_8), (4, .inl v4_8)]) (st' := [.inl (I6 28 (Int.toNat v2_4))]) (h' := gr_h I6 J7) (C := ((((True ∧ True) ∧ True) ∧ True) ∧ (0 ≤ v2_4 ∧ v2_4 < ((192 : Nat) : Int)))) rfl ⟨⟨⟨⟨trivial, trivial⟩, trivial⟩, trivial⟩, ⟨by (have o1 := gz_sh hv2_4_8; omega), by (have o1 := gz_sh hv2_4_8; omega)⟩⟩ ?_
                  refine gv_run 3 true hD (pc' := 100) (lv' := [(7, .inl 0), (6, .inl (I6 28 (Int.toNat v2_4))), (5, .inl z54), (0, .inr (.inr (some 0))), (1, .inl a1), (2, .inl v2_4), (3, .inl v3_8), (4, .inl v4_8)]) (st' := []) (h' := gr_h I6 J7) (C := (((True ∧ True) ∧ True) ∧ True)) rfl ⟨⟨⟨trivial, trivial⟩, trivial⟩, trivial⟩ ?_
                  refine gv_pick [3, 4, 5, 6, 7, 2, 1, 0] rfl ?_
                  exact L100 _ I6 J7 v3_8 z54 ((I6 28 (Int.toNat v2_4))) 0 (Nat.lt_succ_self _) hI6 FI6 FJ7 (by (and_intros; (omega); (omega); (have o1 := gz_sh hv2_4_8; omega); (have o1 := gz_sh hv2_4_8; omega); (have o1 := gz_sh hv3_8; omega); (have o1 := gz_sh hv3_8; omega); (have o1 := gz_sh hv4_8; omega); (have o1 := gz_sh f9; have o2 := gz_sh hv4_8; omega); (have o1 := gz_sh q54; omega); (have o1 := gz_sh q54; omega); (have o1 := gz_sh f60; omega); (have o1 := gz_sh f60; omega); (omega); (omega); (have o1 := gz_sh f9; have o2 := gz_sh q54; have o3 := gz_sh q56; have o4 := gz_sh q58; omega)))
      have L240 : ∀ (s0_61 : Int), (((-1) ≤ s0_61 ∧ s0_61 ≤ 24)) → gv_X (gr_E ws0 tb 3 (yX13_sounded, cX13_sounded, 8, (some .int)) kX13_sounded) (gv_Q cX13_sounded (some .int) (gr_sh ++ ext) (fun r h' => (∃ (I' : gr_I) (J' : gr_J), h' = gr_h I' J' ∧ gr_Inv I' ∧ gr_fr [126] [76, 77] I I' ∧ gr_fj [126] [76, 77] J J' ∧ (∃ z : Int, r = some (.inl z) ∧ (-1) ≤ z ∧ z ≤ 24)))) (240, [], [.inl s0_61], gr_sh ++ ext, gr_h I2 J3) := by
        intro s0_61 m_61
        have hs0_61 := m_61
        exact gv_iret hD rfl ⟨I2, J3, rfl, hI2, FI2, FJ3, ⟨_, rfl, by (and_intros <;> omega)⟩⟩
      refine gv_run 7 true hD (pc' := 26) (lv' := [(0, .inr (.inr (some 0))), (1, .inl a1), (2, .inl v2_4)]) (st' := [.inl a1, .inr (.inr (some 16)), .inl (24 * a1), .inl v2_4]) (h' := gr_h I2 J3) (C := (((((((True ∧ True) ∧ True) ∧ True) ∧ True) ∧ True) ∧ True) ∧ True)) rfl ⟨⟨⟨⟨⟨⟨⟨trivial, trivial⟩, trivial⟩, trivial⟩, trivial⟩, trivial⟩, trivial⟩, trivial⟩ ?_
      have f63 := gz_hi ((gr_b_16 hI2 (Int.toNat a1)))
      refine gv_run 1 true hD (pc' := 27) (lv' := [(0, .inr (.inr (some 0))), (1, .inl a1), (2, .inl v2_4)]) (st' := [.inl (I2 16 (Int.toNat a1)), .inl (24 * a1), .inl v2_4]) (h' := gr_h I2 J3) (C := (True ∧ (0 ≤ a1 ∧ a1 < ((8 : Nat) : Int)))) rfl ⟨trivial, ⟨by omega, by omega⟩⟩ ?_
      refine gv_run 1 true hD (pc' := 28) (lv' := [(0, .inr (.inr (some 0))), (1, .inl a1), (2, .inl v2_4)]) (st' := [.inl ((24 * a1) + (I2 16 (Int.toNat a1))), .inl v2_4]) (h' := gr_h I2 J3) (C := (True ∧ True)) rfl ⟨trivial, trivial⟩ ?_
      refine gv_icmp_ge (t := 225) hD rfl rfl ⟨⟨by (have o1 := gz_sh hv2_4; omega), by (have o1 := gz_sh hv2_4; omega)⟩, ⟨by (have o1 := gz_sh f63; omega), by (have o1 := gz_sh f63; omega)⟩⟩ (fun c64 => ?_) (fun c64 => ?_)
      · have f65 := gz_hi ((gr_b_0_126 hI2))
        refine gv_run 2 true hD (pc' := 229) (lv' := [(0, .inr (.inr (some 0))), (1, .inl a1), (2, .inl v2_4)]) (st' := [.inl (I2 0 126)]) (h' := gr_h I2 J3) (C := ((True ∧ True) ∧ True)) rfl ⟨⟨trivial, trivial⟩, trivial⟩ ?_
        refine gv_if_ne (t := 236) hD rfl rfl ⟨by (have o1 := gz_sh f5; omega), by (have o1 := gz_sh f5; omega)⟩ (fun c66 => ?_) (fun c66 => ?_)
        · have f67 := gz_hi ((gr_b_0_126 hI2))
          refine gv_run 2 true hD (pc' := 240) (lv' := [(0, .inr (.inr (some 0))), (1, .inl a1), (2, .inl v2_4)]) (st' := [.inl (I2 0 126)]) (h' := gr_h I2 J3) (C := ((True ∧ True) ∧ True)) rfl ⟨⟨trivial, trivial⟩, trivial⟩ ?_
          refine gv_pick [] rfl ?_
          exact L240 (I2 0 126) (by (and_intros; (have o1 := gz_sh f5; omega); (have o1 := gz_sh f5; omega)))
        · refine gv_run 2 true hD (pc' := 240) (lv' := [(0, .inr (.inr (some 0))), (1, .inl a1), (2, .inl v2_4)]) (st' := [.inl (-1)]) (h' := gr_h I2 J3) (C := ((True ∧ True) ∧ True)) rfl ⟨⟨trivial, trivial⟩, trivial⟩ ?_
          refine gv_pick [] rfl ?_
          exact L240 (-1) (by (and_intros <;> omega))
      · refine gv_run 4 true hD (pc' := 36) (lv' := [(4, .inl 0), (3, .inl 0), (0, .inr (.inr (some 0))), (1, .inl a1), (2, .inl v2_4)]) (st' := []) (h' := gr_h I2 J3) (C := ((((True ∧ True) ∧ True) ∧ True) ∧ True)) rfl ⟨⟨⟨⟨trivial, trivial⟩, trivial⟩, trivial⟩, trivial⟩ ?_
        refine gv_pick [2, 3, 4, 1, 0] rfl ?_
        exact L36 _ I2 J3 0 0 (Nat.lt_succ_self _) hI2 FI2 FJ3 (by (and_intros; (omega); (omega); (have o1 := gz_sh hv2_4; omega); (have o1 := gz_sh f63; have o2 := gz_sh hv2_4; omega); (omega); (omega); (omega); (omega)))
  refine gv_run 3 true hD (pc' := 6) (lv' := [(0, .inr (.inr (some 0))), (1, .inl a1)]) (st' := [.inl 24, .inl (I 0 126)]) (h' := gr_h I J) (C := (((True ∧ True) ∧ True) ∧ True)) rfl ⟨⟨⟨trivial, trivial⟩, trivial⟩, trivial⟩ ?_
  refine gv_icmp_le (t := 11) hD rfl rfl ⟨⟨by (have o1 := gz_sh f1; omega), by (have o1 := gz_sh f1; omega)⟩, ⟨by omega, by omega⟩⟩ (fun c69 => ?_) (fun c69 => ?_)
  · refine gv_run 4 true hD (pc' := 16) (lv' := [(2, .inl (24 * a1)), (0, .inr (.inr (some 0))), (1, .inl a1)]) (st' := []) (h' := gr_h I J) (C := ((((True ∧ True) ∧ True) ∧ True) ∧ True)) rfl ⟨⟨⟨⟨trivial, trivial⟩, trivial⟩, trivial⟩, trivial⟩ ?_
    refine gv_pick [1, 2, 0] rfl ?_
    exact L16 _ I J (24 * a1) (Nat.lt_succ_self _) hI FI FJ (by (and_intros <;> omega))
  · exfalso; (have o1 := gz_sh f1; omega)
set_option maxHeartbeats 8000000 in
set_option maxRecDepth 100000 in
theorem r_joined {ws0 : List Cond} {tb : String → gz_T} (hws : ∀ w ∈ gr_ws, w ∈ ws0) (htb : tb RX13 = gr_T) (ext : gz_Sh) (I : gr_I) (J : gr_J) (hI : gr_Inv I) (a1 : Int) (a2 : Int) (a3 : Int) (ha1 : 0 ≤ a1 ∧ a1 ≤ 7) (ha2 : 0 ≤ a2 ∧ a2 ≤ 63) (ha3 : 0 ≤ a3 ∧ a3 ≤ 23)  : ∃ r h', gz_Ev ws0 tb 5 (yX13_joined, cX13_joined, 9, (some .int)) [.inr (.inr (some 0)), .inl a1, .inl a2, .inl a3] (gr_sh ++ ext) (gr_h I J) r (gr_sh ++ ext) h' 0 0 ∧ (∃ (I' : gr_I) (J' : gr_J), h' = gr_h I' J' ∧ gr_Inv I' ∧ gr_fr [126] [76, 77] I I' ∧ gr_fj [126] [76, 77] J J' ∧ (∃ z : Int, r = some (.inl z) ∧ (-1) ≤ z ∧ z ≤ 24)) := by
  have FI : gr_fr [126] [76, 77] I I := fun _ _ _ => rfl
  have FJ : gr_fj [126] [76, 77] J J := fun _ _ _ => rfl
  have hD : gv_D (gr_E ws0 tb 4 (yX13_joined, cX13_joined, 9, (some .int)) kX13_joined) := gq_of oX13_joined
  refine gr_ev (d := 4) (l := kX13_joined) (Po := fun r h' => (∃ (I' : gr_I) (J' : gr_J), h' = gr_h I' J' ∧ gr_Inv I' ∧ gr_fr [126] [76, 77] I I' ∧ gr_fj [126] [76, 77] J J' ∧ (∃ z : Int, r = some (.inl z) ∧ (-1) ≤ z ∧ z ≤ 24))) htb rfl (Nat.le_of_ble_eq_true rfl) ?_
  have L43 : ∀ (n : Nat) (I2 : gr_I) (J3 : gr_J) (v4_4 : Int) (v5_4 : Int), (2001 - v5_4).toNat < n → gr_Inv I2 → gr_fr [126] [76, 77] I I2 → gr_fj [126] [76, 77] J J3 → ((0 ≤ a1 ∧ a1 ≤ 7) ∧ (0 ≤ a2 ∧ a2 ≤ 63) ∧ (0 ≤ v4_4 ∧ v4_4 ≤ 4607) ∧ (0 ≤ v5_4 ∧ v5_4 ≤ 2000)) → gv_X (gr_E ws0 tb 4 (yX13_joined, cX13_joined, 9, (some .int)) kX13_joined) (gv_Q cX13_joined (some .int) (gr_sh ++ ext) (fun r h' => (∃ (I' : gr_I) (J' : gr_J), h' = gr_h I' J' ∧ gr_Inv I' ∧ gr_fr [126] [76, 77] I I' ∧ gr_fj [126] [76, 77] J J' ∧ (∃ z : Int, r = some (.inl z) ∧ (-1) ≤ z ∧ z ≤ 24)))) (43, [(0, .inr (.inr (some 0))), (1, .inl a1), (2, .inl a2), (4, .inl v4_4), (5, .inl v5_4)], [], gr_sh ++ ext, gr_h I2 J3) := by
    intro n
    induction n with
    | zero => intro I2 J3 v4_4 v5_4 hn; omega
    | succ n ih43 =>
      intro I2 J3 v4_4 v5_4 hn hI2 FI2 FJ3 m_4
      obtain ⟨ha1_4, ha2_4, hv4_4, hv5_4⟩ := gz_h4 m_4
      have f5 := gz_hi ((gr_b_0_126 hI2))
      have L97 : ∀ (v6_6 : Int), ((0 ≤ a1 ∧ a1 ≤ 7) ∧ (0 ≤ a2 ∧ a2 ≤ 63) ∧ (0 ≤ v4_4 ∧ v4_4 ≤ 4607) ∧ (0 ≤ v5_4 ∧ v5_4 ≤ 1999) ∧ ((-1) ≤ v6_6 ∧ v6_6 ≤ 32015)) → gv_X (gr_E ws0 tb 4 (yX13_joined, cX13_joined, 9, (some .int)) kX13_joined) (gv_Q cX13_joined (some .int) (gr_sh ++ ext) (fun r h' => (∃ (I' : gr_I) (J' : gr_J), h' = gr_h I' J' ∧ gr_Inv I' ∧ gr_fr [126] [76, 77] I I' ∧ gr_fj [126] [76, 77] J J' ∧ (∃ z : Int, r = some (.inl z) ∧ (-1) ≤ z ∧ z ≤ 24)))) (97, [(0, .inr (.inr (some 0))), (1, .inl a1), (2, .inl a2), (4, .inl v4_4), (5, .inl v5_4), (6, .inl v6_6)], [], gr_sh ++ ext, gr_h I2 J3) := by
        intro v6_6 m_6
        obtain ⟨ha1_6, ha2_6, hv4_4_6, hv5_4_6, hv6_6⟩ := gz_h5 m_6
        have L128 : ∀ (n : Nat) (I8 : gr_I) (J9 : gr_J) (v7_10 : Int) (v8_10 : Int), (16 - v8_10).toNat < n → gr_Inv I8 → gr_fr [126] [76, 77] I I8 → gr_fj [126] [76, 77] J J9 → ((0 ≤ a1 ∧ a1 ≤ 7) ∧ (0 ≤ a2 ∧ a2 ≤ 63) ∧ (0 ≤ v4_4 ∧ v4_4 ≤ 4607) ∧ (0 ≤ v5_4 ∧ v5_4 ≤ 1999) ∧ (0 ≤ v6_6 ∧ v6_6 ≤ 32015) ∧ (0 ≤ v7_10 ∧ v7_10 ≤ 15) ∧ (0 ≤ v8_10 ∧ v8_10 ≤ 15) ∧ (I8 0 126 + v7_10 - v8_10 ≤ 24)) → gv_X (gr_E ws0 tb 4 (yX13_joined, cX13_joined, 9, (some .int)) kX13_joined) (gv_Q cX13_joined (some .int) (gr_sh ++ ext) (fun r h' => (∃ (I' : gr_I) (J' : gr_J), h' = gr_h I' J' ∧ gr_Inv I' ∧ gr_fr [126] [76, 77] I I' ∧ gr_fj [126] [76, 77] J J' ∧ (∃ z : Int, r = some (.inl z) ∧ (-1) ≤ z ∧ z ≤ 24)))) (128, [(0, .inr (.inr (some 0))), (1, .inl a1), (2, .inl a2), (4, .inl v4_4), (5, .inl v5_4), (6, .inl v6_6), (7, .inl v7_10), (8, .inl v8_10)], [], gr_sh ++ ext, gr_h I8 J9) := by
          intro n
          induction n with
          | zero => intro I8 J9 v7_10 v8_10 hn; omega
          | succ n ih128 =>
            intro I8 J9 v7_10 v8_10 hn hI8 FI8 FJ9 m_10
            clear ha1_6 ha2_6 hv4_4_6 hv5_4_6 hv6_6 ha1_4 ha2_4 hv4_4 hv5_4 f5
            obtain ⟨ha1_10, ha2_10, hv4_4_10, hv5_4_10, hv6_6_10, hv7_10, hv8_10, e0_10⟩ := gz_h8 m_10
            have f11 := gz_hi ((gr_b_0_126 hI8))
            refine gv_run 2 true hD (pc' := 132) (lv' := [(0, .inr (.inr (some 0))), (1, .inl a1), (2, .inl a2), (4, .inl v4_4), (5, .inl v5_4), (6, .inl v6_6), (7, .inl v7_10), (8, .inl v8_10)]) (st' := [.inl v7_10, .inl v8_10]) (h' := gr_h I8 J9) (C := ((True ∧ True) ∧ True)) rfl ⟨⟨trivial, trivial⟩, trivial⟩ ?_
            refine gv_icmp_ge (t := 169) hD rfl rfl ⟨⟨by (have o1 := gz_sh hv8_10; omega), by (have o1 := gz_sh hv8_10; omega)⟩, ⟨by (have o1 := gz_sh hv7_10; omega), by (have o1 := gz_sh hv7_10; omega)⟩⟩ (fun c12 => ?_) (fun c12 => ?_)
            · refine gv_run 2 true hD (pc' := 43) (lv' := [(5, .inl (v5_4 + 1)), (0, .inr (.inr (some 0))), (1, .inl a1), (2, .inl a2), (4, .inl v4_4), (6, .inl v6_6), (7, .inl v7_10), (8, .inl v8_10)]) (st' := []) (h' := gr_h I8 J9) (C := ((True ∧ True) ∧ True)) rfl ⟨⟨trivial, trivial⟩, trivial⟩ ?_
              refine gv_pick [1, 2, 3, 4, 0] rfl ?_
              exact ih43 I8 J9 v4_4 (v5_4 + 1) (by (have o1 := gz_sh hv5_4_10; have o2 := gz_sh hv8_10; omega)) hI8 FI8 FJ9 (by (and_intros; (omega); (omega); (omega); (omega); (have o1 := gz_sh hv4_4_10; omega); (have o1 := gz_sh hv4_4_10; omega); (have o1 := gz_sh hv5_4_10; omega); (have o1 := gz_sh hv5_4_10; omega)))
            · have f13 := gz_hi ((gr_b_0_126 hI8))
              refine gv_run 7 true hD (pc' := 146) (lv' := [(0, .inr (.inr (some 0))), (1, .inl a1), (2, .inl a2), (4, .inl v4_4), (5, .inl v5_4), (6, .inl v6_6), (7, .inl v7_10), (8, .inl v8_10)]) (st' := [.inl 1, .inl (I8 0 126), .inr (.inr (some 0)), .inl (I8 0 126), .inr (.inr (some 76))]) (h' := gr_h I8 J9) (C := (((((((True ∧ True) ∧ True) ∧ True) ∧ True) ∧ True) ∧ True) ∧ True)) rfl ⟨⟨⟨⟨⟨⟨⟨trivial, trivial⟩, trivial⟩, trivial⟩, trivial⟩, trivial⟩, trivial⟩, trivial⟩ ?_
              refine gv_run 2 true hD (pc' := 150) (lv' := [(0, .inr (.inr (some 0))), (1, .inl a1), (2, .inl a2), (4, .inl v4_4), (5, .inl v5_4), (6, .inl v6_6), (7, .inl v7_10), (8, .inl v8_10)]) (st' := [.inl (I8 0 126), .inr (.inr (some 76))]) (h' := gz_up (gr_h I8 J9) 0 126 (.inl (((I8 0 126) + 1)))) (C := ((True ∧ True) ∧ True)) rfl ⟨⟨trivial, trivial⟩, trivial⟩ ?_
              refine gr_st hI8 FI8 rfl rfl ⟨⟨by show 0 ≤ _; (have o1 := gz_sh f11; omega), by show _ ≤ 24; (have o1 := gz_sh e0_10; have o2 := gz_sh f11; omega)⟩, trivial⟩ (fun I14 hI14 FI14 q15 p15 => ?_)
              have f16 := gz_hi ((gr_b_0_126 hI14))
              have f17 := gz_hi (gw_shr (x := v6_6) (y := 4) ⟨by (have o1 := gz_sh hv6_6_10; omega), by (have o1 := gz_sh hv6_6_10; omega)⟩)
              refine gv_run 7 true hD (pc' := 161) (lv' := [(0, .inr (.inr (some 0))), (1, .inl a1), (2, .inl a2), (4, .inl v4_4), (5, .inl v5_4), (6, .inl v6_6), (7, .inl v7_10), (8, .inl v8_10)]) (st' := [.inl (((Int32.ofInt v6_6 >>> (Int32.ofInt 4 &&& 31)).toInt) + v8_10), .inr (.inr (some 51)), .inl (I8 0 126), .inr (.inr (some 76))]) (h' := gr_h I14 J9) (C := (((((((True ∧ True) ∧ True) ∧ True) ∧ True) ∧ True) ∧ True) ∧ True)) rfl ⟨⟨⟨⟨⟨⟨⟨trivial, trivial⟩, trivial⟩, trivial⟩, trivial⟩, trivial⟩, trivial⟩, trivial⟩ ?_
              refine gv_run 1 true hD (pc' := 162) (lv' := [(0, .inr (.inr (some 0))), (1, .inl a1), (2, .inl a2), (4, .inl v4_4), (5, .inl v5_4), (6, .inl v6_6), (7, .inl v7_10), (8, .inl v8_10)]) (st' := [.inl (I14 51 (Int.toNat ((((Int32.ofInt v6_6 >>> (Int32.ofInt 4 &&& 31)).toInt) + v8_10)))), .inl (I8 0 126), .inr (.inr (some 76))]) (h' := gr_h I14 J9) (C := (True ∧ (0 ≤ ((((Int32.ofInt v6_6 >>> (Int32.ofInt 4 &&& 31)).toInt) + v8_10)) ∧ ((((Int32.ofInt v6_6 >>> (Int32.ofInt 4 &&& 31)).toInt) + v8_10)) < ((82000 : Nat) : Int)))) rfl ⟨trivial, ⟨by (have o1 := gz_sh f17; have o2 := gz_sh hv6_6_10; have o3 := gz_sh hv7_10; have o4 := gz_sh hv8_10; omega), by (have o1 := gz_sh f17; have o2 := gz_sh hv6_6_10; have o3 := gz_sh hv7_10; have o4 := gz_sh hv8_10; omega)⟩⟩ ?_
              have f19 := gz_hi (gw_nar_byte (x := ((I14 51 (Int.toNat ((((Int32.ofInt v6_6 >>> (Int32.ofInt 4 &&& 31)).toInt) + v8_10)))))))
              refine gv_run 1 true hD (pc' := 163) (lv' := [(0, .inr (.inr (some 0))), (1, .inl a1), (2, .inl a2), (4, .inl v4_4), (5, .inl v5_4), (6, .inl v6_6), (7, .inl v7_10), (8, .inl v8_10)]) (st' := []) (h' := gz_up (gr_h I14 J9) 76 (Int.toNat ((I8 0 126))) (.inl (((vp_nar .byte (Int32.ofInt ((I14 51 (Int.toNat ((((Int32.ofInt v6_6 >>> (Int32.ofInt 4 &&& 31)).toInt) + v8_10))))))).toInt)))) (C := (True ∧ (0 ≤ (I8 0 126) ∧ (I8 0 126) < ((64 : Nat) : Int)))) rfl ⟨trivial, ⟨by (have o1 := gz_sh f11; have o2 := gz_sh f16; omega), by (have o1 := gz_sh f11; have o2 := gz_sh f16; omega)⟩⟩ ?_
              refine gr_st hI14 FI14 rfl rfl ⟨⟨by show (-128) ≤ _; (have o1 := gz_sh f19; omega), by show _ ≤ 127; (have o1 := gz_sh f19; omega)⟩, trivial⟩ (fun I20 hI20 FI20 q21 p21 => ?_)
              have t22 := gz_hi (p21 0 126 (fun q => absurd q.1 (by decide)))
              refine gv_run 2 true hD (pc' := 128) (lv' := [(8, .inl (v8_10 + 1)), (0, .inr (.inr (some 0))), (1, .inl a1), (2, .inl a2), (4, .inl v4_4), (5, .inl v5_4), (6, .inl v6_6), (7, .inl v7_10)]) (st' := []) (h' := gr_h I20 J9) (C := ((True ∧ True) ∧ True)) rfl ⟨⟨trivial, trivial⟩, trivial⟩ ?_
              refine gv_pick [1, 2, 3, 4, 5, 6, 7, 0] rfl ?_
              exact ih128 I20 J9 v7_10 (v8_10 + 1) (by (have o1 := gz_sh hv7_10; have o2 := gz_sh hv8_10; omega)) hI20 FI20 FJ9 (by (and_intros; (omega); (omega); (omega); (omega); (have o1 := gz_sh hv4_4_10; omega); (have o1 := gz_sh hv4_4_10; omega); (have o1 := gz_sh hv5_4_10; omega); (have o1 := gz_sh hv5_4_10; omega); (have o1 := gz_sh hv6_6_10; omega); (have o1 := gz_sh hv6_6_10; omega); (have o1 := gz_sh hv7_10; omega); (have o1 := gz_sh hv7_10; omega); (have o1 := gz_sh hv8_10; omega); (have o1 := gz_sh hv7_10; have o2 := gz_sh hv8_10; omega); (have o1 := gz_sh e0_10; have o2 := gz_sh t22; omega)))
        refine gv_run 1 true hD (pc' := 99) (lv' := [(0, .inr (.inr (some 0))), (1, .inl a1), (2, .inl a2), (4, .inl v4_4), (5, .inl v5_4), (6, .inl v6_6)]) (st' := [.inl v6_6]) (h' := gr_h I2 J3) (C := (True ∧ True)) rfl ⟨trivial, trivial⟩ ?_
        refine gv_if_ge (t := 104) hD rfl rfl ⟨by (have o1 := gz_sh hv6_6; omega), by (have o1 := gz_sh hv6_6; omega)⟩ (fun c24 => ?_) (fun c24 => ?_)
        · have f25 := gz_hi (gw_and (x := v6_6) (y := 15) ⟨by omega, by omega⟩)
          refine gv_run 7 true hD (pc' := 117) (lv' := [(7, .inl ((Int32.ofInt v6_6 &&& Int32.ofInt 15).toInt)), (0, .inr (.inr (some 0))), (1, .inl a1), (2, .inl a2), (4, .inl v4_4), (5, .inl v5_4), (6, .inl v6_6)]) (st' := [.inl ((Int32.ofInt v6_6 &&& Int32.ofInt 15).toInt), .inl (I2 0 126)]) (h' := gr_h I2 J3) (C := (((((((True ∧ True) ∧ True) ∧ True) ∧ True) ∧ True) ∧ True) ∧ True)) rfl ⟨⟨⟨⟨⟨⟨⟨trivial, trivial⟩, trivial⟩, trivial⟩, trivial⟩, trivial⟩, trivial⟩, trivial⟩ ?_
          refine gv_run 2 true hD (pc' := 120) (lv' := [(7, .inl ((Int32.ofInt v6_6 &&& Int32.ofInt 15).toInt)), (0, .inr (.inr (some 0))), (1, .inl a1), (2, .inl a2), (4, .inl v4_4), (5, .inl v5_4), (6, .inl v6_6)]) (st' := [.inl 24, .inl ((I2 0 126) + ((Int32.ofInt v6_6 &&& Int32.ofInt 15).toInt))]) (h' := gr_h I2 J3) (C := ((True ∧ True) ∧ True)) rfl ⟨⟨trivial, trivial⟩, trivial⟩ ?_
          refine gv_icmp_le (t := 125) hD rfl rfl ⟨⟨by (have o1 := gz_sh f25; have o2 := gz_sh f5; omega), by (have o1 := gz_sh f25; have o2 := gz_sh f5; omega)⟩, ⟨by omega, by omega⟩⟩ (fun c27 => ?_) (fun c27 => ?_)
          · refine gv_run 2 true hD (pc' := 128) (lv' := [(8, .inl 0), (7, .inl ((Int32.ofInt v6_6 &&& Int32.ofInt 15).toInt)), (0, .inr (.inr (some 0))), (1, .inl a1), (2, .inl a2), (4, .inl v4_4), (5, .inl v5_4), (6, .inl v6_6)]) (st' := []) (h' := gr_h I2 J3) (C := ((True ∧ True) ∧ True)) rfl ⟨⟨trivial, trivial⟩, trivial⟩ ?_
            refine gv_pick [2, 3, 4, 5, 6, 7, 1, 0] rfl ?_
            exact L128 _ I2 J3 (((Int32.ofInt v6_6 &&& Int32.ofInt 15).toInt)) 0 (Nat.lt_succ_self _) hI2 FI2 FJ3 (by (and_intros; (omega); (omega); (omega); (omega); (have o1 := gz_sh hv4_4; omega); (have o1 := gz_sh hv4_4; omega); (have o1 := gz_sh hv5_4; have o2 := gz_sh hv5_4_6; omega); (have o1 := gz_sh hv5_4; have o2 := gz_sh hv5_4_6; omega); (have o1 := gz_sh hv6_6; omega); (have o1 := gz_sh hv6_6; omega); (have o1 := gz_sh f25; omega); (have o1 := gz_sh f25; omega); (omega); (omega); (omega)))
          · refine gv_run 1 true hD (pc' := 124) (lv' := [(7, .inl ((Int32.ofInt v6_6 &&& Int32.ofInt 15).toInt)), (0, .inr (.inr (some 0))), (1, .inl a1), (2, .inl a2), (4, .inl v4_4), (5, .inl v5_4), (6, .inl v6_6)]) (st' := [.inl (-1)]) (h' := gr_h I2 J3) (C := (True ∧ True)) rfl ⟨trivial, trivial⟩ ?_
            exact gv_iret hD rfl ⟨I2, J3, rfl, hI2, FI2, FJ3, ⟨_, rfl, by (and_intros <;> omega)⟩⟩
        · refine gv_run 1 true hD (pc' := 103) (lv' := [(0, .inr (.inr (some 0))), (1, .inl a1), (2, .inl a2), (4, .inl v4_4), (5, .inl v5_4), (6, .inl v6_6)]) (st' := [.inl (-1)]) (h' := gr_h I2 J3) (C := (True ∧ True)) rfl ⟨trivial, trivial⟩ ?_
          exact gv_iret hD rfl ⟨I2, J3, rfl, hI2, FI2, FJ3, ⟨_, rfl, by (and_intros <;> omega)⟩⟩
      have f28 := gz_hi ((gr_b_34 hI2 (Int.toNat v4_4)))
      refine gv_run 5 true hD (pc' := 52) (lv' := [(0, .inr (.inr (some 0))), (1, .inl a1), (2, .inl a2), (4, .inl v4_4), (5, .inl v5_4)]) (st' := [.inl (I2 34 (Int.toNat v4_4)), .inl v5_4]) (h' := gr_h I2 J3) (C := (((((True ∧ True) ∧ True) ∧ True) ∧ True) ∧ (0 ≤ v4_4 ∧ v4_4 < ((4608 : Nat) : Int)))) rfl ⟨⟨⟨⟨⟨trivial, trivial⟩, trivial⟩, trivial⟩, trivial⟩, ⟨by (have o1 := gz_sh hv4_4; omega), by (have o1 := gz_sh hv4_4; omega)⟩⟩ ?_
      refine gv_icmp_ge (t := 175) hD rfl rfl ⟨⟨by (have o1 := gz_sh hv5_4; omega), by (have o1 := gz_sh hv5_4; omega)⟩, ⟨by (have o1 := gz_sh f28; omega), by (have o1 := gz_sh f28; omega)⟩⟩ (fun c29 => ?_) (fun c29 => ?_)
      · refine gv_run 2 true hD (pc' := 177) (lv' := [(0, .inr (.inr (some 0))), (1, .inl a1), (2, .inl a2), (4, .inl v4_4), (5, .inl v5_4)]) (st' := [.inl a1, .inr (.inr (some 0))]) (h' := gr_h I2 J3) (C := ((True ∧ True) ∧ True)) rfl ⟨⟨trivial, trivial⟩, trivial⟩ ?_
        obtain ⟨r30, h30, E30, P30⟩ := r_sounded (ws0 := ws0) (tb := tb) hws htb ext I2 J3 hI2 a1 ⟨by omega, by omega⟩ 
        obtain ⟨I31, J32, rfl, hI31, g30, k30, ⟨z30, rfl, q30⟩⟩ := P30
        replace q30 := gz_hi q30
        have FI31 := gr_frt FI2 g30 rfl rfl
        have FJ32 := gr_fjt FJ3 k30 rfl rfl
        refine gv_callV hD rfl (As := [.inl a1]) (st := []) rfl (by decide) rfl rfl (gr_lV hws rfl) (Nat.le_of_ble_eq_true rfl) (gz_Ev_mono (d := 4) (by decide) E30) ?_
        show gv_X _ _ (180, [(0, .inr (.inr (some 0))), (1, .inl a1), (2, .inl a2), (4, .inl v4_4), (5, .inl v5_4)], [.inl z30], gr_sh ++ ext, gr_h I31 J32)
        exact gv_iret hD rfl ⟨I31, J32, rfl, hI31, FI31, FJ32, ⟨_, rfl, by (and_intros; (have o1 := gz_sh q30; omega); (have o1 := gz_sh q30; omega))⟩⟩
      · have f34 := gz_hi ((gr_b_33 hI2 (Int.toNat v4_4)))
        refine gv_run 6 true hD (pc' := 66) (lv' := [(0, .inr (.inr (some 0))), (1, .inl a1), (2, .inl a2), (4, .inl v4_4), (5, .inl v5_4)]) (st' := [.inl (I2 33 (Int.toNat v4_4)), .inr (.inr (some 35))]) (h' := gr_h I2 J3) (C := ((((((True ∧ True) ∧ True) ∧ True) ∧ True) ∧ True) ∧ (0 ≤ v4_4 ∧ v4_4 < ((4608 : Nat) : Int)))) rfl ⟨⟨⟨⟨⟨⟨trivial, trivial⟩, trivial⟩, trivial⟩, trivial⟩, trivial⟩, ⟨by (have o1 := gz_sh hv4_4; omega), by (have o1 := gz_sh hv4_4; omega)⟩⟩ ?_
        have f35 := gz_hi ((gr_b_35 hI2 (Int.toNat (((I2 33 (Int.toNat v4_4)) + v5_4)))))
        refine gv_run 3 true hD (pc' := 70) (lv' := [(0, .inr (.inr (some 0))), (1, .inl a1), (2, .inl a2), (4, .inl v4_4), (5, .inl v5_4)]) (st' := [.inl (I2 35 (Int.toNat (((I2 33 (Int.toNat v4_4)) + v5_4))))]) (h' := gr_h I2 J3) (C := (((True ∧ True) ∧ True) ∧ (0 ≤ (((I2 33 (Int.toNat v4_4)) + v5_4)) ∧ (((I2 33 (Int.toNat v4_4)) + v5_4)) < ((42000 : Nat) : Int)))) rfl ⟨⟨⟨trivial, trivial⟩, trivial⟩, ⟨by (have o1 := gz_sh f34; have o2 := gz_sh hv5_4; omega), by (have o1 := gz_sh f28; have o2 := gz_sh f34; omega)⟩⟩ ?_
        refine gv_run 2 true hD (pc' := 74) (lv' := [(6, .inl (I2 35 (Int.toNat (((I2 33 (Int.toNat v4_4)) + v5_4))))), (0, .inr (.inr (some 0))), (1, .inl a1), (2, .inl a2), (4, .inl v4_4), (5, .inl v5_4)]) (st' := [.inl (I2 35 (Int.toNat (((I2 33 (Int.toNat v4_4)) + v5_4))))]) (h' := gr_h I2 J3) (C := ((True ∧ True) ∧ True)) rfl ⟨⟨trivial, trivial⟩, trivial⟩ ?_
        refine gv_if_ge (t := 97) hD rfl rfl ⟨by (have o1 := gz_sh f35; omega), by (have o1 := gz_sh f35; omega)⟩ (fun c36 => ?_) (fun c36 => ?_)
        · refine gv_pick [1, 2, 3, 4, 5, 0] rfl ?_
          exact L97 ((I2 35 (Int.toNat (((I2 33 (Int.toNat v4_4)) + v5_4))))) (by (and_intros; (omega); (omega); (omega); (omega); (have o1 := gz_sh hv4_4; omega); (have o1 := gz_sh hv4_4; omega); (have o1 := gz_sh hv5_4; omega); (have o1 := gz_sh f28; have o2 := gz_sh hv5_4; omega); (have o1 := gz_sh f35; omega); (have o1 := gz_sh f35; omega)))
        · refine gv_run 7 true hD (pc' := 87) (lv' := [(6, .inl (I2 35 (Int.toNat (((I2 33 (Int.toNat v4_4)) + v5_4))))), (0, .inr (.inr (some 0))), (1, .inl a1), (2, .inl a2), (4, .inl v4_4), (5, .inl v5_4)]) (st' := [.inl a2, .inl (64 * a1), .inl 3, .inr (.inr (some 38))]) (h' := gr_h I2 J3) (C := (((((((True ∧ True) ∧ True) ∧ True) ∧ True) ∧ True) ∧ True) ∧ True)) rfl ⟨⟨⟨⟨⟨⟨⟨trivial, trivial⟩, trivial⟩, trivial⟩, trivial⟩, trivial⟩, trivial⟩, trivial⟩ ?_
          have f37 := gz_hi ((gr_b_38 hI2 (Int.toNat ((((3 * ((64 * a1) + a2)) - 1) - (I2 35 (Int.toNat (((I2 33 (Int.toNat v4_4)) + v5_4)))))))))
          refine gv_run 7 true hD (pc' := 95) (lv' := [(6, .inl (I2 35 (Int.toNat (((I2 33 (Int.toNat v4_4)) + v5_4))))), (0, .inr (.inr (some 0))), (1, .inl a1), (2, .inl a2), (4, .inl v4_4), (5, .inl v5_4)]) (st' := [.inl (I2 38 (Int.toNat ((((3 * ((64 * a1) + a2)) - 1) - (I2 35 (Int.toNat (((I2 33 (Int.toNat v4_4)) + v5_4))))))))]) (h' := gr_h I2 J3) (C := (((((((True ∧ True) ∧ True) ∧ True) ∧ True) ∧ True) ∧ True) ∧ (0 ≤ ((((3 * ((64 * a1) + a2)) - 1) - (I2 35 (Int.toNat (((I2 33 (Int.toNat v4_4)) + v5_4)))))) ∧ ((((3 * ((64 * a1) + a2)) - 1) - (I2 35 (Int.toNat (((I2 33 (Int.toNat v4_4)) + v5_4)))))) < ((1536 : Nat) : Int)))) rfl ⟨⟨⟨⟨⟨⟨⟨trivial, trivial⟩, trivial⟩, trivial⟩, trivial⟩, trivial⟩, trivial⟩, ⟨by (have o1 := gz_sh f35; omega), by (have o1 := gz_sh f35; omega)⟩⟩ ?_
          refine gv_run 1 true hD (pc' := 97) (lv' := [(6, .inl (I2 38 (Int.toNat ((((3 * ((64 * a1) + a2)) - 1) - (I2 35 (Int.toNat (((I2 33 (Int.toNat v4_4)) + v5_4))))))))), (0, .inr (.inr (some 0))), (1, .inl a1), (2, .inl a2), (4, .inl v4_4), (5, .inl v5_4)]) (st' := []) (h' := gr_h I2 J3) (C := (True ∧ True)) rfl ⟨trivial, trivial⟩ ?_
          refine gv_pick [1, 2, 3, 4, 5, 0] rfl ?_
          exact L97 ((I2 38 (Int.toNat ((((3 * ((64 * a1) + a2)) - 1) - (I2 35 (Int.toNat (((I2 33 (Int.toNat v4_4)) + v5_4))))))))) (by (and_intros; (omega); (omega); (omega); (omega); (have o1 := gz_sh hv4_4; omega); (have o1 := gz_sh hv4_4; omega); (have o1 := gz_sh hv5_4; omega); (have o1 := gz_sh f28; have o2 := gz_sh hv5_4; omega); (have o1 := gz_sh f37; omega); (have o1 := gz_sh f37; omega)))
  refine gv_run 7 true hD (pc' := 12) (lv' := [(0, .inr (.inr (some 0))), (1, .inl a1), (2, .inl a2), (3, .inl a3)]) (st' := [.inl 64, .inr (.inr (some 37)), .inl (24 * a1), .inl 24]) (h' := gr_h I J) (C := (((((((True ∧ True) ∧ True) ∧ True) ∧ True) ∧ True) ∧ True) ∧ True)) rfl ⟨⟨⟨⟨⟨⟨⟨trivial, trivial⟩, trivial⟩, trivial⟩, trivial⟩, trivial⟩, trivial⟩, trivial⟩ ?_
  have f38 := gz_hi ((gr_b_37 hI (Int.toNat (((64 * a1) + a2)))))
  refine gv_run 5 true hD (pc' := 17) (lv' := [(0, .inr (.inr (some 0))), (1, .inl a1), (2, .inl a2), (3, .inl a3)]) (st' := [.inl (I 37 (Int.toNat (((64 * a1) + a2)))), .inl (24 * a1), .inl 24]) (h' := gr_h I J) (C := (((((True ∧ True) ∧ True) ∧ True) ∧ True) ∧ (0 ≤ (((64 * a1) + a2)) ∧ (((64 * a1) + a2)) < ((512 : Nat) : Int)))) rfl ⟨⟨⟨⟨⟨trivial, trivial⟩, trivial⟩, trivial⟩, trivial⟩, ⟨by omega, by omega⟩⟩ ?_
  refine gv_run 7 true hD (pc' := 25) (lv' := [(4, .inl ((24 * ((24 * a1) + (I 37 (Int.toNat (((64 * a1) + a2)))))) + a3)), (0, .inr (.inr (some 0))), (1, .inl a1), (2, .inl a2), (3, .inl a3)]) (st' := [.inl 0, .inr (.inr (some 0))]) (h' := gr_h I J) (C := (((((((True ∧ True) ∧ True) ∧ True) ∧ True) ∧ True) ∧ True) ∧ True)) rfl ⟨⟨⟨⟨⟨⟨⟨trivial, trivial⟩, trivial⟩, trivial⟩, trivial⟩, trivial⟩, trivial⟩, trivial⟩ ?_
  refine gv_run 1 true hD (pc' := 28) (lv' := [(4, .inl ((24 * ((24 * a1) + (I 37 (Int.toNat (((64 * a1) + a2)))))) + a3)), (0, .inr (.inr (some 0))), (1, .inl a1), (2, .inl a2), (3, .inl a3)]) (st' := []) (h' := gz_up (gr_h I J) 0 126 (.inl 0)) (C := (True ∧ True)) rfl ⟨trivial, trivial⟩ ?_
  refine gr_st hI FI rfl rfl ⟨⟨by show 0 ≤ _; omega, by show _ ≤ 24; omega⟩, trivial⟩ (fun I39 hI39 FI39 q40 p40 => ?_)
  have f42 := gz_hi ((gr_b_34 hI39 (Int.toNat (((24 * ((24 * a1) + (I 37 (Int.toNat (((64 * a1) + a2)))))) + a3)))))
  refine gv_run 4 true hD (pc' := 35) (lv' := [(4, .inl ((24 * ((24 * a1) + (I 37 (Int.toNat (((64 * a1) + a2)))))) + a3)), (0, .inr (.inr (some 0))), (1, .inl a1), (2, .inl a2), (3, .inl a3)]) (st' := [.inl (I39 34 (Int.toNat (((24 * ((24 * a1) + (I 37 (Int.toNat (((64 * a1) + a2)))))) + a3))))]) (h' := gr_h I39 J) (C := ((((True ∧ True) ∧ True) ∧ True) ∧ (0 ≤ (((24 * ((24 * a1) + (I 37 (Int.toNat (((64 * a1) + a2)))))) + a3)) ∧ (((24 * ((24 * a1) + (I 37 (Int.toNat (((64 * a1) + a2)))))) + a3)) < ((4608 : Nat) : Int)))) rfl ⟨⟨⟨⟨trivial, trivial⟩, trivial⟩, trivial⟩, ⟨by (have o1 := gz_sh f38; omega), by (have o1 := gz_sh f38; omega)⟩⟩ ?_
  refine gv_if_ge (t := 40) hD rfl rfl ⟨by (have o1 := gz_sh f42; omega), by (have o1 := gz_sh f42; omega)⟩ (fun c43 => ?_) (fun c43 => ?_)
  · refine gv_run 2 true hD (pc' := 43) (lv' := [(5, .inl 0), (4, .inl ((24 * ((24 * a1) + (I 37 (Int.toNat (((64 * a1) + a2)))))) + a3)), (0, .inr (.inr (some 0))), (1, .inl a1), (2, .inl a2), (3, .inl a3)]) (st' := []) (h' := gr_h I39 J) (C := ((True ∧ True) ∧ True)) rfl ⟨⟨trivial, trivial⟩, trivial⟩ ?_
    refine gv_pick [2, 3, 4, 1, 0] rfl ?_
    exact L43 _ I39 J (((24 * ((24 * a1) + (I 37 (Int.toNat (((64 * a1) + a2)))))) + a3)) 0 (Nat.lt_succ_self _) hI39 FI39 FJ (by (and_intros; (omega); (omega); (omega); (omega); (have o1 := gz_sh f38; omega); (have o1 := gz_sh f38; omega); (omega); (omega)))
  · refine gv_run 1 true hD (pc' := 39) (lv' := [(4, .inl ((24 * ((24 * a1) + (I 37 (Int.toNat (((64 * a1) + a2)))))) + a3)), (0, .inr (.inr (some 0))), (1, .inl a1), (2, .inl a2), (3, .inl a3)]) (st' := [.inl (-1)]) (h' := gr_h I39 J) (C := (True ∧ True)) rfl ⟨trivial, trivial⟩ ?_
    exact gv_iret hD rfl ⟨I39, J, rfl, hI39, FI39, FJ, ⟨_, rfl, by (and_intros <;> omega)⟩⟩
set_option maxHeartbeats 8000000 in
set_option maxRecDepth 100000 in
theorem r_valuesOf {ws0 : List Cond} {tb : String → gz_T} (hws : ∀ w ∈ gr_ws, w ∈ ws0) (htb : tb RX13 = gr_T) (ext : gz_Sh) (I : gr_I) (J : gr_J) (hI : gr_Inv I) (a1 : Int) (a2 : Int) (a3 : Int) (ha1 : 0 ≤ a1 ∧ a1 ≤ 7) (ha2 : 0 ≤ a2 ∧ a2 ≤ 63) (ha3 : 0 ≤ a3 ∧ a3 ≤ 23)  : ∃ r h', gz_Ev ws0 tb 1 (yX13_valuesOf, cX13_valuesOf, 7, (some .int)) [.inr (.inr (some 0)), .inl a1, .inl a2, .inl a3] (gr_sh ++ ext) (gr_h I J) r (gr_sh ++ ext) h' 0 0 ∧ (h' = gr_h I J ∧ (∃ z : Int, r = some (.inl z) ∧ 0 ≤ z ∧ z ≤ 16777215)) := by
  have hD : gv_D (gr_E ws0 tb 0 (yX13_valuesOf, cX13_valuesOf, 7, (some .int)) kX13_valuesOf) := gq_of oX13_valuesOf
  refine gr_ev (d := 0) (l := kX13_valuesOf) (Po := fun r h' => (h' = gr_h I J ∧ (∃ z : Int, r = some (.inl z) ∧ 0 ≤ z ∧ z ≤ 16777215))) htb rfl (Nat.le_of_ble_eq_true rfl) ?_
  have L44 : ∀ (n : Nat) (v4_1 : Int) (v5_1 : Int) (v6_1 : Int), (27 - v6_1).toNat < n → ((0 ≤ v4_1 ∧ v4_1 ≤ 16777215) ∧ (0 ≤ v5_1 ∧ v5_1 ≤ 16777215) ∧ (0 ≤ v6_1 ∧ v6_1 ≤ 26)) → gv_X (gr_E ws0 tb 0 (yX13_valuesOf, cX13_valuesOf, 7, (some .int)) kX13_valuesOf) (gv_Q cX13_valuesOf (some .int) (gr_sh ++ ext) (fun r h' => (h' = gr_h I J ∧ (∃ z : Int, r = some (.inl z) ∧ 0 ≤ z ∧ z ≤ 16777215)))) (44, [(4, .inl v4_1), (5, .inl v5_1), (6, .inl v6_1)], [], gr_sh ++ ext, gr_h I J) := by
    intro n
    induction n with
    | zero => intro v4_1 v5_1 v6_1 hn; exact gz_m 0 (by omega)
    | succ n ih44 =>
      intro v4_1 v5_1 v6_1 hn m_1
      obtain ⟨hv4_1, hv5_1, hv6_1⟩ := m_1
      have L75 : ∀ (v4_2 : Int), ((0 ≤ v4_2 ∧ v4_2 ≤ 16777215) ∧ (0 ≤ v5_1 ∧ v5_1 ≤ 16777215) ∧ (0 ≤ v6_1 ∧ v6_1 ≤ 23)) → gv_X (gr_E ws0 tb 0 (yX13_valuesOf, cX13_valuesOf, 7, (some .int)) kX13_valuesOf) (gv_Q cX13_valuesOf (some .int) (gr_sh ++ ext) (fun r h' => (h' = gr_h I J ∧ (∃ z : Int, r = some (.inl z) ∧ 0 ≤ z ∧ z ≤ 16777215)))) (75, [(4, .inl v4_2), (5, .inl v5_1), (6, .inl v6_1)], [], gr_sh ++ ext, gr_h I J) := by
        intro v4_2 m_2
        obtain ⟨hv4_2, hv5_1_2, hv6_1_2⟩ := m_2
        refine gv_run 2 true hD (pc' := 44) (lv' := [(6, .inl (v6_1 + 3)), (4, .inl v4_2), (5, .inl v5_1)]) (st' := []) (h' := gr_h I J) (C := ((True ∧ True) ∧ True)) rfl ⟨⟨trivial, trivial⟩, trivial⟩ ?_
        refine gv_pick [1, 2, 0] rfl ?_
        exact ih44 v4_2 v5_1 (v6_1 + 3) (by exact gz_m 1 (by omega)) (by exact gz_m 2 (by omega))
      refine gv_run 2 true hD (pc' := 48) (lv' := [(4, .inl v4_1), (5, .inl v5_1), (6, .inl v6_1)]) (st' := [.inl 24, .inl v6_1]) (h' := gr_h I J) (C := ((True ∧ True) ∧ True)) rfl ⟨⟨trivial, trivial⟩, trivial⟩ ?_
      refine gv_icmp_ge (t := 81) hD rfl rfl ⟨⟨by exact gz_m 3 (by omega), by exact gz_m 4 (by omega)⟩, ⟨by exact gz_m 5 (by omega), by exact gz_m 6 (by omega)⟩⟩ (fun c3 => ?_) (fun c3 => ?_)
      · refine gv_run 1 true hD (pc' := 83) (lv' := [(4, .inl v4_1), (5, .inl v5_1), (6, .inl v6_1)]) (st' := [.inl v4_1]) (h' := gr_h I J) (C := (True ∧ True)) rfl ⟨trivial, trivial⟩ ?_
        exact gv_iret hD rfl ⟨rfl, ⟨_, rfl, by exact gz_m 7 (by omega)⟩⟩
      · have f4 := gw_shr (x := v4_1) (y := v6_1) ⟨by exact gz_m 8 (by omega), by exact gz_m 9 (by omega)⟩
        have f5 := gw_and (x := (((Int32.ofInt v4_1 >>> (Int32.ofInt v6_1 &&& 31)).toInt))) (y := 7) ⟨by exact gz_m 10 (by omega), by exact gz_m 11 (by omega)⟩
        refine gv_run 5 true hD (pc' := 59) (lv' := [(4, .inl v4_1), (5, .inl v5_1), (6, .inl v6_1)]) (st' := [.inl ((Int32.ofInt (((Int32.ofInt v4_1 >>> (Int32.ofInt v6_1 &&& 31)).toInt)) &&& Int32.ofInt 7).toInt)]) (h' := gr_h I J) (C := (((((True ∧ True) ∧ True) ∧ True) ∧ True) ∧ True)) rfl ⟨⟨⟨⟨⟨trivial, trivial⟩, trivial⟩, trivial⟩, trivial⟩, trivial⟩ ?_
        refine gv_if_ne (t := 75) hD rfl rfl ⟨by exact gz_m 12 (by omega), by exact gz_m 13 (by omega)⟩ (fun c6 => ?_) (fun c6 => ?_)
        · exact L75 v4_1 (by exact gz_m 14 (by omega))
        · have f7 := gw_any (Int32.ofInt 7 <<< (Int32.ofInt v6_1 &&& 31))
          have f8 := gw_andl (x := v5_1) (y := (((Int32.ofInt 7 <<< (Int32.ofInt v6_1 &&& 31)).toInt))) ⟨by exact gz_m 15 (by omega), by exact gz_m 16 (by omega)⟩
          have f9 := gw_or (x := v4_1) (y := (((Int32.ofInt v5_1 &&& Int32.ofInt (((Int32.ofInt 7 <<< (Int32.ofInt v6_1 &&& 31)).toInt))).toInt))) ⟨by exact gz_m 17 (by omega), by exact gz_m 18 (by omega)⟩ ⟨by exact gz_m 19 (by omega), by exact gz_m 20 (by omega)⟩
          refine gv_run 7 true hD (pc' := 73) (lv' := [(4, .inl v4_1), (5, .inl v5_1), (6, .inl v6_1)]) (st' := [.inl ((Int32.ofInt v4_1 ||| Int32.ofInt (((Int32.ofInt v5_1 &&& Int32.ofInt (((Int32.ofInt 7 <<< (Int32.ofInt v6_1 &&& 31)).toInt))).toInt))).toInt)]) (h' := gr_h I J) (C := (((((((True ∧ True) ∧ True) ∧ True) ∧ True) ∧ True) ∧ True) ∧ True)) rfl ⟨⟨⟨⟨⟨⟨⟨trivial, trivial⟩, trivial⟩, trivial⟩, trivial⟩, trivial⟩, trivial⟩, trivial⟩ ?_
          refine gv_run 1 true hD (pc' := 75) (lv' := [(4, .inl ((Int32.ofInt v4_1 ||| Int32.ofInt (((Int32.ofInt v5_1 &&& Int32.ofInt (((Int32.ofInt 7 <<< (Int32.ofInt v6_1 &&& 31)).toInt))).toInt))).toInt)), (5, .inl v5_1), (6, .inl v6_1)]) (st' := []) (h' := gr_h I J) (C := (True ∧ True)) rfl ⟨trivial, trivial⟩ ?_
          exact L75 (((Int32.ofInt v4_1 ||| Int32.ofInt (((Int32.ofInt v5_1 &&& Int32.ofInt (((Int32.ofInt 7 <<< (Int32.ofInt v6_1 &&& 31)).toInt))).toInt))).toInt)) (by exact gz_m 21 (by omega))
  refine gv_run 7 true hD (pc' := 11) (lv' := [(0, .inr (.inr (some 0))), (1, .inl a1), (2, .inl a2), (3, .inl a3)]) (st' := [.inr (.inr (some 0)), .inl (24 * a1), .inl 24, .inr (.inr (some 32))]) (h' := gr_h I J) (C := (((((((True ∧ True) ∧ True) ∧ True) ∧ True) ∧ True) ∧ True) ∧ True)) rfl ⟨⟨⟨⟨⟨⟨⟨trivial, trivial⟩, trivial⟩, trivial⟩, trivial⟩, trivial⟩, trivial⟩, trivial⟩ ?_
  have f10 := (gr_b_37 hI (Int.toNat (((64 * a1) + a2))))
  refine gv_run 7 true hD (pc' := 21) (lv' := [(0, .inr (.inr (some 0))), (1, .inl a1), (2, .inl a2), (3, .inl a3)]) (st' := [.inl (I 37 (Int.toNat (((64 * a1) + a2)))), .inl (24 * a1), .inl 24, .inr (.inr (some 32))]) (h' := gr_h I J) (C := (((((((True ∧ True) ∧ True) ∧ True) ∧ True) ∧ True) ∧ True) ∧ (0 ≤ (((64 * a1) + a2)) ∧ (((64 * a1) + a2)) < ((512 : Nat) : Int)))) rfl ⟨⟨⟨⟨⟨⟨⟨trivial, trivial⟩, trivial⟩, trivial⟩, trivial⟩, trivial⟩, trivial⟩, ⟨by exact gz_m 22 (by omega), by exact gz_m 23 (by omega)⟩⟩ ?_
  have f11 := (gr_b_32 hI (Int.toNat (((24 * ((24 * a1) + (I 37 (Int.toNat (((64 * a1) + a2)))))) + a3))))
  refine gv_run 5 true hD (pc' := 26) (lv' := [(0, .inr (.inr (some 0))), (1, .inl a1), (2, .inl a2), (3, .inl a3)]) (st' := [.inl (I 32 (Int.toNat (((24 * ((24 * a1) + (I 37 (Int.toNat (((64 * a1) + a2)))))) + a3))))]) (h' := gr_h I J) (C := (((((True ∧ True) ∧ True) ∧ True) ∧ True) ∧ (0 ≤ (((24 * ((24 * a1) + (I 37 (Int.toNat (((64 * a1) + a2)))))) + a3)) ∧ (((24 * ((24 * a1) + (I 37 (Int.toNat (((64 * a1) + a2)))))) + a3)) < ((4608 : Nat) : Int)))) rfl ⟨⟨⟨⟨⟨trivial, trivial⟩, trivial⟩, trivial⟩, trivial⟩, ⟨by exact gz_m 24 (by omega), by exact gz_m 25 (by omega)⟩⟩ ?_
  refine gv_run 7 true hD (pc' := 37) (lv' := [(4, .inl (I 32 (Int.toNat (((24 * ((24 * a1) + (I 37 (Int.toNat (((64 * a1) + a2)))))) + a3))))), (0, .inr (.inr (some 0))), (1, .inl a1), (2, .inl a2), (3, .inl a3)]) (st' := [.inl a2, .inl (64 * a1), .inr (.inr (some 39))]) (h' := gr_h I J) (C := (((((((True ∧ True) ∧ True) ∧ True) ∧ True) ∧ True) ∧ True) ∧ True)) rfl ⟨⟨⟨⟨⟨⟨⟨trivial, trivial⟩, trivial⟩, trivial⟩, trivial⟩, trivial⟩, trivial⟩, trivial⟩ ?_
  have f12 := (gr_b_39 hI (Int.toNat (((64 * a1) + a2))))
  refine gv_run 2 true hD (pc' := 39) (lv' := [(4, .inl (I 32 (Int.toNat (((24 * ((24 * a1) + (I 37 (Int.toNat (((64 * a1) + a2)))))) + a3))))), (0, .inr (.inr (some 0))), (1, .inl a1), (2, .inl a2), (3, .inl a3)]) (st' := [.inl (I 39 (Int.toNat (((64 * a1) + a2))))]) (h' := gr_h I J) (C := ((True ∧ True) ∧ (0 ≤ (((64 * a1) + a2)) ∧ (((64 * a1) + a2)) < ((512 : Nat) : Int)))) rfl ⟨⟨trivial, trivial⟩, ⟨by exact gz_m 26 (by omega), by exact gz_m 27 (by omega)⟩⟩ ?_
  refine gv_run 3 true hD (pc' := 44) (lv' := [(6, .inl 0), (5, .inl (I 39 (Int.toNat (((64 * a1) + a2))))), (4, .inl (I 32 (Int.toNat (((24 * ((24 * a1) + (I 37 (Int.toNat (((64 * a1) + a2)))))) + a3))))), (0, .inr (.inr (some 0))), (1, .inl a1), (2, .inl a2), (3, .inl a3)]) (st' := []) (h' := gr_h I J) (C := (((True ∧ True) ∧ True) ∧ True)) rfl ⟨⟨⟨trivial, trivial⟩, trivial⟩, trivial⟩ ?_
  refine gv_pick [2, 1, 0] rfl ?_
  exact L44 _ ((I 32 (Int.toNat (((24 * ((24 * a1) + (I 37 (Int.toNat (((64 * a1) + a2)))))) + a3))))) ((I 39 (Int.toNat (((64 * a1) + a2))))) 0 (Nat.lt_succ_self _) (by exact gz_m 28 (by omega))
set_option maxHeartbeats 8000000 in
set_option maxRecDepth 100000 in
theorem r_outBuf {ws0 : List Cond} {tb : String → gz_T} (hws : ∀ w ∈ gr_ws, w ∈ ws0) (htb : tb RX13 = gr_T) (ext : gz_Sh) (I : gr_I) (J : gr_J) (hI : gr_Inv I)    : ∃ r h', gz_Ev ws0 tb 2 (yX13_outBuf, cX13_outBuf, 2, none) [.inr (.inr (some 0))] (gr_sh ++ ext) (gr_h I J) r (gr_sh ++ ext) h' 0 0 ∧ (∃ (I' : gr_I) (J' : gr_J), h' = gr_h I' J' ∧ gr_Inv I' ∧ gr_fr [70] [58] I I' ∧ gr_fj [70] [58] J J' ∧ r = none) := by
  have FI : gr_fr [70] [58] I I := fun _ _ _ => rfl
  have FJ : gr_fj [70] [58] J J := fun _ _ _ => rfl
  have hD : gv_D (gr_E ws0 tb 1 (yX13_outBuf, cX13_outBuf, 2, none) kX13_outBuf) := gq_of oX13_outBuf
  refine gr_ev (d := 1) (l := kX13_outBuf) (Po := fun r h' => (∃ (I' : gr_I) (J' : gr_J), h' = gr_h I' J' ∧ gr_Inv I' ∧ gr_fr [70] [58] I I' ∧ gr_fj [70] [58] J J' ∧ r = none)) htb rfl (Nat.le_of_ble_eq_true rfl) ?_
  have L7 : ∀ (n : Nat) (I1 : gr_I) (J2 : gr_J) (v1_3 : Int), (25 - v1_3).toNat < n → gr_Inv I1 → gr_fr [70] [58] I I1 → gr_fj [70] [58] J J2 → ((0 ≤ v1_3 ∧ v1_3 ≤ 24)) → gv_X (gr_E ws0 tb 1 (yX13_outBuf, cX13_outBuf, 2, none) kX13_outBuf) (gv_Q cX13_outBuf none (gr_sh ++ ext) (fun r h' => (∃ (I' : gr_I) (J' : gr_J), h' = gr_h I' J' ∧ gr_Inv I' ∧ gr_fr [70] [58] I I' ∧ gr_fj [70] [58] J J' ∧ r = none))) (7, [(0, .inr (.inr (some 0))), (1, .inl v1_3)], [], gr_sh ++ ext, gr_h I1 J2) := by
    intro n
    induction n with
    | zero => intro I1 J2 v1_3 hn; exact gz_m 0 (by omega)
    | succ n ih7 =>
      intro I1 J2 v1_3 hn hI1 FI1 FJ2 m_3
      have hv1_3 := m_3
      have f4 := (gr_b_0_126 hI1)
      refine gv_run 3 true hD (pc' := 12) (lv' := [(0, .inr (.inr (some 0))), (1, .inl v1_3)]) (st' := [.inl (I1 0 126), .inl v1_3]) (h' := gr_h I1 J2) (C := (((True ∧ True) ∧ True) ∧ True)) rfl ⟨⟨⟨trivial, trivial⟩, trivial⟩, trivial⟩ ?_
      refine gv_icmp_ge (t := 31) hD rfl rfl ⟨⟨by exact gz_m 1 (by omega), by exact gz_m 2 (by omega)⟩, ⟨by exact gz_m 3 (by omega), by exact gz_m 4 (by omega)⟩⟩ (fun c5 => ?_) (fun c5 => ?_)
      · exact gv_vret hD rfl ⟨I1, J2, rfl, hI1, FI1, FJ2, rfl⟩
      · have f6 := (gr_b_76 hI1 (Int.toNat v1_3))
        refine gv_run 5 true hD (pc' := 22) (lv' := [(0, .inr (.inr (some 0))), (1, .inl v1_3)]) (st' := [.inl (I1 76 (Int.toNat v1_3)), .inr (.inr (some 0))]) (h' := gr_h I1 J2) (C := (((((True ∧ True) ∧ True) ∧ True) ∧ True) ∧ (0 ≤ v1_3 ∧ v1_3 < ((64 : Nat) : Int)))) rfl ⟨⟨⟨⟨⟨trivial, trivial⟩, trivial⟩, trivial⟩, trivial⟩, ⟨by exact gz_m 5 (by omega), by exact gz_m 6 (by omega)⟩⟩ ?_
        obtain ⟨r7, h7, E7, P7⟩ := r_outs (ws0 := ws0) (tb := tb) hws htb ext I1 J2 hI1 ((I1 76 (Int.toNat v1_3))) ⟨by exact gz_m 7 (by omega), by exact gz_m 8 (by omega)⟩ 
        obtain ⟨I8, J9, rfl, hI8, g7, k7, rfl⟩ := P7
        have FI8 := gr_frt FI1 g7 rfl rfl
        have FJ9 := gr_fjt FJ2 k7 rfl rfl
        refine gv_callV hD rfl (As := [.inl (I1 76 (Int.toNat v1_3))]) (st := []) rfl (by decide) rfl rfl (gr_lV hws rfl) (Nat.le_of_ble_eq_true rfl) (gz_Ev_mono (d := 1) (by decide) E7) ?_
        show gv_X _ _ (25, [(0, .inr (.inr (some 0))), (1, .inl v1_3)], [], gr_sh ++ ext, gr_h I8 J9)
        refine gv_run 2 true hD (pc' := 7) (lv' := [(1, .inl (v1_3 + 1)), (0, .inr (.inr (some 0)))]) (st' := []) (h' := gr_h I8 J9) (C := ((True ∧ True) ∧ True)) rfl ⟨⟨trivial, trivial⟩, trivial⟩ ?_
        refine gv_pick [1, 0] rfl ?_
        exact ih7 I8 J9 (v1_3 + 1) (by exact gz_m 9 (by omega)) hI8 FI8 FJ9 (by exact gz_m 10 (by omega))
  refine gv_run 3 true hD (pc' := 5) (lv' := [(0, .inr (.inr (some 0)))]) (st' := []) (h' := gz_up (gr_h I J) 0 70 (.inl 0)) (C := (((True ∧ True) ∧ True) ∧ True)) rfl ⟨⟨⟨trivial, trivial⟩, trivial⟩, trivial⟩ ?_
  refine gr_st hI FI rfl rfl ⟨⟨by show 0 ≤ _; exact gz_m 11 (by omega), by show _ ≤ 1000; exact gz_m 12 (by omega)⟩, trivial⟩ (fun I10 hI10 FI10 q11 p11 => ?_)
  refine gv_run 2 true hD (pc' := 7) (lv' := [(1, .inl 0), (0, .inr (.inr (some 0)))]) (st' := []) (h' := gr_h I10 J) (C := ((True ∧ True) ∧ True)) rfl ⟨⟨trivial, trivial⟩, trivial⟩ ?_
  refine gv_pick [1, 0] rfl ?_
  exact L7 _ I10 J 0 (Nat.lt_succ_self _) hI10 FI10 FJ (by exact gz_m 13 (by omega))
set_option maxHeartbeats 8000000 in
set_option maxRecDepth 100000 in
theorem r_analysis {ws0 : List Cond} {tb : String → gz_T} (hws : ∀ w ∈ gr_ws, w ∈ ws0) (htb : tb RX13 = gr_T) (ext : gz_Sh) (I : gr_I) (J : gr_J) (hI : gr_Inv I) (a1 : Int) (a2 : Int) (ha1 : (-2147483648) ≤ a1 ∧ a1 ≤ 2147483647) (ha2 : (-2147483648) ≤ a2 ∧ a2 ≤ 2147483647)  : ∃ r h', gz_Ev ws0 tb 2 (yX13_analysis, cX13_analysis, 6, (some .int)) [.inr (.inr (some 0)), .inl a1, .inl a2] (gr_sh ++ ext) (gr_h I J) r (gr_sh ++ ext) h' 0 0 ∧ (∃ (I' : gr_I) (J' : gr_J), h' = gr_h I' J' ∧ gr_Inv I' ∧ gr_fr [0] [] I I' ∧ gr_fj [0] [] J J' ∧ (∃ z : Int, r = some (.inl z) ∧ (-1) ≤ z ∧ z ≤ 20000)) := by
  have FI : gr_fr [0] [] I I := fun _ _ _ => rfl
  have FJ : gr_fj [0] [] J J := fun _ _ _ => rfl
  have hD : gv_D (gr_E ws0 tb 1 (yX13_analysis, cX13_analysis, 6, (some .int)) kX13_analysis) := gq_of oX13_analysis
  refine gr_ev (d := 1) (l := kX13_analysis) (Po := fun r h' => (∃ (I' : gr_I) (J' : gr_J), h' = gr_h I' J' ∧ gr_Inv I' ∧ gr_fr [0] [] I I' ∧ gr_fj [0] [] J J' ∧ (∃ z : Int, r = some (.inl z) ∧ (-1) ≤ z ∧ z ≤ 20000))) htb rfl (Nat.le_of_ble_eq_true rfl) ?_
  have L15 : ∀ (I1 : gr_I) (J2 : gr_J) , gr_Inv I1 → gr_fr [0] [] I I1 → gr_fj [0] [] J J2 → gv_X (gr_E ws0 tb 1 (yX13_analysis, cX13_analysis, 6, (some .int)) kX13_analysis) (gv_Q cX13_analysis (some .int) (gr_sh ++ ext) (fun r h' => (∃ (I' : gr_I) (J' : gr_J), h' = gr_h I' J' ∧ gr_Inv I' ∧ gr_fr [0] [] I I' ∧ gr_fj [0] [] J J' ∧ (∃ z : Int, r = some (.inl z) ∧ (-1) ≤ z ∧ z ≤ 20000)))) (15, [(0, .inr (.inr (some 0)))], [], gr_sh ++ ext, gr_h I1 J2) := by
    intro I1 J2 hI1 FI1 FJ2
    refine gv_run 1 true hD (pc' := 16) (lv' := [(0, .inr (.inr (some 0)))]) (st' := [.inr (.inr (some 0))]) (h' := gr_h I1 J2) (C := (True ∧ True)) rfl ⟨trivial, trivial⟩ ?_
    obtain ⟨r4, h4, E4, P4⟩ := r_bad (ws0 := ws0) (tb := tb) hws htb ext I1 J2 hI1   
    obtain ⟨I5, J6, rfl, hI5, g4, k4, ⟨z4, rfl, q4⟩⟩ := P4
    have FI5 := gr_frt FI1 g4 rfl rfl
    have FJ6 := gr_fjt FJ2 k4 rfl rfl
    refine gv_callV hD rfl (As := []) (st := []) rfl (by decide) rfl rfl (gr_lV hws rfl) (Nat.le_of_ble_eq_true rfl) (gz_Ev_mono (d := 1) (by decide) E4) ?_
    show gv_X _ _ (19, [(0, .inr (.inr (some 0)))], [.inl z4], gr_sh ++ ext, gr_h I5 J6)
    exact gv_iret hD rfl ⟨I5, J6, rfl, hI5, FI5, FJ6, ⟨_, rfl, by exact gz_m 0 (by omega)⟩⟩
  have L32 : ∀ (I7 : gr_I) (J8 : gr_J) , gr_Inv I7 → gr_fr [0] [] I I7 → gr_fj [0] [] J J8 → gv_X (gr_E ws0 tb 1 (yX13_analysis, cX13_analysis, 6, (some .int)) kX13_analysis) (gv_Q cX13_analysis (some .int) (gr_sh ++ ext) (fun r h' => (∃ (I' : gr_I) (J' : gr_J), h' = gr_h I' J' ∧ gr_Inv I' ∧ gr_fr [0] [] I I' ∧ gr_fj [0] [] J J' ∧ (∃ z : Int, r = some (.inl z) ∧ (-1) ≤ z ∧ z ≤ 20000)))) (32, [], [], gr_sh ++ ext, gr_h I7 J8) := by
    intro I7 J8 hI7 FI7 FJ8
    refine gv_run 1 true hD (pc' := 33) (lv' := []) (st' := [.inl (-1)]) (h' := gr_h I7 J8) (C := (True ∧ True)) rfl ⟨trivial, trivial⟩ ?_
    exact gv_iret hD rfl ⟨I7, J8, rfl, hI7, FI7, FJ8, ⟨_, rfl, by exact gz_m 1 (by omega)⟩⟩
  refine gv_run 3 true hD (pc' := 5) (lv' := [(0, .inr (.inr (some 0))), (1, .inl a1), (2, .inl a2)]) (st' := []) (h' := gz_up (gr_h I J) 0 0 (.inl 0)) (C := (((True ∧ True) ∧ True) ∧ True)) rfl ⟨⟨⟨trivial, trivial⟩, trivial⟩, trivial⟩ ?_
  refine gr_st hI FI rfl rfl ⟨⟨by show 0 ≤ _; exact gz_m 2 (by omega), by show _ ≤ 2; exact gz_m 3 (by omega)⟩, trivial⟩ (fun I10 hI10 FI10 q11 p11 => ?_)
  refine gv_run 1 true hD (pc' := 6) (lv' := [(0, .inr (.inr (some 0))), (1, .inl a1), (2, .inl a2)]) (st' := [.inl a2]) (h' := gr_h I10 J) (C := (True ∧ True)) rfl ⟨trivial, trivial⟩ ?_
  refine gv_if_lt (t := 15) hD rfl rfl ⟨by exact gz_m 4 (by omega), by exact gz_m 5 (by omega)⟩ (fun c12 => ?_) (fun c12 => ?_)
  · refine gv_pick [0] rfl ?_
    exact L15 I10 J hI10 FI10 FJ
  · refine gv_run 2 true hD (pc' := 12) (lv' := [(0, .inr (.inr (some 0))), (1, .inl a1), (2, .inl a2)]) (st' := [.inl 11, .inl a2]) (h' := gr_h I10 J) (C := ((True ∧ True) ∧ True)) rfl ⟨⟨trivial, trivial⟩, trivial⟩ ?_
    refine gv_icmp_le (t := 20) hD rfl rfl ⟨⟨by exact gz_m 6 (by omega), by exact gz_m 7 (by omega)⟩, ⟨by exact gz_m 8 (by omega), by exact gz_m 9 (by omega)⟩⟩ (fun c13 => ?_) (fun c13 => ?_)
    · refine gv_run 1 true hD (pc' := 21) (lv' := [(0, .inr (.inr (some 0))), (1, .inl a1), (2, .inl a2)]) (st' := [.inl a1]) (h' := gr_h I10 J) (C := (True ∧ True)) rfl ⟨trivial, trivial⟩ ?_
      refine gv_if_lt (t := 32) hD rfl rfl ⟨by exact gz_m 10 (by omega), by exact gz_m 11 (by omega)⟩ (fun c14 => ?_) (fun c14 => ?_)
      · refine gv_pick [] rfl ?_
        exact L32 I10 J hI10 FI10 FJ
      · have f15 := (gr_b_0_132 hI10)
        refine gv_run 3 true hD (pc' := 29) (lv' := [(0, .inr (.inr (some 0))), (1, .inl a1), (2, .inl a2)]) (st' := [.inl (I10 0 132), .inl a1]) (h' := gr_h I10 J) (C := (((True ∧ True) ∧ True) ∧ True)) rfl ⟨⟨⟨trivial, trivial⟩, trivial⟩, trivial⟩ ?_
        refine gv_icmp_lt (t := 34) hD rfl rfl ⟨⟨by exact gz_m 12 (by omega), by exact gz_m 13 (by omega)⟩, ⟨by exact gz_m 14 (by omega), by exact gz_m 15 (by omega)⟩⟩ (fun c16 => ?_) (fun c16 => ?_)
        · have f17 := (gr_b_80 hI10 (Int.toNat a1))
          refine gv_run 4 true hD (pc' := 40) (lv' := [(0, .inr (.inr (some 0))), (1, .inl a1), (2, .inl a2)]) (st' := [.inl (I10 80 (Int.toNat a1))]) (h' := gr_h I10 J) (C := ((((True ∧ True) ∧ True) ∧ True) ∧ (0 ≤ a1 ∧ a1 < ((1536 : Nat) : Int)))) rfl ⟨⟨⟨⟨trivial, trivial⟩, trivial⟩, trivial⟩, ⟨by exact gz_m 16 (by omega), by exact gz_m 17 (by omega)⟩⟩ ?_
          have f18 := gw_div (x := ((I10 80 (Int.toNat a1)))) (y := 24) ⟨by exact gz_m 18 (by omega), by exact gz_m 19 (by omega)⟩ ⟨by exact gz_m 20 (by omega), by exact gz_m 21 (by omega)⟩
          have f19 := (gr_b_80 hI10 (Int.toNat a1))
          refine gv_run 7 true hD (pc' := 50) (lv' := [(3, .inl ((Int32.ofInt ((I10 80 (Int.toNat a1))) / Int32.ofInt 24).toInt)), (0, .inr (.inr (some 0))), (1, .inl a1), (2, .inl a2)]) (st' := [.inl (I10 80 (Int.toNat a1))]) (h' := gr_h I10 J) (C := (((((((True ∧ True) ∧ (gz_R 24 ∧ ¬ 24 = 0)) ∧ True) ∧ True) ∧ True) ∧ True) ∧ (0 ≤ a1 ∧ a1 < ((1536 : Nat) : Int)))) rfl ⟨⟨⟨⟨⟨⟨⟨trivial, trivial⟩, ⟨⟨by exact gz_m 22 (by omega), by exact gz_m 23 (by omega)⟩, by exact gz_m 24 (by omega)⟩⟩, trivial⟩, trivial⟩, trivial⟩, trivial⟩, ⟨by exact gz_m 25 (by omega), by exact gz_m 26 (by omega)⟩⟩ ?_
          have f20 := gw_rem (x := ((I10 80 (Int.toNat a1)))) (y := 24) ⟨by exact gz_m 27 (by omega), by exact gz_m 28 (by omega)⟩ ⟨by exact gz_m 29 (by omega), by exact gz_m 30 (by omega)⟩
          have f21 := (gr_b_0_133 hI10)
          refine gv_run 7 true hD (pc' := 62) (lv' := [(4, .inl ((Int32.ofInt ((I10 80 (Int.toNat a1))) - Int32.ofInt ((I10 80 (Int.toNat a1))) / Int32.ofInt 24 * Int32.ofInt 24).toInt)), (3, .inl ((Int32.ofInt ((I10 80 (Int.toNat a1))) / Int32.ofInt 24).toInt)), (0, .inr (.inr (some 0))), (1, .inl a1), (2, .inl a2)]) (st' := [.inl (64 * (I10 0 133))]) (h' := gr_h I10 J) (C := (((((((True ∧ True) ∧ (gz_R 24 ∧ ¬ 24 = 0)) ∧ True) ∧ True) ∧ True) ∧ True) ∧ True)) rfl ⟨⟨⟨⟨⟨⟨⟨trivial, trivial⟩, ⟨⟨by exact gz_m 31 (by omega), by exact gz_m 32 (by omega)⟩, by exact gz_m 33 (by omega)⟩⟩, trivial⟩, trivial⟩, trivial⟩, trivial⟩, trivial⟩ ?_
          refine gv_run 4 true hD (pc' := 67) (lv' := [(5, .inl ((64 * (I10 0 133)) + ((Int32.ofInt ((I10 80 (Int.toNat a1))) / Int32.ofInt 24).toInt))), (4, .inl ((Int32.ofInt ((I10 80 (Int.toNat a1))) - Int32.ofInt ((I10 80 (Int.toNat a1))) / Int32.ofInt 24 * Int32.ofInt 24).toInt)), (3, .inl ((Int32.ofInt ((I10 80 (Int.toNat a1))) / Int32.ofInt 24).toInt)), (0, .inr (.inr (some 0))), (1, .inl a1), (2, .inl a2)]) (st' := [.inl a2]) (h' := gr_h I10 J) (C := ((((True ∧ True) ∧ True) ∧ True) ∧ True)) rfl ⟨⟨⟨⟨trivial, trivial⟩, trivial⟩, trivial⟩, trivial⟩ ?_
          by_cases c22 : a2 = 0
          · refine gv_tabAt hD 0 rfl ⟨by exact gz_m 34 (by omega), by exact gz_m 35 (by omega)⟩ c22 ⟨by decide, by decide⟩ rfl (t := 96) rfl ?_
            refine gv_run 1 true hD (pc' := 97) (lv' := [(5, .inl ((64 * (I10 0 133)) + ((Int32.ofInt ((I10 80 (Int.toNat a1))) / Int32.ofInt 24).toInt))), (4, .inl ((Int32.ofInt ((I10 80 (Int.toNat a1))) - Int32.ofInt ((I10 80 (Int.toNat a1))) / Int32.ofInt 24 * Int32.ofInt 24).toInt)), (3, .inl ((Int32.ofInt ((I10 80 (Int.toNat a1))) / Int32.ofInt 24).toInt)), (0, .inr (.inr (some 0))), (1, .inl a1), (2, .inl a2)]) (st' := [.inl ((Int32.ofInt ((I10 80 (Int.toNat a1))) / Int32.ofInt 24).toInt)]) (h' := gr_h I10 J) (C := (True ∧ True)) rfl ⟨trivial, trivial⟩ ?_
            exact gv_iret hD rfl ⟨I10, J, rfl, hI10, FI10, FJ, ⟨_, rfl, by exact gz_m 36 (by omega)⟩⟩
          by_cases c23 : a2 = 1
          · refine gv_tabAt hD 1 rfl ⟨by exact gz_m 37 (by omega), by exact gz_m 38 (by omega)⟩ c23 ⟨by decide, by decide⟩ rfl (t := 98) rfl ?_
            refine gv_run 1 true hD (pc' := 100) (lv' := [(5, .inl ((64 * (I10 0 133)) + ((Int32.ofInt ((I10 80 (Int.toNat a1))) / Int32.ofInt 24).toInt))), (4, .inl ((Int32.ofInt ((I10 80 (Int.toNat a1))) - Int32.ofInt ((I10 80 (Int.toNat a1))) / Int32.ofInt 24 * Int32.ofInt 24).toInt)), (3, .inl ((Int32.ofInt ((I10 80 (Int.toNat a1))) / Int32.ofInt 24).toInt)), (0, .inr (.inr (some 0))), (1, .inl a1), (2, .inl a2)]) (st' := [.inl ((Int32.ofInt ((I10 80 (Int.toNat a1))) - Int32.ofInt ((I10 80 (Int.toNat a1))) / Int32.ofInt 24 * Int32.ofInt 24).toInt)]) (h' := gr_h I10 J) (C := (True ∧ True)) rfl ⟨trivial, trivial⟩ ?_
            exact gv_iret hD rfl ⟨I10, J, rfl, hI10, FI10, FJ, ⟨_, rfl, by exact gz_m 39 (by omega)⟩⟩
          by_cases c24 : a2 = 2
          · refine gv_tabAt hD 2 rfl ⟨by exact gz_m 40 (by omega), by exact gz_m 41 (by omega)⟩ c24 ⟨by decide, by decide⟩ rfl (t := 101) rfl ?_
            have f25 := (gr_b_36 hI10 (Int.toNat (((64 * (I10 0 133)) + ((Int32.ofInt ((I10 80 (Int.toNat a1))) / Int32.ofInt 24).toInt)))))
            refine gv_run 4 true hD (pc' := 108) (lv' := [(5, .inl ((64 * (I10 0 133)) + ((Int32.ofInt ((I10 80 (Int.toNat a1))) / Int32.ofInt 24).toInt))), (4, .inl ((Int32.ofInt ((I10 80 (Int.toNat a1))) - Int32.ofInt ((I10 80 (Int.toNat a1))) / Int32.ofInt 24 * Int32.ofInt 24).toInt)), (3, .inl ((Int32.ofInt ((I10 80 (Int.toNat a1))) / Int32.ofInt 24).toInt)), (0, .inr (.inr (some 0))), (1, .inl a1), (2, .inl a2)]) (st' := [.inl (I10 36 (Int.toNat (((64 * (I10 0 133)) + ((Int32.ofInt ((I10 80 (Int.toNat a1))) / Int32.ofInt 24).toInt)))))]) (h' := gr_h I10 J) (C := ((((True ∧ True) ∧ True) ∧ True) ∧ (0 ≤ (((64 * (I10 0 133)) + ((Int32.ofInt ((I10 80 (Int.toNat a1))) / Int32.ofInt 24).toInt))) ∧ (((64 * (I10 0 133)) + ((Int32.ofInt ((I10 80 (Int.toNat a1))) / Int32.ofInt 24).toInt))) < ((512 : Nat) : Int)))) rfl ⟨⟨⟨⟨trivial, trivial⟩, trivial⟩, trivial⟩, ⟨by exact gz_m 42 (by omega), by exact gz_m 43 (by omega)⟩⟩ ?_
            exact gv_iret hD rfl ⟨I10, J, rfl, hI10, FI10, FJ, ⟨_, rfl, by exact gz_m 44 (by omega)⟩⟩
          by_cases c26 : a2 = 3
          · refine gv_tabAt hD 3 rfl ⟨by exact gz_m 45 (by omega), by exact gz_m 46 (by omega)⟩ c26 ⟨by decide, by decide⟩ rfl (t := 109) rfl ?_
            have f27 := (gr_b_36 hI10 (Int.toNat (((64 * (I10 0 133)) + ((Int32.ofInt ((I10 80 (Int.toNat a1))) / Int32.ofInt 24).toInt)))))
            refine gv_run 6 true hD (pc' := 120) (lv' := [(5, .inl ((64 * (I10 0 133)) + ((Int32.ofInt ((I10 80 (Int.toNat a1))) / Int32.ofInt 24).toInt))), (4, .inl ((Int32.ofInt ((I10 80 (Int.toNat a1))) - Int32.ofInt ((I10 80 (Int.toNat a1))) / Int32.ofInt 24 * Int32.ofInt 24).toInt)), (3, .inl ((Int32.ofInt ((I10 80 (Int.toNat a1))) / Int32.ofInt 24).toInt)), (0, .inr (.inr (some 0))), (1, .inl a1), (2, .inl a2)]) (st' := [.inl (I10 36 (Int.toNat (((64 * (I10 0 133)) + ((Int32.ofInt ((I10 80 (Int.toNat a1))) / Int32.ofInt 24).toInt))))), .inr (.inr (some 9))]) (h' := gr_h I10 J) (C := ((((((True ∧ True) ∧ True) ∧ True) ∧ True) ∧ True) ∧ (0 ≤ (((64 * (I10 0 133)) + ((Int32.ofInt ((I10 80 (Int.toNat a1))) / Int32.ofInt 24).toInt))) ∧ (((64 * (I10 0 133)) + ((Int32.ofInt ((I10 80 (Int.toNat a1))) / Int32.ofInt 24).toInt))) < ((512 : Nat) : Int)))) rfl ⟨⟨⟨⟨⟨⟨trivial, trivial⟩, trivial⟩, trivial⟩, trivial⟩, trivial⟩, ⟨by exact gz_m 47 (by omega), by exact gz_m 48 (by omega)⟩⟩ ?_
            have f28 := (gr_b_9 hI10 (Int.toNat ((I10 36 (Int.toNat (((64 * (I10 0 133)) + ((Int32.ofInt ((I10 80 (Int.toNat a1))) / Int32.ofInt 24).toInt))))))))
            refine gv_run 1 true hD (pc' := 121) (lv' := [(5, .inl ((64 * (I10 0 133)) + ((Int32.ofInt ((I10 80 (Int.toNat a1))) / Int32.ofInt 24).toInt))), (4, .inl ((Int32.ofInt ((I10 80 (Int.toNat a1))) - Int32.ofInt ((I10 80 (Int.toNat a1))) / Int32.ofInt 24 * Int32.ofInt 24).toInt)), (3, .inl ((Int32.ofInt ((I10 80 (Int.toNat a1))) / Int32.ofInt 24).toInt)), (0, .inr (.inr (some 0))), (1, .inl a1), (2, .inl a2)]) (st' := [.inl (I10 9 (Int.toNat ((I10 36 (Int.toNat (((64 * (I10 0 133)) + ((Int32.ofInt ((I10 80 (Int.toNat a1))) / Int32.ofInt 24).toInt))))))))]) (h' := gr_h I10 J) (C := (True ∧ (0 ≤ ((I10 36 (Int.toNat (((64 * (I10 0 133)) + ((Int32.ofInt ((I10 80 (Int.toNat a1))) / Int32.ofInt 24).toInt)))))) ∧ ((I10 36 (Int.toNat (((64 * (I10 0 133)) + ((Int32.ofInt ((I10 80 (Int.toNat a1))) / Int32.ofInt 24).toInt)))))) < ((96 : Nat) : Int)))) rfl ⟨trivial, ⟨by exact gz_m 49 (by omega), by exact gz_m 50 (by omega)⟩⟩ ?_
            have f29 := (gr_b_40 hI10 (Int.toNat (((64 * (I10 0 133)) + ((Int32.ofInt ((I10 80 (Int.toNat a1))) / Int32.ofInt 24).toInt)))))
            refine gv_run 4 true hD (pc' := 128) (lv' := [(5, .inl ((64 * (I10 0 133)) + ((Int32.ofInt ((I10 80 (Int.toNat a1))) / Int32.ofInt 24).toInt))), (4, .inl ((Int32.ofInt ((I10 80 (Int.toNat a1))) - Int32.ofInt ((I10 80 (Int.toNat a1))) / Int32.ofInt 24 * Int32.ofInt 24).toInt)), (3, .inl ((Int32.ofInt ((I10 80 (Int.toNat a1))) / Int32.ofInt 24).toInt)), (0, .inr (.inr (some 0))), (1, .inl a1), (2, .inl a2)]) (st' := [.inl (I10 40 (Int.toNat (((64 * (I10 0 133)) + ((Int32.ofInt ((I10 80 (Int.toNat a1))) / Int32.ofInt 24).toInt))))), .inl (I10 9 (Int.toNat ((I10 36 (Int.toNat (((64 * (I10 0 133)) + ((Int32.ofInt ((I10 80 (Int.toNat a1))) / Int32.ofInt 24).toInt))))))))]) (h' := gr_h I10 J) (C := ((((True ∧ True) ∧ True) ∧ True) ∧ (0 ≤ (((64 * (I10 0 133)) + ((Int32.ofInt ((I10 80 (Int.toNat a1))) / Int32.ofInt 24).toInt))) ∧ (((64 * (I10 0 133)) + ((Int32.ofInt ((I10 80 (Int.toNat a1))) / Int32.ofInt 24).toInt))) < ((512 : Nat) : Int)))) rfl ⟨⟨⟨⟨trivial, trivial⟩, trivial⟩, trivial⟩, ⟨by exact gz_m 51 (by omega), by exact gz_m 52 (by omega)⟩⟩ ?_
            refine gv_run 1 true hD (pc' := 129) (lv' := [(5, .inl ((64 * (I10 0 133)) + ((Int32.ofInt ((I10 80 (Int.toNat a1))) / Int32.ofInt 24).toInt))), (4, .inl ((Int32.ofInt ((I10 80 (Int.toNat a1))) - Int32.ofInt ((I10 80 (Int.toNat a1))) / Int32.ofInt 24 * Int32.ofInt 24).toInt)), (3, .inl ((Int32.ofInt ((I10 80 (Int.toNat a1))) / Int32.ofInt 24).toInt)), (0, .inr (.inr (some 0))), (1, .inl a1), (2, .inl a2)]) (st' := [.inl ((I10 9 (Int.toNat ((I10 36 (Int.toNat (((64 * (I10 0 133)) + ((Int32.ofInt ((I10 80 (Int.toNat a1))) / Int32.ofInt 24).toInt)))))))) + (I10 40 (Int.toNat (((64 * (I10 0 133)) + ((Int32.ofInt ((I10 80 (Int.toNat a1))) / Int32.ofInt 24).toInt))))))]) (h' := gr_h I10 J) (C := (True ∧ True)) rfl ⟨trivial, trivial⟩ ?_
            exact gv_iret hD rfl ⟨I10, J, rfl, hI10, FI10, FJ, ⟨_, rfl, by exact gz_m 53 (by omega)⟩⟩
          refine gv_tabOut hD rfl ⟨by exact gz_m 54 (by omega), by exact gz_m 55 (by omega)⟩ (by exact gz_m 56 (by omega)) (t := 130) rfl ?_
          have f30 := (gr_b_0_133 hI10)
          refine gv_run 5 true hD (pc' := 138) (lv' := [(5, .inl ((64 * (I10 0 133)) + ((Int32.ofInt ((I10 80 (Int.toNat a1))) / Int32.ofInt 24).toInt))), (4, .inl ((Int32.ofInt ((I10 80 (Int.toNat a1))) - Int32.ofInt ((I10 80 (Int.toNat a1))) / Int32.ofInt 24 * Int32.ofInt 24).toInt)), (3, .inl ((Int32.ofInt ((I10 80 (Int.toNat a1))) / Int32.ofInt 24).toInt)), (0, .inr (.inr (some 0))), (1, .inl a1), (2, .inl a2)]) (st' := [.inl ((Int32.ofInt ((I10 80 (Int.toNat a1))) - Int32.ofInt ((I10 80 (Int.toNat a1))) / Int32.ofInt 24 * Int32.ofInt 24).toInt), .inl ((Int32.ofInt ((I10 80 (Int.toNat a1))) / Int32.ofInt 24).toInt), .inl (I10 0 133), .inr (.inr (some 0))]) (h' := gr_h I10 J) (C := (((((True ∧ True) ∧ True) ∧ True) ∧ True) ∧ True)) rfl ⟨⟨⟨⟨⟨trivial, trivial⟩, trivial⟩, trivial⟩, trivial⟩, trivial⟩ ?_
          obtain ⟨r31, h31, E31, P31⟩ := r_valuesOf (ws0 := ws0) (tb := tb) hws htb ext I10 J hI10 (I10 0 133) (((Int32.ofInt ((I10 80 (Int.toNat a1))) / Int32.ofInt 24).toInt)) (((Int32.ofInt ((I10 80 (Int.toNat a1))) - Int32.ofInt ((I10 80 (Int.toNat a1))) / Int32.ofInt 24 * Int32.ofInt 24).toInt)) ⟨by exact gz_m 57 (by omega), by exact gz_m 58 (by omega)⟩ ⟨by exact gz_m 59 (by omega), by exact gz_m 60 (by omega)⟩ ⟨by exact gz_m 61 (by omega), by exact gz_m 62 (by omega)⟩ 
          obtain ⟨rfl, ⟨z31, rfl, q31⟩⟩ := P31
          refine gv_callV hD rfl (As := [.inl (I10 0 133), .inl ((Int32.ofInt ((I10 80 (Int.toNat a1))) / Int32.ofInt 24).toInt), .inl ((Int32.ofInt ((I10 80 (Int.toNat a1))) - Int32.ofInt ((I10 80 (Int.toNat a1))) / Int32.ofInt 24 * Int32.ofInt 24).toInt)]) (st := []) rfl (by decide) rfl rfl (gr_lV hws rfl) (Nat.le_of_ble_eq_true rfl) (gz_Ev_mono (d := 1) (by decide) E31) ?_
          show gv_X _ _ (141, [(5, .inl ((64 * (I10 0 133)) + ((Int32.ofInt ((I10 80 (Int.toNat a1))) / Int32.ofInt 24).toInt))), (4, .inl ((Int32.ofInt ((I10 80 (Int.toNat a1))) - Int32.ofInt ((I10 80 (Int.toNat a1))) / Int32.ofInt 24 * Int32.ofInt 24).toInt)), (3, .inl ((Int32.ofInt ((I10 80 (Int.toNat a1))) / Int32.ofInt 24).toInt)), (0, .inr (.inr (some 0))), (1, .inl a1), (2, .inl a2)], [.inl z31], gr_sh ++ ext, gr_h I10 J)
          have f32 := gw_shr (x := z31) (y := ((3 * (a2 - 4)))) ⟨by exact gz_m 63 (by omega), by exact gz_m 64 (by omega)⟩
          refine gv_run 7 true hD (pc' := 149) (lv' := [(5, .inl ((64 * (I10 0 133)) + ((Int32.ofInt ((I10 80 (Int.toNat a1))) / Int32.ofInt 24).toInt))), (4, .inl ((Int32.ofInt ((I10 80 (Int.toNat a1))) - Int32.ofInt ((I10 80 (Int.toNat a1))) / Int32.ofInt 24 * Int32.ofInt 24).toInt)), (3, .inl ((Int32.ofInt ((I10 80 (Int.toNat a1))) / Int32.ofInt 24).toInt)), (0, .inr (.inr (some 0))), (1, .inl a1), (2, .inl a2)]) (st' := [.inl 7, .inl ((Int32.ofInt z31 >>> (Int32.ofInt ((3 * (a2 - 4))) &&& 31)).toInt)]) (h' := gr_h I10 J) (C := (((((((True ∧ True) ∧ True) ∧ True) ∧ True) ∧ True) ∧ True) ∧ True)) rfl ⟨⟨⟨⟨⟨⟨⟨trivial, trivial⟩, trivial⟩, trivial⟩, trivial⟩, trivial⟩, trivial⟩, trivial⟩ ?_
          have f33 := gw_and (x := (((Int32.ofInt z31 >>> (Int32.ofInt ((3 * (a2 - 4))) &&& 31)).toInt))) (y := 7) ⟨by exact gz_m 65 (by omega), by exact gz_m 66 (by omega)⟩
          refine gv_run 1 true hD (pc' := 150) (lv' := [(5, .inl ((64 * (I10 0 133)) + ((Int32.ofInt ((I10 80 (Int.toNat a1))) / Int32.ofInt 24).toInt))), (4, .inl ((Int32.ofInt ((I10 80 (Int.toNat a1))) - Int32.ofInt ((I10 80 (Int.toNat a1))) / Int32.ofInt 24 * Int32.ofInt 24).toInt)), (3, .inl ((Int32.ofInt ((I10 80 (Int.toNat a1))) / Int32.ofInt 24).toInt)), (0, .inr (.inr (some 0))), (1, .inl a1), (2, .inl a2)]) (st' := [.inl ((Int32.ofInt (((Int32.ofInt z31 >>> (Int32.ofInt ((3 * (a2 - 4))) &&& 31)).toInt)) &&& Int32.ofInt 7).toInt)]) (h' := gr_h I10 J) (C := (True ∧ True)) rfl ⟨trivial, trivial⟩ ?_
          exact gv_iret hD rfl ⟨I10, J, rfl, hI10, FI10, FJ, ⟨_, rfl, by exact gz_m 67 (by omega)⟩⟩
        · refine gv_pick [] rfl ?_
          exact L32 I10 J hI10 FI10 FJ
    · refine gv_pick [0] rfl ?_
      exact L15 I10 J hI10 FI10 FJ
set_option maxHeartbeats 8000000 in
set_option maxRecDepth 100000 in
theorem r_cell {ws0 : List Cond} {tb : String → gz_T} (hws : ∀ w ∈ gr_ws, w ∈ ws0) (htb : tb RX13 = gr_T) (ext : gz_Sh) (I : gr_I) (J : gr_J) (hI : gr_Inv I) (a1 : Int) (a2 : Int) (a3 : Int) (ha1 : (-2147483648) ≤ a1 ∧ a1 ≤ 2147483647) (ha2 : (-2147483648) ≤ a2 ∧ a2 ≤ 2147483647) (ha3 : (-2147483648) ≤ a3 ∧ a3 ≤ 2147483647)  : ∃ r h', gz_Ev ws0 tb 6 (yX13_cell, cX13_cell, 5, (some .int)) [.inr (.inr (some 0)), .inl a1, .inl a2, .inl a3] (gr_sh ++ ext) (gr_h I J) r (gr_sh ++ ext) h' 0 0 ∧ (∃ (I' : gr_I) (J' : gr_J), h' = gr_h I' J' ∧ gr_Inv I' ∧ gr_fr [0, 70, 126] [58, 76, 77] I I' ∧ gr_fj [0, 70, 126] [58, 76, 77] J J' ∧ (∃ z : Int, r = some (.inl z) ∧ (-1) ≤ z ∧ z ≤ 24)) := by
  have FI : gr_fr [0, 70, 126] [58, 76, 77] I I := fun _ _ _ => rfl
  have FJ : gr_fj [0, 70, 126] [58, 76, 77] J J := fun _ _ _ => rfl
  have hD : gv_D (gr_E ws0 tb 5 (yX13_cell, cX13_cell, 5, (some .int)) kX13_cell) := gq_of oX13_cell
  refine gr_ev (d := 5) (l := kX13_cell) (Po := fun r h' => (∃ (I' : gr_I) (J' : gr_J), h' = gr_h I' J' ∧ gr_Inv I' ∧ gr_fr [0, 70, 126] [58, 76, 77] I I' ∧ gr_fj [0, 70, 126] [58, 76, 77] J J' ∧ (∃ z : Int, r = some (.inl z) ∧ (-1) ≤ z ∧ z ≤ 24))) htb rfl (Nat.le_of_ble_eq_true rfl) ?_
  have L38 : ∀ (I1 : gr_I) (J2 : gr_J) , gr_Inv I1 → gr_fr [0, 70, 126] [58, 76, 77] I I1 → gr_fj [0, 70, 126] [58, 76, 77] J J2 → gv_X (gr_E ws0 tb 5 (yX13_cell, cX13_cell, 5, (some .int)) kX13_cell) (gv_Q cX13_cell (some .int) (gr_sh ++ ext) (fun r h' => (∃ (I' : gr_I) (J' : gr_J), h' = gr_h I' J' ∧ gr_Inv I' ∧ gr_fr [0, 70, 126] [58, 76, 77] I I' ∧ gr_fj [0, 70, 126] [58, 76, 77] J J' ∧ (∃ z : Int, r = some (.inl z) ∧ (-1) ≤ z ∧ z ≤ 24)))) (38, [(0, .inr (.inr (some 0)))], [], gr_sh ++ ext, gr_h I1 J2) := by
    intro I1 J2 hI1 FI1 FJ2
    refine gv_run 1 true hD (pc' := 39) (lv' := [(0, .inr (.inr (some 0)))]) (st' := [.inr (.inr (some 0))]) (h' := gr_h I1 J2) (C := (True ∧ True)) rfl ⟨trivial, trivial⟩ ?_
    obtain ⟨r4, h4, E4, P4⟩ := r_bad (ws0 := ws0) (tb := tb) hws htb ext I1 J2 hI1   
    obtain ⟨I5, J6, rfl, hI5, g4, k4, ⟨z4, rfl, q4⟩⟩ := P4
    replace q4 := gz_hi q4
    have FI5 := gr_frt FI1 g4 rfl rfl
    have FJ6 := gr_fjt FJ2 k4 rfl rfl
    refine gv_callV hD rfl (As := []) (st := []) rfl (by decide) rfl rfl (gr_lV hws rfl) (Nat.le_of_ble_eq_true rfl) (gz_Ev_mono (d := 1) (by decide) E4) ?_
    show gv_X _ _ (42, [(0, .inr (.inr (some 0)))], [.inl z4], gr_sh ++ ext, gr_h I5 J6)
    exact gv_iret hD rfl ⟨I5, J6, rfl, hI5, FI5, FJ6, ⟨_, rfl, by (and_intros; (have o1 := gz_sh q4; omega); (have o1 := gz_sh q4; omega))⟩⟩
  have L66 : ∀ (I7 : gr_I) (J8 : gr_J) (v4_9 : Int), gr_Inv I7 → gr_fr [0, 70, 126] [58, 76, 77] I I7 → gr_fj [0, 70, 126] [58, 76, 77] J J8 → (((-1) ≤ v4_9 ∧ v4_9 ≤ 24)) → gv_X (gr_E ws0 tb 5 (yX13_cell, cX13_cell, 5, (some .int)) kX13_cell) (gv_Q cX13_cell (some .int) (gr_sh ++ ext) (fun r h' => (∃ (I' : gr_I) (J' : gr_J), h' = gr_h I' J' ∧ gr_Inv I' ∧ gr_fr [0, 70, 126] [58, 76, 77] I I' ∧ gr_fj [0, 70, 126] [58, 76, 77] J J' ∧ (∃ z : Int, r = some (.inl z) ∧ (-1) ≤ z ∧ z ≤ 24)))) (66, [(4, .inl v4_9)], [], gr_sh ++ ext, gr_h I7 J8) := by
    intro I7 J8 v4_9 hI7 FI7 FJ8 m_9
    have hv4_9 := m_9
    refine gv_run 1 true hD (pc' := 68) (lv' := [(4, .inl v4_9)]) (st' := [.inl v4_9]) (h' := gr_h I7 J8) (C := (True ∧ True)) rfl ⟨trivial, trivial⟩ ?_
    exact gv_iret hD rfl ⟨I7, J8, rfl, hI7, FI7, FJ8, ⟨_, rfl, by (and_intros <;> omega)⟩⟩
  refine gv_run 2 true hD (pc' := 2) (lv' := [(0, .inr (.inr (some 0))), (1, .inl a1), (2, .inl a2), (3, .inl a3)]) (st' := [.inl a1, .inr (.inr (some 0))]) (h' := gr_h I J) (C := ((True ∧ True) ∧ True)) rfl ⟨⟨trivial, trivial⟩, trivial⟩ ?_
  obtain ⟨r10, h10, E10, P10⟩ := r_noTongue (ws0 := ws0) (tb := tb) hws htb ext I J hI a1 ⟨by omega, by omega⟩ 
  obtain ⟨I11, J12, rfl, hI11, g10, k10, ⟨z10, rfl, q10⟩⟩ := P10
  replace q10 := gz_hi q10
  have FI11 := gr_frt FI g10 rfl rfl
  have FJ12 := gr_fjt FJ k10 rfl rfl
  refine gv_callV hD rfl (As := [.inl a1]) (st := []) rfl (by decide) rfl rfl (gr_lV hws rfl) (Nat.le_of_ble_eq_true rfl) (gz_Ev_mono (d := 1) (by decide) E10) ?_
  show gv_X _ _ (5, [(0, .inr (.inr (some 0))), (1, .inl a1), (2, .inl a2), (3, .inl a3)], [.inl z10], gr_sh ++ ext, gr_h I11 J12)
  refine gv_if_eq (t := 10) hD rfl rfl ⟨by (have o1 := gz_sh q10; omega), by (have o1 := gz_sh q10; omega)⟩ (fun c13 => ?_) (fun c13 => ?_)
  · refine gv_run 1 true hD (pc' := 11) (lv' := [(0, .inr (.inr (some 0))), (1, .inl a1), (2, .inl a2), (3, .inl a3)]) (st' := [.inl a2]) (h' := gr_h I11 J12) (C := (True ∧ True)) rfl ⟨trivial, trivial⟩ ?_
    refine gv_if_lt (t := 38) hD rfl rfl ⟨by omega, by omega⟩ (fun c14 => ?_) (fun c14 => ?_)
    · refine gv_pick [0] rfl ?_
      exact L38 I11 J12 hI11 FI11 FJ12
    · have f15 := gz_hi ((gr_b_18 hI11 (Int.toNat a1)))
      refine gv_run 5 true hD (pc' := 21) (lv' := [(0, .inr (.inr (some 0))), (1, .inl a1), (2, .inl a2), (3, .inl a3)]) (st' := [.inl (I11 18 (Int.toNat a1)), .inl a2]) (h' := gr_h I11 J12) (C := (((((True ∧ True) ∧ True) ∧ True) ∧ True) ∧ (0 ≤ a1 ∧ a1 < ((8 : Nat) : Int)))) rfl ⟨⟨⟨⟨⟨trivial, trivial⟩, trivial⟩, trivial⟩, trivial⟩, ⟨by (have o1 := gz_sh q10; omega), by (have o1 := gz_sh q10; omega)⟩⟩ ?_
      refine gv_icmp_ge (t := 38) hD rfl rfl ⟨⟨by omega, by omega⟩, ⟨by (have o1 := gz_sh f15; omega), by (have o1 := gz_sh f15; omega)⟩⟩ (fun c16 => ?_) (fun c16 => ?_)
      · refine gv_pick [0] rfl ?_
        exact L38 I11 J12 hI11 FI11 FJ12
      · refine gv_run 1 true hD (pc' := 25) (lv' := [(0, .inr (.inr (some 0))), (1, .inl a1), (2, .inl a2), (3, .inl a3)]) (st' := [.inl a3]) (h' := gr_h I11 J12) (C := (True ∧ True)) rfl ⟨trivial, trivial⟩ ?_
        refine gv_if_lt (t := 38) hD rfl rfl ⟨by omega, by omega⟩ (fun c17 => ?_) (fun c17 => ?_)
        · refine gv_pick [0] rfl ?_
          exact L38 I11 J12 hI11 FI11 FJ12
        · refine gv_run 4 true hD (pc' := 32) (lv' := [(0, .inr (.inr (some 0))), (1, .inl a1), (2, .inl a2), (3, .inl a3)]) (st' := [.inl a2, .inl a1, .inr (.inr (some 0)), .inl a3]) (h' := gr_h I11 J12) (C := ((((True ∧ True) ∧ True) ∧ True) ∧ True)) rfl ⟨⟨⟨⟨trivial, trivial⟩, trivial⟩, trivial⟩, trivial⟩ ?_
          obtain ⟨r18, h18, E18, P18⟩ := r_cellsOf (ws0 := ws0) (tb := tb) hws htb ext I11 J12 hI11 a1 a2 ⟨by (have o1 := gz_sh q10; omega), by (have o1 := gz_sh q10; omega)⟩ ⟨by omega, by (have o1 := gz_sh f15; omega)⟩ 
          obtain ⟨rfl, ⟨z18, rfl, q18⟩⟩ := P18
          replace q18 := gz_hi q18
          refine gv_callV hD rfl (As := [.inl a1, .inl a2]) (st := [.inl a3]) rfl (by decide) rfl rfl (gr_lV hws rfl) (Nat.le_of_ble_eq_true rfl) (gz_Ev_mono (d := 1) (by decide) E18) ?_
          show gv_X _ _ (35, [(0, .inr (.inr (some 0))), (1, .inl a1), (2, .inl a2), (3, .inl a3)], [.inl z18, .inl a3], gr_sh ++ ext, gr_h I11 J12)
          refine gv_icmp_lt (t := 43) hD rfl rfl ⟨⟨by omega, by omega⟩, ⟨by (have o1 := gz_sh q18; omega), by (have o1 := gz_sh q18; omega)⟩⟩ (fun c19 => ?_) (fun c19 => ?_)
          · refine gv_run 3 true hD (pc' := 48) (lv' := [(0, .inr (.inr (some 0))), (1, .inl a1), (2, .inl a2), (3, .inl a3)]) (st' := []) (h' := gz_up (gr_h I11 J12) 0 70 (.inl 0)) (C := (((True ∧ True) ∧ True) ∧ True)) rfl ⟨⟨⟨trivial, trivial⟩, trivial⟩, trivial⟩ ?_
            refine gr_st hI11 FI11 rfl rfl ⟨⟨by show 0 ≤ _; omega, by show _ ≤ 1000; omega⟩, trivial⟩ (fun I20 hI20 FI20 q21 p21 => ?_)
            refine gv_run 4 true hD (pc' := 52) (lv' := [(0, .inr (.inr (some 0))), (1, .inl a1), (2, .inl a2), (3, .inl a3)]) (st' := [.inl a3, .inl a2, .inl a1, .inr (.inr (some 0))]) (h' := gr_h I20 J12) (C := ((((True ∧ True) ∧ True) ∧ True) ∧ True)) rfl ⟨⟨⟨⟨trivial, trivial⟩, trivial⟩, trivial⟩, trivial⟩ ?_
            obtain ⟨r22, h22, E22, P22⟩ := r_joined (ws0 := ws0) (tb := tb) hws htb ext I20 J12 hI20 a1 a2 a3 ⟨by (have o1 := gz_sh q10; omega), by (have o1 := gz_sh q10; omega)⟩ ⟨by omega, by (have o1 := gz_sh f15; omega)⟩ ⟨by omega, by (have o1 := gz_sh q18; omega)⟩ 
            obtain ⟨I23, J24, rfl, hI23, g22, k22, ⟨z22, rfl, q22⟩⟩ := P22
            replace q22 := gz_hi q22
            have FI23 := gr_frt FI20 g22 rfl rfl
            have FJ24 := gr_fjt FJ12 k22 rfl rfl
            refine gv_callV hD rfl (As := [.inl a1, .inl a2, .inl a3]) (st := []) rfl (by decide) rfl rfl (gr_lV hws rfl) (Nat.le_of_ble_eq_true rfl) (gz_Ev_mono (d := 5) (by decide) E22) ?_
            show gv_X _ _ (55, [(0, .inr (.inr (some 0))), (1, .inl a1), (2, .inl a2), (3, .inl a3)], [.inl z22], gr_sh ++ ext, gr_h I23 J24)
            refine gv_run 2 true hD (pc' := 59) (lv' := [(4, .inl z22), (0, .inr (.inr (some 0))), (1, .inl a1), (2, .inl a2), (3, .inl a3)]) (st' := [.inl z22]) (h' := gr_h I23 J24) (C := ((True ∧ True) ∧ True)) rfl ⟨⟨trivial, trivial⟩, trivial⟩ ?_
            refine gv_if_lt (t := 66) hD rfl rfl ⟨by (have o1 := gz_sh q22; omega), by (have o1 := gz_sh q22; omega)⟩ (fun c25 => ?_) (fun c25 => ?_)
            · refine gv_pick [0] rfl ?_
              exact L66 I23 J24 z22 hI23 FI23 FJ24 (by (and_intros; (have o1 := gz_sh q22; omega); (have o1 := gz_sh q22; omega)))
            · refine gv_run 1 true hD (pc' := 63) (lv' := [(4, .inl z22), (0, .inr (.inr (some 0))), (1, .inl a1), (2, .inl a2), (3, .inl a3)]) (st' := [.inr (.inr (some 0))]) (h' := gr_h I23 J24) (C := (True ∧ True)) rfl ⟨trivial, trivial⟩ ?_
              obtain ⟨r26, h26, E26, P26⟩ := r_outBuf (ws0 := ws0) (tb := tb) hws htb ext I23 J24 hI23   
              obtain ⟨I27, J28, rfl, hI27, g26, k26, rfl⟩ := P26
              have FI27 := gr_frt FI23 g26 rfl rfl
              have FJ28 := gr_fjt FJ24 k26 rfl rfl
              refine gv_callV hD rfl (As := []) (st := []) rfl (by decide) rfl rfl (gr_lV hws rfl) (Nat.le_of_ble_eq_true rfl) (gz_Ev_mono (d := 2) (by decide) E26) ?_
              show gv_X _ _ (66, [(4, .inl z22), (0, .inr (.inr (some 0))), (1, .inl a1), (2, .inl a2), (3, .inl a3)], [], gr_sh ++ ext, gr_h I27 J28)
              refine gv_pick [0] rfl ?_
              exact L66 I27 J28 z22 hI27 FI27 FJ28 (by (and_intros; (have o1 := gz_sh q22; omega); (have o1 := gz_sh q22; omega)))
          · refine gv_pick [0] rfl ?_
            exact L38 I11 J12 hI11 FI11 FJ12
  · refine gv_run 1 true hD (pc' := 9) (lv' := [(0, .inr (.inr (some 0))), (1, .inl a1), (2, .inl a2), (3, .inl a3)]) (st' := [.inl 0]) (h' := gr_h I11 J12) (C := (True ∧ True)) rfl ⟨trivial, trivial⟩ ?_
    exact gv_iret hD rfl ⟨I11, J12, rfl, hI11, FI11, FJ12, ⟨_, rfl, by (and_intros <;> omega)⟩⟩
set_option maxHeartbeats 8000000 in
set_option maxRecDepth 100000 in
theorem r_guessed {ws0 : List Cond} {tb : String → gz_T} (hws : ∀ w ∈ gr_ws, w ∈ ws0) (htb : tb RX13 = gr_T) (ext : gz_Sh) (I : gr_I) (J : gr_J) (hI : gr_Inv I) (a1 : Int) (a2 : Int) (ha1 : (-2147483648) ≤ a1 ∧ a1 ≤ 2147483647) (ha2 : (-2147483648) ≤ a2 ∧ a2 ≤ 2147483647)  : ∃ r h', gz_Ev ws0 tb 2 (yX13_guessed, cX13_guessed, 3, (some .int)) [.inr (.inr (some 0)), .inl a1, .inl a2] (gr_sh ++ ext) (gr_h I J) r (gr_sh ++ ext) h' 0 0 ∧ (∃ (I' : gr_I) (J' : gr_J), h' = gr_h I' J' ∧ gr_Inv I' ∧ gr_fr [0] [] I I' ∧ gr_fj [0] [] J J' ∧ (∃ z : Int, r = some (.inl z) ∧ (-1) ≤ z ∧ z ≤ 40000)) := by
  have FI : gr_fr [0] [] I I := fun _ _ _ => rfl
  have FJ : gr_fj [0] [] J J := fun _ _ _ => rfl
  have hD : gv_D (gr_E ws0 tb 1 (yX13_guessed, cX13_guessed, 3, (some .int)) kX13_guessed) := gq_of oX13_guessed
  refine gr_ev (d := 1) (l := kX13_guessed) (Po := fun r h' => (∃ (I' : gr_I) (J' : gr_J), h' = gr_h I' J' ∧ gr_Inv I' ∧ gr_fr [0] [] I I' ∧ gr_fj [0] [] J J' ∧ (∃ z : Int, r = some (.inl z) ∧ (-1) ≤ z ∧ z ≤ 40000))) htb rfl (Nat.le_of_ble_eq_true rfl) ?_
  have L14 : ∀ (I1 : gr_I) (J2 : gr_J) , gr_Inv I1 → gr_fr [0] [] I I1 → gr_fj [0] [] J J2 → gv_X (gr_E ws0 tb 1 (yX13_guessed, cX13_guessed, 3, (some .int)) kX13_guessed) (gv_Q cX13_guessed (some .int) (gr_sh ++ ext) (fun r h' => (∃ (I' : gr_I) (J' : gr_J), h' = gr_h I' J' ∧ gr_Inv I' ∧ gr_fr [0] [] I I' ∧ gr_fj [0] [] J J' ∧ (∃ z : Int, r = some (.inl z) ∧ (-1) ≤ z ∧ z ≤ 40000)))) (14, [(0, .inr (.inr (some 0)))], [], gr_sh ++ ext, gr_h I1 J2) := by
    intro I1 J2 hI1 FI1 FJ2
    refine gv_run 1 true hD (pc' := 15) (lv' := [(0, .inr (.inr (some 0)))]) (st' := [.inr (.inr (some 0))]) (h' := gr_h I1 J2) (C := (True ∧ True)) rfl ⟨trivial, trivial⟩ ?_
    obtain ⟨r4, h4, E4, P4⟩ := r_bad (ws0 := ws0) (tb := tb) hws htb ext I1 J2 hI1   
    obtain ⟨I5, J6, rfl, hI5, g4, k4, ⟨z4, rfl, q4⟩⟩ := P4
    have FI5 := gr_frt FI1 g4 rfl rfl
    have FJ6 := gr_fjt FJ2 k4 rfl rfl
    refine gv_callV hD rfl (As := []) (st := []) rfl (by decide) rfl rfl (gr_lV hws rfl) (Nat.le_of_ble_eq_true rfl) (gz_Ev_mono (d := 1) (by decide) E4) ?_
    show gv_X _ _ (18, [(0, .inr (.inr (some 0)))], [.inl z4], gr_sh ++ ext, gr_h I5 J6)
    exact gv_iret hD rfl ⟨I5, J6, rfl, hI5, FI5, FJ6, ⟨_, rfl, by exact gz_m 0 (by omega)⟩⟩
  have L31 : ∀ (I7 : gr_I) (J8 : gr_J) , gr_Inv I7 → gr_fr [0] [] I I7 → gr_fj [0] [] J J8 → gv_X (gr_E ws0 tb 1 (yX13_guessed, cX13_guessed, 3, (some .int)) kX13_guessed) (gv_Q cX13_guessed (some .int) (gr_sh ++ ext) (fun r h' => (∃ (I' : gr_I) (J' : gr_J), h' = gr_h I' J' ∧ gr_Inv I' ∧ gr_fr [0] [] I I' ∧ gr_fj [0] [] J J' ∧ (∃ z : Int, r = some (.inl z) ∧ (-1) ≤ z ∧ z ≤ 40000)))) (31, [], [], gr_sh ++ ext, gr_h I7 J8) := by
    intro I7 J8 hI7 FI7 FJ8
    refine gv_run 1 true hD (pc' := 32) (lv' := []) (st' := [.inl (-1)]) (h' := gr_h I7 J8) (C := (True ∧ True)) rfl ⟨trivial, trivial⟩ ?_
    exact gv_iret hD rfl ⟨I7, J8, rfl, hI7, FI7, FJ8, ⟨_, rfl, by exact gz_m 1 (by omega)⟩⟩
  have L76 : ∀ (I10 : gr_I) (J11 : gr_J) (s0_12 : Int), gr_Inv I10 → gr_fr [0] [] I I10 → gr_fj [0] [] J J11 → ((0 ≤ s0_12 ∧ s0_12 ≤ 40000)) → gv_X (gr_E ws0 tb 1 (yX13_guessed, cX13_guessed, 3, (some .int)) kX13_guessed) (gv_Q cX13_guessed (some .int) (gr_sh ++ ext) (fun r h' => (∃ (I' : gr_I) (J' : gr_J), h' = gr_h I' J' ∧ gr_Inv I' ∧ gr_fr [0] [] I I' ∧ gr_fj [0] [] J J' ∧ (∃ z : Int, r = some (.inl z) ∧ (-1) ≤ z ∧ z ≤ 40000)))) (76, [], [.inl s0_12], gr_sh ++ ext, gr_h I10 J11) := by
    intro I10 J11 s0_12 hI10 FI10 FJ11 m_12
    have hs0_12 := m_12
    exact gv_iret hD rfl ⟨I10, J11, rfl, hI10, FI10, FJ11, ⟨_, rfl, by exact gz_m 2 (by omega)⟩⟩
  refine gv_run 3 true hD (pc' := 5) (lv' := [(0, .inr (.inr (some 0))), (1, .inl a1), (2, .inl a2)]) (st' := []) (h' := gz_up (gr_h I J) 0 0 (.inl 0)) (C := (((True ∧ True) ∧ True) ∧ True)) rfl ⟨⟨⟨trivial, trivial⟩, trivial⟩, trivial⟩ ?_
  refine gr_st hI FI rfl rfl ⟨⟨by show 0 ≤ _; exact gz_m 3 (by omega), by show _ ≤ 2; exact gz_m 4 (by omega)⟩, trivial⟩ (fun I13 hI13 FI13 q14 p14 => ?_)
  refine gv_run 1 true hD (pc' := 6) (lv' := [(0, .inr (.inr (some 0))), (1, .inl a1), (2, .inl a2)]) (st' := [.inl a2]) (h' := gr_h I13 J) (C := (True ∧ True)) rfl ⟨trivial, trivial⟩ ?_
  refine gv_if_lt (t := 14) hD rfl rfl ⟨by exact gz_m 5 (by omega), by exact gz_m 6 (by omega)⟩ (fun c15 => ?_) (fun c15 => ?_)
  · refine gv_pick [0] rfl ?_
    exact L14 I13 J hI13 FI13 FJ
  · refine gv_run 2 true hD (pc' := 11) (lv' := [(0, .inr (.inr (some 0))), (1, .inl a1), (2, .inl a2)]) (st' := [.inl 3, .inl a2]) (h' := gr_h I13 J) (C := ((True ∧ True) ∧ True)) rfl ⟨⟨trivial, trivial⟩, trivial⟩ ?_
    refine gv_icmp_le (t := 19) hD rfl rfl ⟨⟨by exact gz_m 7 (by omega), by exact gz_m 8 (by omega)⟩, ⟨by exact gz_m 9 (by omega), by exact gz_m 10 (by omega)⟩⟩ (fun c16 => ?_) (fun c16 => ?_)
    · refine gv_run 1 true hD (pc' := 20) (lv' := [(0, .inr (.inr (some 0))), (1, .inl a1), (2, .inl a2)]) (st' := [.inl a1]) (h' := gr_h I13 J) (C := (True ∧ True)) rfl ⟨trivial, trivial⟩ ?_
      refine gv_if_lt (t := 31) hD rfl rfl ⟨by exact gz_m 11 (by omega), by exact gz_m 12 (by omega)⟩ (fun c17 => ?_) (fun c17 => ?_)
      · refine gv_pick [] rfl ?_
        exact L31 I13 J hI13 FI13 FJ
      · have f18 := (gr_b_0_136 hI13)
        refine gv_run 3 true hD (pc' := 28) (lv' := [(0, .inr (.inr (some 0))), (1, .inl a1), (2, .inl a2)]) (st' := [.inl (I13 0 136), .inl a1]) (h' := gr_h I13 J) (C := (((True ∧ True) ∧ True) ∧ True)) rfl ⟨⟨⟨trivial, trivial⟩, trivial⟩, trivial⟩ ?_
        refine gv_icmp_lt (t := 33) hD rfl rfl ⟨⟨by exact gz_m 13 (by omega), by exact gz_m 14 (by omega)⟩, ⟨by exact gz_m 15 (by omega), by exact gz_m 16 (by omega)⟩⟩ (fun c19 => ?_) (fun c19 => ?_)
        · refine gv_run 1 true hD (pc' := 34) (lv' := [(0, .inr (.inr (some 0))), (1, .inl a1), (2, .inl a2)]) (st' := [.inl a2]) (h' := gr_h I13 J) (C := (True ∧ True)) rfl ⟨trivial, trivial⟩ ?_
          refine gv_if_ne (t := 46) hD rfl rfl ⟨by exact gz_m 17 (by omega), by exact gz_m 18 (by omega)⟩ (fun c20 => ?_) (fun c20 => ?_)
          · refine gv_run 2 true hD (pc' := 48) (lv' := [(0, .inr (.inr (some 0))), (1, .inl a1), (2, .inl a2)]) (st' := [.inl 1, .inl a2]) (h' := gr_h I13 J) (C := ((True ∧ True) ∧ True)) rfl ⟨⟨trivial, trivial⟩, trivial⟩ ?_
            refine gv_icmp_ne (t := 60) hD rfl rfl ⟨⟨by exact gz_m 19 (by omega), by exact gz_m 20 (by omega)⟩, ⟨by exact gz_m 21 (by omega), by exact gz_m 22 (by omega)⟩⟩ (fun c21 => ?_) (fun c21 => ?_)
            · refine gv_run 2 true hD (pc' := 62) (lv' := [(0, .inr (.inr (some 0))), (1, .inl a1), (2, .inl a2)]) (st' := [.inl 2, .inl a2]) (h' := gr_h I13 J) (C := ((True ∧ True) ∧ True)) rfl ⟨⟨trivial, trivial⟩, trivial⟩ ?_
              refine gv_icmp_ne (t := 72) hD rfl rfl ⟨⟨by exact gz_m 23 (by omega), by exact gz_m 24 (by omega)⟩, ⟨by exact gz_m 25 (by omega), by exact gz_m 26 (by omega)⟩⟩ (fun c22 => ?_) (fun c22 => ?_)
              · have f23 := (gr_b_0_138 hI13)
                refine gv_run 2 true hD (pc' := 76) (lv' := [(0, .inr (.inr (some 0))), (1, .inl a1), (2, .inl a2)]) (st' := [.inl (I13 0 138)]) (h' := gr_h I13 J) (C := ((True ∧ True) ∧ True)) rfl ⟨⟨trivial, trivial⟩, trivial⟩ ?_
                refine gv_pick [] rfl ?_
                exact L76 I13 J (I13 0 138) hI13 FI13 FJ (by exact gz_m 27 (by omega))
              · have f24 := (gr_b_0_137 hI13)
                refine gv_run 3 true hD (pc' := 76) (lv' := [(0, .inr (.inr (some 0))), (1, .inl a1), (2, .inl a2)]) (st' := [.inl (I13 0 137)]) (h' := gr_h I13 J) (C := (((True ∧ True) ∧ True) ∧ True)) rfl ⟨⟨⟨trivial, trivial⟩, trivial⟩, trivial⟩ ?_
                refine gv_pick [] rfl ?_
                exact L76 I13 J (I13 0 137) hI13 FI13 FJ (by exact gz_m 28 (by omega))
            · have f25 := (gr_b_82 hI13 (Int.toNat a1))
              refine gv_run 4 true hD (pc' := 57) (lv' := [(0, .inr (.inr (some 0))), (1, .inl a1), (2, .inl a2)]) (st' := [.inl (I13 82 (Int.toNat a1))]) (h' := gr_h I13 J) (C := ((((True ∧ True) ∧ True) ∧ True) ∧ (0 ≤ a1 ∧ a1 < ((24 : Nat) : Int)))) rfl ⟨⟨⟨⟨trivial, trivial⟩, trivial⟩, trivial⟩, ⟨by exact gz_m 29 (by omega), by exact gz_m 30 (by omega)⟩⟩ ?_
              refine gv_run 1 true hD (pc' := 76) (lv' := [(0, .inr (.inr (some 0))), (1, .inl a1), (2, .inl a2)]) (st' := [.inl (I13 82 (Int.toNat a1))]) (h' := gr_h I13 J) (C := (True ∧ True)) rfl ⟨trivial, trivial⟩ ?_
              refine gv_pick [] rfl ?_
              exact L76 I13 J ((I13 82 (Int.toNat a1))) hI13 FI13 FJ (by exact gz_m 31 (by omega))
          · have f26 := (gr_b_81 hI13 (Int.toNat a1))
            refine gv_run 4 true hD (pc' := 43) (lv' := [(0, .inr (.inr (some 0))), (1, .inl a1), (2, .inl a2)]) (st' := [.inl (I13 81 (Int.toNat a1))]) (h' := gr_h I13 J) (C := ((((True ∧ True) ∧ True) ∧ True) ∧ (0 ≤ a1 ∧ a1 < ((24 : Nat) : Int)))) rfl ⟨⟨⟨⟨trivial, trivial⟩, trivial⟩, trivial⟩, ⟨by exact gz_m 32 (by omega), by exact gz_m 33 (by omega)⟩⟩ ?_
            refine gv_run 1 true hD (pc' := 76) (lv' := [(0, .inr (.inr (some 0))), (1, .inl a1), (2, .inl a2)]) (st' := [.inl (I13 81 (Int.toNat a1))]) (h' := gr_h I13 J) (C := (True ∧ True)) rfl ⟨trivial, trivial⟩ ?_
            refine gv_pick [] rfl ?_
            exact L76 I13 J ((I13 81 (Int.toNat a1))) hI13 FI13 FJ (by exact gz_m 34 (by omega))
        · refine gv_pick [] rfl ?_
          exact L31 I13 J hI13 FI13 FJ
    · refine gv_pick [0] rfl ?_
      exact L14 I13 J hI13 FI13 FJ
set_option maxHeartbeats 8000000 in
set_option maxRecDepth 100000 in
theorem r_compare {ws0 : List Cond} {tb : String → gz_T} (hws : ∀ w ∈ gr_ws, w ∈ ws0) (htb : tb RX13 = gr_T) (ext : gz_Sh) (I : gr_I) (J : gr_J) (hI : gr_Inv I) (a1 : Int) (a2 : Int) (ha1 : 0 ≤ a1 ∧ a1 ≤ 16777215) (ha2 : 0 ≤ a2 ∧ a2 ≤ 16777215)  : ∃ r h', gz_Ev ws0 tb 1 (yX13_compare, cX13_compare, 3, (some .int)) [.inl a1, .inl a2] (gr_sh ++ ext) (gr_h I J) r (gr_sh ++ ext) h' 0 0 ∧ (h' = gr_h I J ∧ (∃ z : Int, r = some (.inl z) ∧ (-7) ≤ z ∧ z ≤ 7)) := by
  have hD : gv_D (gr_E ws0 tb 0 (yX13_compare, cX13_compare, 3, (some .int)) kX13_compare) := gq_of oX13_compare
  refine gr_ev (d := 0) (l := kX13_compare) (Po := fun r h' => (h' = gr_h I J ∧ (∃ z : Int, r = some (.inl z) ∧ (-7) ≤ z ∧ z ≤ 7))) htb rfl (Nat.le_of_ble_eq_true rfl) ?_
  have L2 : ∀ (n : Nat) (v2_1 : Int), (27 - v2_1).toNat < n → ((0 ≤ a1 ∧ a1 ≤ 16777215) ∧ (0 ≤ a2 ∧ a2 ≤ 16777215) ∧ (0 ≤ v2_1 ∧ v2_1 ≤ 26)) → gv_X (gr_E ws0 tb 0 (yX13_compare, cX13_compare, 3, (some .int)) kX13_compare) (gv_Q cX13_compare (some .int) (gr_sh ++ ext) (fun r h' => (h' = gr_h I J ∧ (∃ z : Int, r = some (.inl z) ∧ (-7) ≤ z ∧ z ≤ 7)))) (2, [(0, .inl a1), (1, .inl a2), (2, .inl v2_1)], [], gr_sh ++ ext, gr_h I J) := by
    intro n
    induction n with
    | zero => intro v2_1 hn; exact gz_m 0 (by omega)
    | succ n ih2 =>
      intro v2_1 hn m_1
      obtain ⟨ha1_1, ha2_1, hv2_1⟩ := m_1
      refine gv_run 2 true hD (pc' := 5) (lv' := [(0, .inl a1), (1, .inl a2), (2, .inl v2_1)]) (st' := [.inl 24, .inl v2_1]) (h' := gr_h I J) (C := ((True ∧ True) ∧ True)) rfl ⟨⟨trivial, trivial⟩, trivial⟩ ?_
      refine gv_icmp_ge (t := 43) hD rfl rfl ⟨⟨by exact gz_m 1 (by omega), by exact gz_m 2 (by omega)⟩, ⟨by exact gz_m 3 (by omega), by exact gz_m 4 (by omega)⟩⟩ (fun c2 => ?_) (fun c2 => ?_)
      · refine gv_run 1 true hD (pc' := 44) (lv' := [(0, .inl a1), (1, .inl a2), (2, .inl v2_1)]) (st' := [.inl 0]) (h' := gr_h I J) (C := (True ∧ True)) rfl ⟨trivial, trivial⟩ ?_
        exact gv_iret hD rfl ⟨rfl, ⟨_, rfl, by exact gz_m 5 (by omega)⟩⟩
      · have f3 := gw_shr (x := a1) (y := v2_1) ⟨by exact gz_m 6 (by omega), by exact gz_m 7 (by omega)⟩
        have f4 := gw_and (x := (((Int32.ofInt a1 >>> (Int32.ofInt v2_1 &&& 31)).toInt))) (y := 7) ⟨by exact gz_m 8 (by omega), by exact gz_m 9 (by omega)⟩
        refine gv_run 7 true hD (pc' := 16) (lv' := [(0, .inl a1), (1, .inl a2), (2, .inl v2_1)]) (st' := [.inl v2_1, .inl a2, .inl ((Int32.ofInt (((Int32.ofInt a1 >>> (Int32.ofInt v2_1 &&& 31)).toInt)) &&& Int32.ofInt 7).toInt)]) (h' := gr_h I J) (C := (((((((True ∧ True) ∧ True) ∧ True) ∧ True) ∧ True) ∧ True) ∧ True)) rfl ⟨⟨⟨⟨⟨⟨⟨trivial, trivial⟩, trivial⟩, trivial⟩, trivial⟩, trivial⟩, trivial⟩, trivial⟩ ?_
        have f5 := gw_shr (x := a2) (y := v2_1) ⟨by exact gz_m 10 (by omega), by exact gz_m 11 (by omega)⟩
        have f6 := gw_and (x := (((Int32.ofInt a2 >>> (Int32.ofInt v2_1 &&& 31)).toInt))) (y := 7) ⟨by exact gz_m 12 (by omega), by exact gz_m 13 (by omega)⟩
        refine gv_run 3 true hD (pc' := 20) (lv' := [(0, .inl a1), (1, .inl a2), (2, .inl v2_1)]) (st' := [.inl ((Int32.ofInt (((Int32.ofInt a2 >>> (Int32.ofInt v2_1 &&& 31)).toInt)) &&& Int32.ofInt 7).toInt), .inl ((Int32.ofInt (((Int32.ofInt a1 >>> (Int32.ofInt v2_1 &&& 31)).toInt)) &&& Int32.ofInt 7).toInt)]) (h' := gr_h I J) (C := (((True ∧ True) ∧ True) ∧ True)) rfl ⟨⟨⟨trivial, trivial⟩, trivial⟩, trivial⟩ ?_
        refine gv_icmp_eq (t := 37) hD rfl rfl ⟨⟨by exact gz_m 14 (by omega), by exact gz_m 15 (by omega)⟩, ⟨by exact gz_m 16 (by omega), by exact gz_m 17 (by omega)⟩⟩ (fun c7 => ?_) (fun c7 => ?_)
        · refine gv_run 2 true hD (pc' := 2) (lv' := [(2, .inl (v2_1 + 3)), (0, .inl a1), (1, .inl a2)]) (st' := []) (h' := gr_h I J) (C := ((True ∧ True) ∧ True)) rfl ⟨⟨trivial, trivial⟩, trivial⟩ ?_
          refine gv_pick [1, 2, 0] rfl ?_
          exact ih2 (v2_1 + 3) (by exact gz_m 18 (by omega)) (by exact gz_m 19 (by omega))
        · have f8 := gw_shr (x := a1) (y := v2_1) ⟨by exact gz_m 20 (by omega), by exact gz_m 21 (by omega)⟩
          have f9 := gw_and (x := (((Int32.ofInt a1 >>> (Int32.ofInt v2_1 &&& 31)).toInt))) (y := 7) ⟨by exact gz_m 22 (by omega), by exact gz_m 23 (by omega)⟩
          refine gv_run 7 true hD (pc' := 31) (lv' := [(0, .inl a1), (1, .inl a2), (2, .inl v2_1)]) (st' := [.inl v2_1, .inl a2, .inl ((Int32.ofInt (((Int32.ofInt a1 >>> (Int32.ofInt v2_1 &&& 31)).toInt)) &&& Int32.ofInt 7).toInt)]) (h' := gr_h I J) (C := (((((((True ∧ True) ∧ True) ∧ True) ∧ True) ∧ True) ∧ True) ∧ True)) rfl ⟨⟨⟨⟨⟨⟨⟨trivial, trivial⟩, trivial⟩, trivial⟩, trivial⟩, trivial⟩, trivial⟩, trivial⟩ ?_
          have f10 := gw_shr (x := a2) (y := v2_1) ⟨by exact gz_m 24 (by omega), by exact gz_m 25 (by omega)⟩
          have f11 := gw_and (x := (((Int32.ofInt a2 >>> (Int32.ofInt v2_1 &&& 31)).toInt))) (y := 7) ⟨by exact gz_m 26 (by omega), by exact gz_m 27 (by omega)⟩
          refine gv_run 4 true hD (pc' := 36) (lv' := [(0, .inl a1), (1, .inl a2), (2, .inl v2_1)]) (st' := [.inl (((Int32.ofInt (((Int32.ofInt a1 >>> (Int32.ofInt v2_1 &&& 31)).toInt)) &&& Int32.ofInt 7).toInt) - ((Int32.ofInt (((Int32.ofInt a2 >>> (Int32.ofInt v2_1 &&& 31)).toInt)) &&& Int32.ofInt 7).toInt))]) (h' := gr_h I J) (C := ((((True ∧ True) ∧ True) ∧ True) ∧ True)) rfl ⟨⟨⟨⟨trivial, trivial⟩, trivial⟩, trivial⟩, trivial⟩ ?_
          exact gv_iret hD rfl ⟨rfl, ⟨_, rfl, by exact gz_m 28 (by omega)⟩⟩
  refine gv_run 2 true hD (pc' := 2) (lv' := [(2, .inl 0), (0, .inl a1), (1, .inl a2)]) (st' := []) (h' := gr_h I J) (C := ((True ∧ True) ∧ True)) rfl ⟨⟨trivial, trivial⟩, trivial⟩ ?_
  refine gv_pick [1, 2, 0] rfl ?_
  exact L2 _ 0 (Nat.lt_succ_self _) (by exact gz_m 29 (by omega))
set_option maxHeartbeats 8000000 in
set_option maxRecDepth 100000 in
theorem r_fitted {ws0 : List Cond} {tb : String → gz_T} (hws : ∀ w ∈ gr_ws, w ∈ ws0) (htb : tb RX13 = gr_T) (ext : gz_Sh) (I : gr_I) (J : gr_J) (hI : gr_Inv I) (a1 : Int) (a2 : Int) (ha1 : 0 ≤ a1 ∧ a1 ≤ 16777215) (ha2 : 0 ≤ a2 ∧ a2 ≤ 16777215)  : ∃ r h', gz_Ev ws0 tb 1 (yX13_fitted, cX13_fitted, 6, (some .int)) [.inl a1, .inl a2] (gr_sh ++ ext) (gr_h I J) r (gr_sh ++ ext) h' 0 0 ∧ (h' = gr_h I J ∧ (∃ z : Int, r = some (.inl z) ∧ (-1) ≤ z ∧ z ≤ 16777215)) := by
  have hD : gv_D (gr_E ws0 tb 0 (yX13_fitted, cX13_fitted, 6, (some .int)) kX13_fitted) := gq_of oX13_fitted
  refine gr_ev (d := 0) (l := kX13_fitted) (Po := fun r h' => (h' = gr_h I J ∧ (∃ z : Int, r = some (.inl z) ∧ (-1) ≤ z ∧ z ≤ 16777215))) htb rfl (Nat.le_of_ble_eq_true rfl) ?_
  have L4 : ∀ (n : Nat) (v2_1 : Int) (v3_1 : Int), (25 - v3_1).toNat < n → ((0 ≤ a1 ∧ a1 ≤ 16777215) ∧ (0 ≤ a2 ∧ a2 ≤ 16777215) ∧ (0 ≤ v2_1 ∧ v2_1 ≤ 16777215) ∧ (0 ≤ v3_1 ∧ v3_1 ≤ 24) ∧ (v3_1 % 3 = 0)) → gv_X (gr_E ws0 tb 0 (yX13_fitted, cX13_fitted, 6, (some .int)) kX13_fitted) (gv_Q cX13_fitted (some .int) (gr_sh ++ ext) (fun r h' => (h' = gr_h I J ∧ (∃ z : Int, r = some (.inl z) ∧ (-1) ≤ z ∧ z ≤ 16777215)))) (4, [(0, .inl a1), (1, .inl a2), (2, .inl v2_1), (3, .inl v3_1)], [], gr_sh ++ ext, gr_h I J) := by
    intro n
    induction n with
    | zero => intro v2_1 v3_1 hn; exact gz_m 0 (by omega)
    | succ n ih4 =>
      intro v2_1 v3_1 hn m_1
      obtain ⟨ha1_1, ha2_1, hv2_1, hv3_1, e0_1⟩ := m_1
      have L55 : ∀ (v2_2 : Int), ((0 ≤ a1 ∧ a1 ≤ 16777215) ∧ (0 ≤ a2 ∧ a2 ≤ 16777215) ∧ (0 ≤ v2_2 ∧ v2_2 ≤ 16777215) ∧ (0 ≤ v3_1 ∧ v3_1 ≤ 21) ∧ (v3_1 % 3 = 0)) → gv_X (gr_E ws0 tb 0 (yX13_fitted, cX13_fitted, 6, (some .int)) kX13_fitted) (gv_Q cX13_fitted (some .int) (gr_sh ++ ext) (fun r h' => (h' = gr_h I J ∧ (∃ z : Int, r = some (.inl z) ∧ (-1) ≤ z ∧ z ≤ 16777215)))) (55, [(0, .inl a1), (1, .inl a2), (2, .inl v2_2), (3, .inl v3_1)], [], gr_sh ++ ext, gr_h I J) := by
        intro v2_2 m_2
        obtain ⟨ha1_2, ha2_2, hv2_2, hv3_1_2, e0_2⟩ := m_2
        refine gv_run 2 true hD (pc' := 4) (lv' := [(3, .inl (v3_1 + 3)), (0, .inl a1), (1, .inl a2), (2, .inl v2_2)]) (st' := []) (h' := gr_h I J) (C := ((True ∧ True) ∧ True)) rfl ⟨⟨trivial, trivial⟩, trivial⟩ ?_
        refine gv_pick [1, 2, 3, 0] rfl ?_
        exact ih4 v2_2 (v3_1 + 3) (by exact gz_m 1 (by omega)) (by exact gz_m 2 (by omega))
      refine gv_run 2 true hD (pc' := 7) (lv' := [(0, .inl a1), (1, .inl a2), (2, .inl v2_1), (3, .inl v3_1)]) (st' := [.inl 24, .inl v3_1]) (h' := gr_h I J) (C := ((True ∧ True) ∧ True)) rfl ⟨⟨trivial, trivial⟩, trivial⟩ ?_
      refine gv_icmp_ge (t := 61) hD rfl rfl ⟨⟨by exact gz_m 3 (by omega), by exact gz_m 4 (by omega)⟩, ⟨by exact gz_m 5 (by omega), by exact gz_m 6 (by omega)⟩⟩ (fun c3 => ?_) (fun c3 => ?_)
      · refine gv_run 1 true hD (pc' := 62) (lv' := [(0, .inl a1), (1, .inl a2), (2, .inl v2_1), (3, .inl v3_1)]) (st' := [.inl v2_1]) (h' := gr_h I J) (C := (True ∧ True)) rfl ⟨trivial, trivial⟩ ?_
        exact gv_iret hD rfl ⟨rfl, ⟨_, rfl, by exact gz_m 7 (by omega)⟩⟩
      · have f4 := gw_shr (x := a2) (y := v3_1) ⟨by exact gz_m 8 (by omega), by exact gz_m 9 (by omega)⟩
        have f5 := gw_and (x := (((Int32.ofInt a2 >>> (Int32.ofInt v3_1 &&& 31)).toInt))) (y := 7) ⟨by exact gz_m 10 (by omega), by exact gz_m 11 (by omega)⟩
        refine gv_run 7 true hD (pc' := 19) (lv' := [(4, .inl ((Int32.ofInt (((Int32.ofInt a2 >>> (Int32.ofInt v3_1 &&& 31)).toInt)) &&& Int32.ofInt 7).toInt)), (0, .inl a1), (1, .inl a2), (2, .inl v2_1), (3, .inl v3_1)]) (st' := [.inl a1]) (h' := gr_h I J) (C := (((((((True ∧ True) ∧ True) ∧ True) ∧ True) ∧ True) ∧ True) ∧ True)) rfl ⟨⟨⟨⟨⟨⟨⟨trivial, trivial⟩, trivial⟩, trivial⟩, trivial⟩, trivial⟩, trivial⟩, trivial⟩ ?_
        have f6 := gw_shr (x := a1) (y := v3_1) ⟨by exact gz_m 12 (by omega), by exact gz_m 13 (by omega)⟩
        have f7 := gw_and (x := (((Int32.ofInt a1 >>> (Int32.ofInt v3_1 &&& 31)).toInt))) (y := 7) ⟨by exact gz_m 14 (by omega), by exact gz_m 15 (by omega)⟩
        refine gv_run 6 true hD (pc' := 28) (lv' := [(5, .inl ((Int32.ofInt (((Int32.ofInt a1 >>> (Int32.ofInt v3_1 &&& 31)).toInt)) &&& Int32.ofInt 7).toInt)), (4, .inl ((Int32.ofInt (((Int32.ofInt a2 >>> (Int32.ofInt v3_1 &&& 31)).toInt)) &&& Int32.ofInt 7).toInt)), (0, .inl a1), (1, .inl a2), (2, .inl v2_1), (3, .inl v3_1)]) (st' := [.inl ((Int32.ofInt (((Int32.ofInt a2 >>> (Int32.ofInt v3_1 &&& 31)).toInt)) &&& Int32.ofInt 7).toInt)]) (h' := gr_h I J) (C := ((((((True ∧ True) ∧ True) ∧ True) ∧ True) ∧ True) ∧ True)) rfl ⟨⟨⟨⟨⟨⟨trivial, trivial⟩, trivial⟩, trivial⟩, trivial⟩, trivial⟩, trivial⟩ ?_
        refine gv_if_eq (t := 55) hD rfl rfl ⟨by exact gz_m 16 (by omega), by exact gz_m 17 (by omega)⟩ (fun c8 => ?_) (fun c8 => ?_)
        · refine gv_pick [2, 3, 4, 5] rfl ?_
          exact L55 v2_1 (by exact gz_m 18 (by omega))
        · refine gv_run 2 true hD (pc' := 35) (lv' := [(5, .inl ((Int32.ofInt (((Int32.ofInt a1 >>> (Int32.ofInt v3_1 &&& 31)).toInt)) &&& Int32.ofInt 7).toInt)), (4, .inl ((Int32.ofInt (((Int32.ofInt a2 >>> (Int32.ofInt v3_1 &&& 31)).toInt)) &&& Int32.ofInt 7).toInt)), (0, .inl a1), (1, .inl a2), (2, .inl v2_1), (3, .inl v3_1)]) (st' := [.inl ((Int32.ofInt (((Int32.ofInt a1 >>> (Int32.ofInt v3_1 &&& 31)).toInt)) &&& Int32.ofInt 7).toInt), .inl ((Int32.ofInt (((Int32.ofInt a2 >>> (Int32.ofInt v3_1 &&& 31)).toInt)) &&& Int32.ofInt 7).toInt)]) (h' := gr_h I J) (C := ((True ∧ True) ∧ True)) rfl ⟨⟨trivial, trivial⟩, trivial⟩ ?_
          refine gv_icmp_ne (t := 41) hD rfl rfl ⟨⟨by exact gz_m 19 (by omega), by exact gz_m 20 (by omega)⟩, ⟨by exact gz_m 21 (by omega), by exact gz_m 22 (by omega)⟩⟩ (fun c9 => ?_) (fun c9 => ?_)
          · refine gv_run 1 true hD (pc' := 43) (lv' := [(5, .inl ((Int32.ofInt (((Int32.ofInt a1 >>> (Int32.ofInt v3_1 &&& 31)).toInt)) &&& Int32.ofInt 7).toInt)), (4, .inl ((Int32.ofInt (((Int32.ofInt a2 >>> (Int32.ofInt v3_1 &&& 31)).toInt)) &&& Int32.ofInt 7).toInt)), (0, .inl a1), (1, .inl a2), (2, .inl v2_1), (3, .inl v3_1)]) (st' := [.inl ((Int32.ofInt (((Int32.ofInt a1 >>> (Int32.ofInt v3_1 &&& 31)).toInt)) &&& Int32.ofInt 7).toInt)]) (h' := gr_h I J) (C := (True ∧ True)) rfl ⟨trivial, trivial⟩ ?_
            refine gv_if_eq (t := 48) hD rfl rfl ⟨by exact gz_m 23 (by omega), by exact gz_m 24 (by omega)⟩ (fun c10 => ?_) (fun c10 => ?_)
            · have f11 := gw_shl (x := (((Int32.ofInt (((Int32.ofInt a2 >>> (Int32.ofInt v3_1 &&& 31)).toInt)) &&& Int32.ofInt 7).toInt))) (y := v3_1) ⟨by exact gz_m 25 (by omega), by exact gz_m 26 (by omega)⟩ ⟨by exact gz_m 27 (by omega), by exact gz_m 28 (by omega)⟩
              have f12 := gw_or (x := v2_1) (y := (((Int32.ofInt (((Int32.ofInt (((Int32.ofInt a2 >>> (Int32.ofInt v3_1 &&& 31)).toInt)) &&& Int32.ofInt 7).toInt)) <<< (Int32.ofInt v3_1 &&& 31)).toInt))) ⟨by exact gz_m 29 (by omega), by exact gz_m 30 (by omega)⟩ ⟨by exact gz_m 31 (by omega), by exact gz_m 32 (by omega)⟩
              refine gv_run 6 true hD (pc' := 55) (lv' := [(2, .inl ((Int32.ofInt v2_1 ||| Int32.ofInt (((Int32.ofInt (((Int32.ofInt (((Int32.ofInt a2 >>> (Int32.ofInt v3_1 &&& 31)).toInt)) &&& Int32.ofInt 7).toInt)) <<< (Int32.ofInt v3_1 &&& 31)).toInt))).toInt)), (5, .inl ((Int32.ofInt (((Int32.ofInt a1 >>> (Int32.ofInt v3_1 &&& 31)).toInt)) &&& Int32.ofInt 7).toInt)), (4, .inl ((Int32.ofInt (((Int32.ofInt a2 >>> (Int32.ofInt v3_1 &&& 31)).toInt)) &&& Int32.ofInt 7).toInt)), (0, .inl a1), (1, .inl a2), (3, .inl v3_1)]) (st' := []) (h' := gr_h I J) (C := ((((((True ∧ True) ∧ True) ∧ True) ∧ True) ∧ True) ∧ True)) rfl ⟨⟨⟨⟨⟨⟨trivial, trivial⟩, trivial⟩, trivial⟩, trivial⟩, trivial⟩, trivial⟩ ?_
              refine gv_pick [3, 4, 0, 5] rfl ?_
              exact L55 (((Int32.ofInt v2_1 ||| Int32.ofInt (((Int32.ofInt (((Int32.ofInt (((Int32.ofInt a2 >>> (Int32.ofInt v3_1 &&& 31)).toInt)) &&& Int32.ofInt 7).toInt)) <<< (Int32.ofInt v3_1 &&& 31)).toInt))).toInt)) (by exact gz_m 33 (by omega))
            · refine gv_run 1 true hD (pc' := 47) (lv' := [(5, .inl ((Int32.ofInt (((Int32.ofInt a1 >>> (Int32.ofInt v3_1 &&& 31)).toInt)) &&& Int32.ofInt 7).toInt)), (4, .inl ((Int32.ofInt (((Int32.ofInt a2 >>> (Int32.ofInt v3_1 &&& 31)).toInt)) &&& Int32.ofInt 7).toInt)), (0, .inl a1), (1, .inl a2), (2, .inl v2_1), (3, .inl v3_1)]) (st' := [.inl (-1)]) (h' := gr_h I J) (C := (True ∧ True)) rfl ⟨trivial, trivial⟩ ?_
              exact gv_iret hD rfl ⟨rfl, ⟨_, rfl, by exact gz_m 34 (by omega)⟩⟩
          · refine gv_run 1 true hD (pc' := 55) (lv' := [(5, .inl ((Int32.ofInt (((Int32.ofInt a1 >>> (Int32.ofInt v3_1 &&& 31)).toInt)) &&& Int32.ofInt 7).toInt)), (4, .inl ((Int32.ofInt (((Int32.ofInt a2 >>> (Int32.ofInt v3_1 &&& 31)).toInt)) &&& Int32.ofInt 7).toInt)), (0, .inl a1), (1, .inl a2), (2, .inl v2_1), (3, .inl v3_1)]) (st' := []) (h' := gr_h I J) (C := (True ∧ True)) rfl ⟨trivial, trivial⟩ ?_
            refine gv_pick [2, 3, 4, 5] rfl ?_
            exact L55 v2_1 (by exact gz_m 35 (by omega))
  refine gv_run 4 true hD (pc' := 4) (lv' := [(3, .inl 0), (2, .inl a1), (0, .inl a1), (1, .inl a2)]) (st' := []) (h' := gr_h I J) (C := ((((True ∧ True) ∧ True) ∧ True) ∧ True)) rfl ⟨⟨⟨⟨trivial, trivial⟩, trivial⟩, trivial⟩, trivial⟩ ?_
  refine gv_pick [2, 3, 1, 0] rfl ?_
  exact L4 _ a1 0 (Nat.lt_succ_self _) (by exact gz_m 36 (by omega))
set_option maxHeartbeats 8000000 in
set_option maxRecDepth 100000 in
theorem r_ahead {ws0 : List Cond} {tb : String → gz_T} (hws : ∀ w ∈ gr_ws, w ∈ ws0) (htb : tb RX13 = gr_T) (ext : gz_Sh) (I : gr_I) (J : gr_J) (hI : gr_Inv I) (a1 : Int) (a2 : Int) (a3 : Int) (a4 : Int) (ha1 : (-2147483648) ≤ a1 ∧ a1 ≤ 2147483647) (ha2 : (-2147483648) ≤ a2 ∧ a2 ≤ 2147483647) (ha3 : (-2147483648) ≤ a3 ∧ a3 ≤ 2147483647) (ha4 : 0 ≤ a4 ∧ a4 ≤ 47999)  : ∃ r h', gz_Ev ws0 tb 1 (yX13_ahead, cX13_ahead, 5, (some .boolean)) [.inr (.inr (some 0)), .inl a1, .inl a2, .inl a3, .inl a4] (gr_sh ++ ext) (gr_h I J) r (gr_sh ++ ext) h' 0 0 ∧ (h' = gr_h I J ∧ (∃ z : Int, r = some (.inl z) ∧ 0 ≤ z ∧ z ≤ 1)) := by
  have hD : gv_D (gr_E ws0 tb 0 (yX13_ahead, cX13_ahead, 5, (some .boolean)) kX13_ahead) := gq_of oX13_ahead
  refine gr_ev (d := 0) (l := kX13_ahead) (Po := fun r h' => (h' = gr_h I J ∧ (∃ z : Int, r = some (.inl z) ∧ 0 ≤ z ∧ z ≤ 1))) htb rfl (Nat.le_of_ble_eq_true rfl) ?_
  have L27 : ∀ (s0_1 : Int), ((0 ≤ s0_1 ∧ s0_1 ≤ 1)) → gv_X (gr_E ws0 tb 0 (yX13_ahead, cX13_ahead, 5, (some .boolean)) kX13_ahead) (gv_Q cX13_ahead (some .boolean) (gr_sh ++ ext) (fun r h' => (h' = gr_h I J ∧ (∃ z : Int, r = some (.inl z) ∧ 0 ≤ z ∧ z ≤ 1)))) (27, [], [.inl s0_1], gr_sh ++ ext, gr_h I J) := by
    intro s0_1 m_1
    have hs0_1 := m_1
    exact gv_zret hD rfl (by exact gz_m 0 (by omega)) ⟨rfl, ⟨_, rfl, by exact gz_m 1 (by omega)⟩⟩
  have L74 : ∀ (s0_2 : Int), ((0 ≤ s0_2 ∧ s0_2 ≤ 1)) → gv_X (gr_E ws0 tb 0 (yX13_ahead, cX13_ahead, 5, (some .boolean)) kX13_ahead) (gv_Q cX13_ahead (some .boolean) (gr_sh ++ ext) (fun r h' => (h' = gr_h I J ∧ (∃ z : Int, r = some (.inl z) ∧ 0 ≤ z ∧ z ≤ 1)))) (74, [], [.inl s0_2], gr_sh ++ ext, gr_h I J) := by
    intro s0_2 m_2
    have hs0_2 := m_2
    exact gv_zret hD rfl (by exact gz_m 2 (by omega)) ⟨rfl, ⟨_, rfl, by exact gz_m 3 (by omega)⟩⟩
  have f3 := (gr_b_106 hI (Int.toNat a4))
  refine gv_run 5 true hD (pc' := 8) (lv' := [(0, .inr (.inr (some 0))), (1, .inl a1), (2, .inl a2), (3, .inl a3), (4, .inl a4)]) (st' := [.inl (I 106 (Int.toNat a4)), .inl a1]) (h' := gr_h I J) (C := (((((True ∧ True) ∧ True) ∧ True) ∧ True) ∧ (0 ≤ a4 ∧ a4 < ((48000 : Nat) : Int)))) rfl ⟨⟨⟨⟨⟨trivial, trivial⟩, trivial⟩, trivial⟩, trivial⟩, ⟨by exact gz_m 4 (by omega), by exact gz_m 5 (by omega)⟩⟩ ?_
  refine gv_icmp_eq (t := 28) hD rfl rfl ⟨⟨by exact gz_m 6 (by omega), by exact gz_m 7 (by omega)⟩, ⟨by exact gz_m 8 (by omega), by exact gz_m 9 (by omega)⟩⟩ (fun c4 => ?_) (fun c4 => ?_)
  · have f5 := (gr_b_107 hI (Int.toNat a4))
    refine gv_run 5 true hD (pc' := 36) (lv' := [(0, .inr (.inr (some 0))), (1, .inl a1), (2, .inl a2), (3, .inl a3), (4, .inl a4)]) (st' := [.inl (I 107 (Int.toNat a4)), .inl a2]) (h' := gr_h I J) (C := (((((True ∧ True) ∧ True) ∧ True) ∧ True) ∧ (0 ≤ a4 ∧ a4 < ((48000 : Nat) : Int)))) rfl ⟨⟨⟨⟨⟨trivial, trivial⟩, trivial⟩, trivial⟩, trivial⟩, ⟨by exact gz_m 10 (by omega), by exact gz_m 11 (by omega)⟩⟩ ?_
    refine gv_icmp_eq (t := 58) hD rfl rfl ⟨⟨by exact gz_m 12 (by omega), by exact gz_m 13 (by omega)⟩, ⟨by exact gz_m 14 (by omega), by exact gz_m 15 (by omega)⟩⟩ (fun c6 => ?_) (fun c6 => ?_)
    · have f7 := (gr_b_108 hI (Int.toNat a4))
      refine gv_run 5 true hD (pc' := 66) (lv' := [(0, .inr (.inr (some 0))), (1, .inl a1), (2, .inl a2), (3, .inl a3), (4, .inl a4)]) (st' := [.inl (I 108 (Int.toNat a4)), .inl a3]) (h' := gr_h I J) (C := (((((True ∧ True) ∧ True) ∧ True) ∧ True) ∧ (0 ≤ a4 ∧ a4 < ((48000 : Nat) : Int)))) rfl ⟨⟨⟨⟨⟨trivial, trivial⟩, trivial⟩, trivial⟩, trivial⟩, ⟨by exact gz_m 16 (by omega), by exact gz_m 17 (by omega)⟩⟩ ?_
      refine gv_icmp_ge (t := 73) hD rfl rfl ⟨⟨by exact gz_m 18 (by omega), by exact gz_m 19 (by omega)⟩, ⟨by exact gz_m 20 (by omega), by exact gz_m 21 (by omega)⟩⟩ (fun c8 => ?_) (fun c8 => ?_)
      · refine gv_run 1 true hD (pc' := 74) (lv' := [(0, .inr (.inr (some 0))), (1, .inl a1), (2, .inl a2), (3, .inl a3), (4, .inl a4)]) (st' := [.inl 0]) (h' := gr_h I J) (C := (True ∧ True)) rfl ⟨trivial, trivial⟩ ?_
        refine gv_pick [] rfl ?_
        exact L74 0 (by exact gz_m 22 (by omega))
      · refine gv_run 2 true hD (pc' := 74) (lv' := [(0, .inr (.inr (some 0))), (1, .inl a1), (2, .inl a2), (3, .inl a3), (4, .inl a4)]) (st' := [.inl 1]) (h' := gr_h I J) (C := ((True ∧ True) ∧ True)) rfl ⟨⟨trivial, trivial⟩, trivial⟩ ?_
        refine gv_pick [] rfl ?_
        exact L74 1 (by exact gz_m 23 (by omega))
    · have f9 := (gr_b_107 hI (Int.toNat a4))
      refine gv_run 5 true hD (pc' := 47) (lv' := [(0, .inr (.inr (some 0))), (1, .inl a1), (2, .inl a2), (3, .inl a3), (4, .inl a4)]) (st' := [.inl (I 107 (Int.toNat a4)), .inl a2]) (h' := gr_h I J) (C := (((((True ∧ True) ∧ True) ∧ True) ∧ True) ∧ (0 ≤ a4 ∧ a4 < ((48000 : Nat) : Int)))) rfl ⟨⟨⟨⟨⟨trivial, trivial⟩, trivial⟩, trivial⟩, trivial⟩, ⟨by exact gz_m 24 (by omega), by exact gz_m 25 (by omega)⟩⟩ ?_
      refine gv_icmp_ge (t := 54) hD rfl rfl ⟨⟨by exact gz_m 26 (by omega), by exact gz_m 27 (by omega)⟩, ⟨by exact gz_m 28 (by omega), by exact gz_m 29 (by omega)⟩⟩ (fun c10 => ?_) (fun c10 => ?_)
      · refine gv_run 2 true hD (pc' := 74) (lv' := [(0, .inr (.inr (some 0))), (1, .inl a1), (2, .inl a2), (3, .inl a3), (4, .inl a4)]) (st' := [.inl 0]) (h' := gr_h I J) (C := ((True ∧ True) ∧ True)) rfl ⟨⟨trivial, trivial⟩, trivial⟩ ?_
        refine gv_pick [] rfl ?_
        exact L74 0 (by exact gz_m 30 (by omega))
      · refine gv_run 2 true hD (pc' := 74) (lv' := [(0, .inr (.inr (some 0))), (1, .inl a1), (2, .inl a2), (3, .inl a3), (4, .inl a4)]) (st' := [.inl 1]) (h' := gr_h I J) (C := ((True ∧ True) ∧ True)) rfl ⟨⟨trivial, trivial⟩, trivial⟩ ?_
        refine gv_pick [] rfl ?_
        exact L74 1 (by exact gz_m 31 (by omega))
  · have f11 := (gr_b_106 hI (Int.toNat a4))
    refine gv_run 5 true hD (pc' := 19) (lv' := [(0, .inr (.inr (some 0))), (1, .inl a1), (2, .inl a2), (3, .inl a3), (4, .inl a4)]) (st' := [.inl (I 106 (Int.toNat a4)), .inl a1]) (h' := gr_h I J) (C := (((((True ∧ True) ∧ True) ∧ True) ∧ True) ∧ (0 ≤ a4 ∧ a4 < ((48000 : Nat) : Int)))) rfl ⟨⟨⟨⟨⟨trivial, trivial⟩, trivial⟩, trivial⟩, trivial⟩, ⟨by exact gz_m 32 (by omega), by exact gz_m 33 (by omega)⟩⟩ ?_
    refine gv_icmp_ge (t := 26) hD rfl rfl ⟨⟨by exact gz_m 34 (by omega), by exact gz_m 35 (by omega)⟩, ⟨by exact gz_m 36 (by omega), by exact gz_m 37 (by omega)⟩⟩ (fun c12 => ?_) (fun c12 => ?_)
    · refine gv_run 1 true hD (pc' := 27) (lv' := [(0, .inr (.inr (some 0))), (1, .inl a1), (2, .inl a2), (3, .inl a3), (4, .inl a4)]) (st' := [.inl 0]) (h' := gr_h I J) (C := (True ∧ True)) rfl ⟨trivial, trivial⟩ ?_
      refine gv_pick [] rfl ?_
      exact L27 0 (by exact gz_m 38 (by omega))
    · refine gv_run 2 true hD (pc' := 27) (lv' := [(0, .inr (.inr (some 0))), (1, .inl a1), (2, .inl a2), (3, .inl a3), (4, .inl a4)]) (st' := [.inl 1]) (h' := gr_h I J) (C := ((True ∧ True) ∧ True)) rfl ⟨⟨trivial, trivial⟩, trivial⟩ ?_
      refine gv_pick [] rfl ?_
      exact L27 1 (by exact gz_m 39 (by omega))
set_option maxHeartbeats 8000000 in
set_option maxRecDepth 100000 in
theorem r_hit {ws0 : List Cond} {tb : String → gz_T} (hws : ∀ w ∈ gr_ws, w ∈ ws0) (htb : tb RX13 = gr_T) (ext : gz_Sh) (I : gr_I) (J : gr_J) (hI : gr_Inv I) (a1 : Int) (a2 : Int) (ha1 : (-2147483648) ≤ a1 ∧ a1 ≤ 2147483647) (ha2 : (-2147483648) ≤ a2 ∧ a2 ≤ 2147483647)  : ∃ r h', gz_Ev ws0 tb 2 (yX13_hit, cX13_hit, 3, (some .int)) [.inr (.inr (some 0)), .inl a1, .inl a2] (gr_sh ++ ext) (gr_h I J) r (gr_sh ++ ext) h' 0 0 ∧ (∃ (I' : gr_I) (J' : gr_J), h' = gr_h I' J' ∧ gr_Inv I' ∧ gr_fr [0] [] I I' ∧ gr_fj [0] [] J J' ∧ (∃ z : Int, r = some (.inl z) ∧ (-1) ≤ z ∧ z ≤ 99)) := by
  have FI : gr_fr [0] [] I I := fun _ _ _ => rfl
  have FJ : gr_fj [0] [] J J := fun _ _ _ => rfl
  have hD : gv_D (gr_E ws0 tb 1 (yX13_hit, cX13_hit, 3, (some .int)) kX13_hit) := gq_of oX13_hit
  refine gr_ev (d := 1) (l := kX13_hit) (Po := fun r h' => (∃ (I' : gr_I) (J' : gr_J), h' = gr_h I' J' ∧ gr_Inv I' ∧ gr_fr [0] [] I I' ∧ gr_fj [0] [] J J' ∧ (∃ z : Int, r = some (.inl z) ∧ (-1) ≤ z ∧ z ≤ 99))) htb rfl (Nat.le_of_ble_eq_true rfl) ?_
  have L14 : ∀ (I1 : gr_I) (J2 : gr_J) , gr_Inv I1 → gr_fr [0] [] I I1 → gr_fj [0] [] J J2 → gv_X (gr_E ws0 tb 1 (yX13_hit, cX13_hit, 3, (some .int)) kX13_hit) (gv_Q cX13_hit (some .int) (gr_sh ++ ext) (fun r h' => (∃ (I' : gr_I) (J' : gr_J), h' = gr_h I' J' ∧ gr_Inv I' ∧ gr_fr [0] [] I I' ∧ gr_fj [0] [] J J' ∧ (∃ z : Int, r = some (.inl z) ∧ (-1) ≤ z ∧ z ≤ 99)))) (14, [(0, .inr (.inr (some 0)))], [], gr_sh ++ ext, gr_h I1 J2) := by
    intro I1 J2 hI1 FI1 FJ2
    refine gv_run 1 true hD (pc' := 15) (lv' := [(0, .inr (.inr (some 0)))]) (st' := [.inr (.inr (some 0))]) (h' := gr_h I1 J2) (C := (True ∧ True)) rfl ⟨trivial, trivial⟩ ?_
    obtain ⟨r4, h4, E4, P4⟩ := r_bad (ws0 := ws0) (tb := tb) hws htb ext I1 J2 hI1   
    obtain ⟨I5, J6, rfl, hI5, g4, k4, ⟨z4, rfl, q4⟩⟩ := P4
    have FI5 := gr_frt FI1 g4 rfl rfl
    have FJ6 := gr_fjt FJ2 k4 rfl rfl
    refine gv_callV hD rfl (As := []) (st := []) rfl (by decide) rfl rfl (gr_lV hws rfl) (Nat.le_of_ble_eq_true rfl) (gz_Ev_mono (d := 1) (by decide) E4) ?_
    show gv_X _ _ (18, [(0, .inr (.inr (some 0)))], [.inl z4], gr_sh ++ ext, gr_h I5 J6)
    exact gv_iret hD rfl ⟨I5, J6, rfl, hI5, FI5, FJ6, ⟨_, rfl, by exact gz_m 0 (by omega)⟩⟩
  have L54 : ∀ (I7 : gr_I) (J8 : gr_J) (s0_9 : Int), gr_Inv I7 → gr_fr [0] [] I I7 → gr_fj [0] [] J J8 → (((-1) ≤ s0_9 ∧ s0_9 ≤ 99)) → gv_X (gr_E ws0 tb 1 (yX13_hit, cX13_hit, 3, (some .int)) kX13_hit) (gv_Q cX13_hit (some .int) (gr_sh ++ ext) (fun r h' => (∃ (I' : gr_I) (J' : gr_J), h' = gr_h I' J' ∧ gr_Inv I' ∧ gr_fr [0] [] I I' ∧ gr_fj [0] [] J J' ∧ (∃ z : Int, r = some (.inl z) ∧ (-1) ≤ z ∧ z ≤ 99)))) (54, [], [.inl s0_9], gr_sh ++ ext, gr_h I7 J8) := by
    intro I7 J8 s0_9 hI7 FI7 FJ8 m_9
    have hs0_9 := m_9
    exact gv_iret hD rfl ⟨I7, J8, rfl, hI7, FI7, FJ8, ⟨_, rfl, by exact gz_m 1 (by omega)⟩⟩
  have L31 : ∀ (I10 : gr_I) (J11 : gr_J) , gr_Inv I10 → gr_fr [0] [] I I10 → gr_fj [0] [] J J11 → gv_X (gr_E ws0 tb 1 (yX13_hit, cX13_hit, 3, (some .int)) kX13_hit) (gv_Q cX13_hit (some .int) (gr_sh ++ ext) (fun r h' => (∃ (I' : gr_I) (J' : gr_J), h' = gr_h I' J' ∧ gr_Inv I' ∧ gr_fr [0] [] I I' ∧ gr_fj [0] [] J J' ∧ (∃ z : Int, r = some (.inl z) ∧ (-1) ≤ z ∧ z ≤ 99)))) (31, [], [], gr_sh ++ ext, gr_h I10 J11) := by
    intro I10 J11 hI10 FI10 FJ11
    refine gv_run 2 true hD (pc' := 54) (lv' := []) (st' := [.inl (-1)]) (h' := gr_h I10 J11) (C := ((True ∧ True) ∧ True)) rfl ⟨⟨trivial, trivial⟩, trivial⟩ ?_
    exact L54 I10 J11 (-1) hI10 FI10 FJ11 (by exact gz_m 2 (by omega))
  refine gv_run 3 true hD (pc' := 5) (lv' := [(0, .inr (.inr (some 0))), (1, .inl a1), (2, .inl a2)]) (st' := []) (h' := gz_up (gr_h I J) 0 0 (.inl 0)) (C := (((True ∧ True) ∧ True) ∧ True)) rfl ⟨⟨⟨trivial, trivial⟩, trivial⟩, trivial⟩ ?_
  refine gr_st hI FI rfl rfl ⟨⟨by show 0 ≤ _; exact gz_m 3 (by omega), by show _ ≤ 2; exact gz_m 4 (by omega)⟩, trivial⟩ (fun I13 hI13 FI13 q14 p14 => ?_)
  refine gv_run 1 true hD (pc' := 6) (lv' := [(0, .inr (.inr (some 0))), (1, .inl a1), (2, .inl a2)]) (st' := [.inl a2]) (h' := gr_h I13 J) (C := (True ∧ True)) rfl ⟨trivial, trivial⟩ ?_
  refine gv_if_lt (t := 14) hD rfl rfl ⟨by exact gz_m 5 (by omega), by exact gz_m 6 (by omega)⟩ (fun c15 => ?_) (fun c15 => ?_)
  · refine gv_pick [0] rfl ?_
    exact L14 I13 J hI13 FI13 FJ
  · refine gv_run 2 true hD (pc' := 11) (lv' := [(0, .inr (.inr (some 0))), (1, .inl a1), (2, .inl a2)]) (st' := [.inl 1, .inl a2]) (h' := gr_h I13 J) (C := ((True ∧ True) ∧ True)) rfl ⟨⟨trivial, trivial⟩, trivial⟩ ?_
    refine gv_icmp_le (t := 19) hD rfl rfl ⟨⟨by exact gz_m 7 (by omega), by exact gz_m 8 (by omega)⟩, ⟨by exact gz_m 9 (by omega), by exact gz_m 10 (by omega)⟩⟩ (fun c16 => ?_) (fun c16 => ?_)
    · refine gv_run 1 true hD (pc' := 20) (lv' := [(0, .inr (.inr (some 0))), (1, .inl a1), (2, .inl a2)]) (st' := [.inl a1]) (h' := gr_h I13 J) (C := (True ∧ True)) rfl ⟨trivial, trivial⟩ ?_
      refine gv_if_lt (t := 31) hD rfl rfl ⟨by exact gz_m 11 (by omega), by exact gz_m 12 (by omega)⟩ (fun c17 => ?_) (fun c17 => ?_)
      · refine gv_pick [] rfl ?_
        exact L31 I13 J hI13 FI13 FJ
      · have f18 := (gr_b_0_211 hI13)
        refine gv_run 3 true hD (pc' := 28) (lv' := [(0, .inr (.inr (some 0))), (1, .inl a1), (2, .inl a2)]) (st' := [.inl (I13 0 211), .inl a1]) (h' := gr_h I13 J) (C := (((True ∧ True) ∧ True) ∧ True)) rfl ⟨⟨⟨trivial, trivial⟩, trivial⟩, trivial⟩ ?_
        refine gv_icmp_lt (t := 35) hD rfl rfl ⟨⟨by exact gz_m 13 (by omega), by exact gz_m 14 (by omega)⟩, ⟨by exact gz_m 15 (by omega), by exact gz_m 16 (by omega)⟩⟩ (fun c19 => ?_) (fun c19 => ?_)
        · refine gv_run 1 true hD (pc' := 36) (lv' := [(0, .inr (.inr (some 0))), (1, .inl a1), (2, .inl a2)]) (st' := [.inl a2]) (h' := gr_h I13 J) (C := (True ∧ True)) rfl ⟨trivial, trivial⟩ ?_
          refine gv_if_ne (t := 48) hD rfl rfl ⟨by exact gz_m 17 (by omega), by exact gz_m 18 (by omega)⟩ (fun c20 => ?_) (fun c20 => ?_)
          · have f21 := (gr_b_133 hI13 (Int.toNat a1))
            refine gv_run 4 true hD (pc' := 54) (lv' := [(0, .inr (.inr (some 0))), (1, .inl a1), (2, .inl a2)]) (st' := [.inl (I13 133 (Int.toNat a1))]) (h' := gr_h I13 J) (C := ((((True ∧ True) ∧ True) ∧ True) ∧ (0 ≤ a1 ∧ a1 < ((2400 : Nat) : Int)))) rfl ⟨⟨⟨⟨trivial, trivial⟩, trivial⟩, trivial⟩, ⟨by exact gz_m 19 (by omega), by exact gz_m 20 (by omega)⟩⟩ ?_
            refine gv_pick [] rfl ?_
            exact L54 I13 J ((I13 133 (Int.toNat a1))) hI13 FI13 FJ (by exact gz_m 21 (by omega))
          · have f22 := (gr_b_132 hI13 (Int.toNat a1))
            refine gv_run 4 true hD (pc' := 45) (lv' := [(0, .inr (.inr (some 0))), (1, .inl a1), (2, .inl a2)]) (st' := [.inl (I13 132 (Int.toNat a1))]) (h' := gr_h I13 J) (C := ((((True ∧ True) ∧ True) ∧ True) ∧ (0 ≤ a1 ∧ a1 < ((2400 : Nat) : Int)))) rfl ⟨⟨⟨⟨trivial, trivial⟩, trivial⟩, trivial⟩, ⟨by exact gz_m 22 (by omega), by exact gz_m 23 (by omega)⟩⟩ ?_
            refine gv_run 1 true hD (pc' := 54) (lv' := [(0, .inr (.inr (some 0))), (1, .inl a1), (2, .inl a2)]) (st' := [.inl (I13 132 (Int.toNat a1))]) (h' := gr_h I13 J) (C := (True ∧ True)) rfl ⟨trivial, trivial⟩ ?_
            refine gv_pick [] rfl ?_
            exact L54 I13 J ((I13 132 (Int.toNat a1))) hI13 FI13 FJ (by exact gz_m 24 (by omega))
        · refine gv_pick [] rfl ?_
          exact L31 I13 J hI13 FI13 FJ
    · refine gv_pick [0] rfl ?_
      exact L14 I13 J hI13 FI13 FJ
set_option maxHeartbeats 8000000 in
set_option maxRecDepth 100000 in
theorem r_outName {ws0 : List Cond} {tb : String → gz_T} (hws : ∀ w ∈ gr_ws, w ∈ ws0) (htb : tb RX13 = gr_T) (ext : gz_Sh) (I : gr_I) (J : gr_J) (hI : gr_Inv I) (a1 : Int64)   : ∃ r h', gz_Ev ws0 tb 2 (yX13_outName, cX13_outName, 4, none) [.inr (.inr (some 0)), .inr (.inl a1)] (gr_sh ++ ext) (gr_h I J) r (gr_sh ++ ext) h' 0 0 ∧ (∃ (I' : gr_I) (J' : gr_J), h' = gr_h I' J' ∧ gr_Inv I' ∧ gr_fr [70] [58] I I' ∧ gr_fj [70] [58] J J' ∧ r = none) := by
  have FI : gr_fr [70] [58] I I := fun _ _ _ => rfl
  have FJ : gr_fj [70] [58] J J := fun _ _ _ => rfl
  have hD : gv_D (gr_E ws0 tb 1 (yX13_outName, cX13_outName, 4, none) kX13_outName) := gq_of oX13_outName
  refine gr_ev (d := 1) (l := kX13_outName) (Po := fun r h' => (∃ (I' : gr_I) (J' : gr_J), h' = gr_h I' J' ∧ gr_Inv I' ∧ gr_fr [70] [58] I I' ∧ gr_fj [70] [58] J J' ∧ r = none)) htb rfl (Nat.le_of_ble_eq_true rfl) ?_
  have L3 : ∀ (n : Nat) (I1 : gr_I) (J2 : gr_J) (v3_3 : Int), (v3_3 - (-9)).toNat < n → gr_Inv I1 → gr_fr [70] [58] I I1 → gr_fj [70] [58] J J2 → (((-8) ≤ v3_3 ∧ v3_3 ≤ 56)) → gv_X (gr_E ws0 tb 1 (yX13_outName, cX13_outName, 4, none) kX13_outName) (gv_Q cX13_outName none (gr_sh ++ ext) (fun r h' => (∃ (I' : gr_I) (J' : gr_J), h' = gr_h I' J' ∧ gr_Inv I' ∧ gr_fr [70] [58] I I' ∧ gr_fj [70] [58] J J' ∧ r = none))) (3, [(0, .inr (.inr (some 0))), (1, .inr (.inl a1)), (3, .inl v3_3)], [], gr_sh ++ ext, gr_h I1 J2) := by
    intro n
    induction n with
    | zero => intro I1 J2 v3_3 hn; exact gz_m 0 (by omega)
    | succ n ih3 =>
      intro I1 J2 v3_3 hn hI1 FI1 FJ2 m_3
      have hv3_3 := m_3
      have L31 : ∀ (I4 : gr_I) (J5 : gr_J) , gr_Inv I4 → gr_fr [70] [58] I I4 → gr_fj [70] [58] J J5 → ((0 ≤ v3_3 ∧ v3_3 ≤ 56)) → gv_X (gr_E ws0 tb 1 (yX13_outName, cX13_outName, 4, none) kX13_outName) (gv_Q cX13_outName none (gr_sh ++ ext) (fun r h' => (∃ (I' : gr_I) (J' : gr_J), h' = gr_h I' J' ∧ gr_Inv I' ∧ gr_fr [70] [58] I I' ∧ gr_fj [70] [58] J J' ∧ r = none))) (31, [(0, .inr (.inr (some 0))), (1, .inr (.inl a1)), (3, .inl v3_3)], [], gr_sh ++ ext, gr_h I4 J5) := by
        intro I4 J5 hI4 FI4 FJ5 m_6
        clear hv3_3
        have hv3_3_6 := m_6
        refine gv_run 2 true hD (pc' := 3) (lv' := [(3, .inl (v3_3 + (-8))), (0, .inr (.inr (some 0))), (1, .inr (.inl a1))]) (st' := []) (h' := gr_h I4 J5) (C := ((True ∧ True) ∧ True)) rfl ⟨⟨trivial, trivial⟩, trivial⟩ ?_
        refine gv_pick [1, 2, 0] rfl ?_
        exact ih3 I4 J5 ((v3_3 + (-8))) (by exact gz_m 1 (by omega)) hI4 FI4 FJ5 (by exact gz_m 2 (by omega))
      refine gv_run 1 true hD (pc' := 4) (lv' := [(0, .inr (.inr (some 0))), (1, .inr (.inl a1)), (3, .inl v3_3)]) (st' := [.inl v3_3]) (h' := gr_h I1 J2) (C := (True ∧ True)) rfl ⟨trivial, trivial⟩ ?_
      refine gv_if_lt (t := 37) hD rfl rfl ⟨by exact gz_m 3 (by omega), by exact gz_m 4 (by omega)⟩ (fun c7 => ?_) (fun c7 => ?_)
      · exact gv_vret hD rfl ⟨I1, J2, rfl, hI1, FI1, FJ2, rfl⟩
      · have f8 := gw_cmp ((((a1).toUInt64 >>> ((Int32.ofInt v3_3).toInt64.toUInt64 &&& Int64.toUInt64 63)).toInt64 &&& (255))) ((Int64.ofNat 0))
        refine gv_run 7 true hD (pc' := 16) (lv' := [(0, .inr (.inr (some 0))), (1, .inr (.inl a1)), (3, .inl v3_3)]) (st' := [.inl ((lg_cmp ((((a1).toUInt64 >>> ((Int32.ofInt v3_3).toInt64.toUInt64 &&& Int64.toUInt64 63)).toInt64 &&& (255))) ((Int64.ofNat 0))).toInt)]) (h' := gr_h I1 J2) (C := (((((((True ∧ True) ∧ True) ∧ True) ∧ True) ∧ True) ∧ True) ∧ True)) rfl ⟨⟨⟨⟨⟨⟨⟨trivial, trivial⟩, trivial⟩, trivial⟩, trivial⟩, trivial⟩, trivial⟩, trivial⟩ ?_
        refine gv_if_eq (t := 31) hD rfl rfl ⟨by exact gz_m 5 (by omega), by exact gz_m 6 (by omega)⟩ (fun c9 => ?_) (fun c9 => ?_)
        · exact L31 I1 J2 hI1 FI1 FJ2 (by exact gz_m 7 (by omega))
        · have f10 := gw_any ((((a1).toUInt64 >>> ((Int32.ofInt v3_3).toInt64.toUInt64 &&& Int64.toUInt64 63)).toInt64 &&& (255))).toInt32
          refine gv_run 7 true hD (pc' := 28) (lv' := [(0, .inr (.inr (some 0))), (1, .inr (.inl a1)), (3, .inl v3_3)]) (st' := [.inl (((((a1).toUInt64 >>> ((Int32.ofInt v3_3).toInt64.toUInt64 &&& Int64.toUInt64 63)).toInt64 &&& (255))).toInt32.toInt), .inr (.inr (some 0))]) (h' := gr_h I1 J2) (C := (((((((True ∧ True) ∧ True) ∧ True) ∧ True) ∧ True) ∧ True) ∧ True)) rfl ⟨⟨⟨⟨⟨⟨⟨trivial, trivial⟩, trivial⟩, trivial⟩, trivial⟩, trivial⟩, trivial⟩, trivial⟩ ?_
          obtain ⟨r11, h11, E11, P11⟩ := r_outs (ws0 := ws0) (tb := tb) hws htb ext I1 J2 hI1 ((((((a1).toUInt64 >>> ((Int32.ofInt v3_3).toInt64.toUInt64 &&& Int64.toUInt64 63)).toInt64 &&& (255))).toInt32.toInt)) ⟨by exact gz_m 8 (by omega), by exact gz_m 9 (by omega)⟩ 
          obtain ⟨I12, J13, rfl, hI12, g11, k11, rfl⟩ := P11
          have FI12 := gr_frt FI1 g11 rfl rfl
          have FJ13 := gr_fjt FJ2 k11 rfl rfl
          refine gv_callV hD rfl (As := [.inl (((((a1).toUInt64 >>> ((Int32.ofInt v3_3).toInt64.toUInt64 &&& Int64.toUInt64 63)).toInt64 &&& (255))).toInt32.toInt)]) (st := []) rfl (by decide) rfl rfl (gr_lV hws rfl) (Nat.le_of_ble_eq_true rfl) (gz_Ev_mono (d := 1) (by decide) E11) ?_
          show gv_X _ _ (31, [(0, .inr (.inr (some 0))), (1, .inr (.inl a1)), (3, .inl v3_3)], [], gr_sh ++ ext, gr_h I12 J13)
          exact L31 I12 J13 hI12 FI12 FJ13 (by exact gz_m 10 (by omega))
  refine gv_run 2 true hD (pc' := 3) (lv' := [(3, .inl 56), (0, .inr (.inr (some 0))), (1, .inr (.inl a1))]) (st' := []) (h' := gr_h I J) (C := ((True ∧ True) ∧ True)) rfl ⟨⟨trivial, trivial⟩, trivial⟩ ?_
  refine gv_pick [1, 2, 0] rfl ?_
  exact L3 _ I J 56 (Nat.lt_succ_self _) hI FI FJ (by exact gz_m 11 (by omega))
set_option maxHeartbeats 8000000 in
set_option maxRecDepth 100000 in
theorem r_outSentence {ws0 : List Cond} {tb : String → gz_T} (hws : ∀ w ∈ gr_ws, w ∈ ws0) (htb : tb RX13 = gr_T) (ext : gz_Sh) (I : gr_I) (J : gr_J) (hI : gr_Inv I)    : ∃ r h', gz_Ev ws0 tb 2 (yX13_outSentence, cX13_outSentence, 3, none) [.inr (.inr (some 0))] (gr_sh ++ ext) (gr_h I J) r (gr_sh ++ ext) h' 0 0 ∧ (∃ (I' : gr_I) (J' : gr_J), h' = gr_h I' J' ∧ gr_Inv I' ∧ gr_fr [70] [58] I I' ∧ gr_fj [70] [58] J J' ∧ r = none) := by
  have FI : gr_fr [70] [58] I I := fun _ _ _ => rfl
  have FJ : gr_fj [70] [58] J J := fun _ _ _ => rfl
  have hD : gv_D (gr_E ws0 tb 1 (yX13_outSentence, cX13_outSentence, 3, none) kX13_outSentence) := gq_of oX13_outSentence
  refine gr_ev (d := 1) (l := kX13_outSentence) (Po := fun r h' => (∃ (I' : gr_I) (J' : gr_J), h' = gr_h I' J' ∧ gr_Inv I' ∧ gr_fr [70] [58] I I' ∧ gr_fj [70] [58] J J' ∧ r = none)) htb rfl (Nat.le_of_ble_eq_true rfl) ?_
  have L7 : ∀ (n : Nat) (I1 : gr_I) (J2 : gr_J) (v1_3 : Int), (25 - v1_3).toNat < n → gr_Inv I1 → gr_fr [70] [58] I I1 → gr_fj [70] [58] J J2 → ((0 ≤ v1_3 ∧ v1_3 ≤ 24)) → gv_X (gr_E ws0 tb 1 (yX13_outSentence, cX13_outSentence, 3, none) kX13_outSentence) (gv_Q cX13_outSentence none (gr_sh ++ ext) (fun r h' => (∃ (I' : gr_I) (J' : gr_J), h' = gr_h I' J' ∧ gr_Inv I' ∧ gr_fr [70] [58] I I' ∧ gr_fj [70] [58] J J' ∧ r = none))) (7, [(0, .inr (.inr (some 0))), (1, .inl v1_3)], [], gr_sh ++ ext, gr_h I1 J2) := by
    intro n
    induction n with
    | zero => intro I1 J2 v1_3 hn; exact gz_m 0 (by omega)
    | succ n ih7 =>
      intro I1 J2 v1_3 hn hI1 FI1 FJ2 m_3
      have hv1_3 := m_3
      have L25 : ∀ (I4 : gr_I) (J5 : gr_J) , gr_Inv I4 → gr_fr [70] [58] I I4 → gr_fj [70] [58] J J5 → ((0 ≤ v1_3 ∧ v1_3 ≤ 23)) → gv_X (gr_E ws0 tb 1 (yX13_outSentence, cX13_outSentence, 3, none) kX13_outSentence) (gv_Q cX13_outSentence none (gr_sh ++ ext) (fun r h' => (∃ (I' : gr_I) (J' : gr_J), h' = gr_h I' J' ∧ gr_Inv I' ∧ gr_fr [70] [58] I I' ∧ gr_fj [70] [58] J J' ∧ r = none))) (25, [(0, .inr (.inr (some 0))), (1, .inl v1_3)], [], gr_sh ++ ext, gr_h I4 J5) := by
        intro I4 J5 hI4 FI4 FJ5 m_6
        clear hv1_3
        have hv1_3_6 := m_6
        have L27 : ∀ (n : Nat) (I7 : gr_I) (J8 : gr_J) (v2_9 : Int), (25 - v2_9).toNat < n → gr_Inv I7 → gr_fr [70] [58] I I7 → gr_fj [70] [58] J J8 → ((0 ≤ v1_3 ∧ v1_3 ≤ 23) ∧ (0 ≤ v2_9 ∧ v2_9 ≤ 24)) → gv_X (gr_E ws0 tb 1 (yX13_outSentence, cX13_outSentence, 3, none) kX13_outSentence) (gv_Q cX13_outSentence none (gr_sh ++ ext) (fun r h' => (∃ (I' : gr_I) (J' : gr_J), h' = gr_h I' J' ∧ gr_Inv I' ∧ gr_fr [70] [58] I I' ∧ gr_fj [70] [58] J J' ∧ r = none))) (27, [(0, .inr (.inr (some 0))), (1, .inl v1_3), (2, .inl v2_9)], [], gr_sh ++ ext, gr_h I7 J8) := by
          intro n
          induction n with
          | zero => intro I7 J8 v2_9 hn; exact gz_m 1 (by omega)
          | succ n ih27 =>
            intro I7 J8 v2_9 hn hI7 FI7 FJ8 m_9
            clear hv1_3_6
            obtain ⟨hv1_3_9, hv2_9⟩ := m_9
            have f10 := (gr_b_85 hI7 (Int.toNat v1_3))
            refine gv_run 5 true hD (pc' := 34) (lv' := [(0, .inr (.inr (some 0))), (1, .inl v1_3), (2, .inl v2_9)]) (st' := [.inl (I7 85 (Int.toNat v1_3)), .inl v2_9]) (h' := gr_h I7 J8) (C := (((((True ∧ True) ∧ True) ∧ True) ∧ True) ∧ (0 ≤ v1_3 ∧ v1_3 < ((24 : Nat) : Int)))) rfl ⟨⟨⟨⟨⟨trivial, trivial⟩, trivial⟩, trivial⟩, trivial⟩, ⟨by exact gz_m 2 (by omega), by exact gz_m 3 (by omega)⟩⟩ ?_
            refine gv_icmp_ge (t := 58) hD rfl rfl ⟨⟨by exact gz_m 4 (by omega), by exact gz_m 5 (by omega)⟩, ⟨by exact gz_m 6 (by omega), by exact gz_m 7 (by omega)⟩⟩ (fun c11 => ?_) (fun c11 => ?_)
            · refine gv_run 2 true hD (pc' := 7) (lv' := [(1, .inl (v1_3 + 1)), (0, .inr (.inr (some 0))), (2, .inl v2_9)]) (st' := []) (h' := gr_h I7 J8) (C := ((True ∧ True) ∧ True)) rfl ⟨⟨trivial, trivial⟩, trivial⟩ ?_
              refine gv_pick [1, 0] rfl ?_
              exact ih7 I7 J8 (v1_3 + 1) (by exact gz_m 8 (by omega)) hI7 FI7 FJ8 (by exact gz_m 9 (by omega))
            · refine gv_run 7 true hD (pc' := 47) (lv' := [(0, .inr (.inr (some 0))), (1, .inl v1_3), (2, .inl v2_9)]) (st' := [.inl v2_9, .inl (24 * v1_3), .inr (.inr (some 83)), .inr (.inr (some 0))]) (h' := gr_h I7 J8) (C := (((((((True ∧ True) ∧ True) ∧ True) ∧ True) ∧ True) ∧ True) ∧ True)) rfl ⟨⟨⟨⟨⟨⟨⟨trivial, trivial⟩, trivial⟩, trivial⟩, trivial⟩, trivial⟩, trivial⟩, trivial⟩ ?_
              have f12 := (gr_b_83 hI7 (Int.toNat (((24 * v1_3) + v2_9))))
              refine gv_run 2 true hD (pc' := 49) (lv' := [(0, .inr (.inr (some 0))), (1, .inl v1_3), (2, .inl v2_9)]) (st' := [.inl (I7 83 (Int.toNat (((24 * v1_3) + v2_9)))), .inr (.inr (some 0))]) (h' := gr_h I7 J8) (C := ((True ∧ True) ∧ (0 ≤ (((24 * v1_3) + v2_9)) ∧ (((24 * v1_3) + v2_9)) < ((576 : Nat) : Int)))) rfl ⟨⟨trivial, trivial⟩, ⟨by exact gz_m 10 (by omega), by exact gz_m 11 (by omega)⟩⟩ ?_
              obtain ⟨r13, h13, E13, P13⟩ := r_outs (ws0 := ws0) (tb := tb) hws htb ext I7 J8 hI7 ((I7 83 (Int.toNat (((24 * v1_3) + v2_9))))) ⟨by exact gz_m 12 (by omega), by exact gz_m 13 (by omega)⟩ 
              obtain ⟨I14, J15, rfl, hI14, g13, k13, rfl⟩ := P13
              have FI14 := gr_frt FI7 g13 rfl rfl
              have FJ15 := gr_fjt FJ8 k13 rfl rfl
              refine gv_callV hD rfl (As := [.inl (I7 83 (Int.toNat (((24 * v1_3) + v2_9))))]) (st := []) rfl (by decide) rfl rfl (gr_lV hws rfl) (Nat.le_of_ble_eq_true rfl) (gz_Ev_mono (d := 1) (by decide) E13) ?_
              show gv_X _ _ (52, [(0, .inr (.inr (some 0))), (1, .inl v1_3), (2, .inl v2_9)], [], gr_sh ++ ext, gr_h I14 J15)
              refine gv_run 2 true hD (pc' := 27) (lv' := [(2, .inl (v2_9 + 1)), (0, .inr (.inr (some 0))), (1, .inl v1_3)]) (st' := []) (h' := gr_h I14 J15) (C := ((True ∧ True) ∧ True)) rfl ⟨⟨trivial, trivial⟩, trivial⟩ ?_
              refine gv_pick [1, 2, 0] rfl ?_
              exact ih27 I14 J15 (v2_9 + 1) (by exact gz_m 14 (by omega)) hI14 FI14 FJ15 (by exact gz_m 15 (by omega))
        refine gv_run 2 true hD (pc' := 27) (lv' := [(2, .inl 0), (0, .inr (.inr (some 0))), (1, .inl v1_3)]) (st' := []) (h' := gr_h I4 J5) (C := ((True ∧ True) ∧ True)) rfl ⟨⟨trivial, trivial⟩, trivial⟩ ?_
        refine gv_pick [1, 2, 0] rfl ?_
        exact L27 _ I4 J5 0 (Nat.lt_succ_self _) hI4 FI4 FJ5 (by exact gz_m 16 (by omega))
      have f16 := (gr_b_0_143 hI1)
      refine gv_run 3 true hD (pc' := 12) (lv' := [(0, .inr (.inr (some 0))), (1, .inl v1_3)]) (st' := [.inl (I1 0 143), .inl v1_3]) (h' := gr_h I1 J2) (C := (((True ∧ True) ∧ True) ∧ True)) rfl ⟨⟨⟨trivial, trivial⟩, trivial⟩, trivial⟩ ?_
      refine gv_icmp_ge (t := 64) hD rfl rfl ⟨⟨by exact gz_m 17 (by omega), by exact gz_m 18 (by omega)⟩, ⟨by exact gz_m 19 (by omega), by exact gz_m 20 (by omega)⟩⟩ (fun c17 => ?_) (fun c17 => ?_)
      · exact gv_vret hD rfl ⟨I1, J2, rfl, hI1, FI1, FJ2, rfl⟩
      · refine gv_run 1 true hD (pc' := 16) (lv' := [(0, .inr (.inr (some 0))), (1, .inl v1_3)]) (st' := [.inl v1_3]) (h' := gr_h I1 J2) (C := (True ∧ True)) rfl ⟨trivial, trivial⟩ ?_
        refine gv_if_le (t := 25) hD rfl rfl ⟨by exact gz_m 21 (by omega), by exact gz_m 22 (by omega)⟩ (fun c18 => ?_) (fun c18 => ?_)
        · exact L25 I1 J2 hI1 FI1 FJ2 (by exact gz_m 23 (by omega))
        · refine gv_run 2 true hD (pc' := 22) (lv' := [(0, .inr (.inr (some 0))), (1, .inl v1_3)]) (st' := [.inl 32, .inr (.inr (some 0))]) (h' := gr_h I1 J2) (C := ((True ∧ True) ∧ True)) rfl ⟨⟨trivial, trivial⟩, trivial⟩ ?_
          obtain ⟨r19, h19, E19, P19⟩ := r_outs (ws0 := ws0) (tb := tb) hws htb ext I1 J2 hI1 32 ⟨by exact gz_m 24 (by omega), by exact gz_m 25 (by omega)⟩ 
          obtain ⟨I20, J21, rfl, hI20, g19, k19, rfl⟩ := P19
          have FI20 := gr_frt FI1 g19 rfl rfl
          have FJ21 := gr_fjt FJ2 k19 rfl rfl
          refine gv_callV hD rfl (As := [.inl 32]) (st := []) rfl (by decide) rfl rfl (gr_lV hws rfl) (Nat.le_of_ble_eq_true rfl) (gz_Ev_mono (d := 1) (by decide) E19) ?_
          show gv_X _ _ (25, [(0, .inr (.inr (some 0))), (1, .inl v1_3)], [], gr_sh ++ ext, gr_h I20 J21)
          exact L25 I20 J21 hI20 FI20 FJ21 (by exact gz_m 26 (by omega))
  refine gv_run 3 true hD (pc' := 5) (lv' := [(0, .inr (.inr (some 0)))]) (st' := []) (h' := gz_up (gr_h I J) 0 70 (.inl 0)) (C := (((True ∧ True) ∧ True) ∧ True)) rfl ⟨⟨⟨trivial, trivial⟩, trivial⟩, trivial⟩ ?_
  refine gr_st hI FI rfl rfl ⟨⟨by show 0 ≤ _; exact gz_m 27 (by omega), by show _ ≤ 1000; exact gz_m 28 (by omega)⟩, trivial⟩ (fun I22 hI22 FI22 q23 p23 => ?_)
  refine gv_run 2 true hD (pc' := 7) (lv' := [(1, .inl 0), (0, .inr (.inr (some 0)))]) (st' := []) (h' := gr_h I22 J) (C := ((True ∧ True) ∧ True)) rfl ⟨⟨trivial, trivial⟩, trivial⟩ ?_
  refine gv_pick [1, 0] rfl ?_
  exact L7 _ I22 J 0 (Nat.lt_succ_self _) hI22 FI22 FJ (by exact gz_m 29 (by omega))
set_option maxHeartbeats 8000000 in
set_option maxRecDepth 100000 in
theorem r_back {ws0 : List Cond} {tb : String → gz_T} (hws : ∀ w ∈ gr_ws, w ∈ ws0) (htb : tb RX13 = gr_T) (ext : gz_Sh) (I : gr_I) (J : gr_J) (hI : gr_Inv I) (a1 : Int) (a2 : Int) (ha1 : 0 ≤ a1 ∧ a1 ≤ 12) (ha2 : (-1) ≤ a2 ∧ a2 ≤ 12)  : ∃ r h', gz_Ev ws0 tb 1 (yX13_back, cX13_back, 5, none) [.inr (.inr (some 0)), .inl a1, .inl a2] (gr_sh ++ ext) (gr_h I J) r (gr_sh ++ ext) h' 0 0 ∧ (∃ (I' : gr_I) (J' : gr_J), h' = gr_h I' J' ∧ gr_Inv I' ∧ gr_fr [143] [83, 84, 85, 86] I I' ∧ gr_fj [143] [83, 84, 85, 86] J J' ∧ r = none) := by
  have FI : gr_fr [143] [83, 84, 85, 86] I I := fun _ _ _ => rfl
  have FJ : gr_fj [143] [83, 84, 85, 86] J J := fun _ _ _ => rfl
  have hD : gv_D (gr_E ws0 tb 0 (yX13_back, cX13_back, 5, none) kX13_back) := gq_of oX13_back
  refine gr_ev (d := 0) (l := kX13_back) (Po := fun r h' => (∃ (I' : gr_I) (J' : gr_J), h' = gr_h I' J' ∧ gr_Inv I' ∧ gr_fr [143] [83, 84, 85, 86] I I' ∧ gr_fj [143] [83, 84, 85, 86] J J' ∧ r = none)) htb rfl (Nat.le_of_ble_eq_true rfl) ?_
  have f1 := (gr_b_0_143 hI)
  have L7 : ∀ (n : Nat) (I2 : gr_I) (J3 : gr_J) (v3_4 : Int), (13 - v3_4).toNat < n → gr_Inv I2 → gr_fr [143] [83, 84, 85, 86] I I2 → gr_fj [143] [83, 84, 85, 86] J J3 → ((0 ≤ a1 ∧ a1 ≤ 12) ∧ ((-1) ≤ a2 ∧ a2 ≤ 12) ∧ (0 ≤ v3_4 ∧ v3_4 ≤ 12) ∧ (I2 0 143 ≤ v3_4)) → gv_X (gr_E ws0 tb 0 (yX13_back, cX13_back, 5, none) kX13_back) (gv_Q cX13_back none (gr_sh ++ ext) (fun r h' => (∃ (I' : gr_I) (J' : gr_J), h' = gr_h I' J' ∧ gr_Inv I' ∧ gr_fr [143] [83, 84, 85, 86] I I' ∧ gr_fj [143] [83, 84, 85, 86] J J' ∧ r = none))) (7, [(0, .inr (.inr (some 0))), (1, .inl a1), (2, .inl a2), (3, .inl v3_4)], [], gr_sh ++ ext, gr_h I2 J3) := by
    intro n
    induction n with
    | zero => intro I2 J3 v3_4 hn; exact gz_m 0 (by omega)
    | succ n ih7 =>
      intro I2 J3 v3_4 hn hI2 FI2 FJ3 m_4
      obtain ⟨ha1_4, ha2_4, hv3_4, e0_4⟩ := m_4
      have f5 := (gr_b_0_143 hI2)
      have L92 : ∀ (I6 : gr_I) (J7 : gr_J) , gr_Inv I6 → gr_fr [143] [83, 84, 85, 86] I I6 → gr_fj [143] [83, 84, 85, 86] J J7 → ((1 ≤ a1 ∧ a1 ≤ 12) ∧ ((-1) ≤ a2 ∧ a2 ≤ 12) ∧ (0 ≤ v3_4 ∧ v3_4 ≤ 11) ∧ (I6 0 143 ≤ v3_4 + 1)) → gv_X (gr_E ws0 tb 0 (yX13_back, cX13_back, 5, none) kX13_back) (gv_Q cX13_back none (gr_sh ++ ext) (fun r h' => (∃ (I' : gr_I) (J' : gr_J), h' = gr_h I' J' ∧ gr_Inv I' ∧ gr_fr [143] [83, 84, 85, 86] I I' ∧ gr_fj [143] [83, 84, 85, 86] J J' ∧ r = none))) (92, [(0, .inr (.inr (some 0))), (1, .inl a1), (2, .inl a2), (3, .inl v3_4)], [], gr_sh ++ ext, gr_h I6 J7) := by
        intro I6 J7 hI6 FI6 FJ7 m_8
        clear ha1_4 ha2_4 hv3_4 e0_4 f5
        obtain ⟨ha1_8, ha2_8, hv3_4_8, e0_8⟩ := m_8
        have f9 := (gr_b_0_143 hI6)
        refine gv_run 2 true hD (pc' := 7) (lv' := [(3, .inl (v3_4 + 1)), (0, .inr (.inr (some 0))), (1, .inl a1), (2, .inl a2)]) (st' := []) (h' := gr_h I6 J7) (C := ((True ∧ True) ∧ True)) rfl ⟨⟨trivial, trivial⟩, trivial⟩ ?_
        refine gv_pick [1, 2, 3, 0] rfl ?_
        exact ih7 I6 J7 (v3_4 + 1) (by exact gz_m 1 (by omega)) hI6 FI6 FJ7 (by exact gz_m 2 (by omega))
      have L38 : ∀ (n : Nat) (I10 : gr_I) (J11 : gr_J) (v4_12 : Int), (25 - v4_12).toNat < n → gr_Inv I10 → gr_fr [143] [83, 84, 85, 86] I I10 → gr_fj [143] [83, 84, 85, 86] J J11 → ((1 ≤ a1 ∧ a1 ≤ 12) ∧ ((-1) ≤ a2 ∧ a2 ≤ 12) ∧ (0 ≤ v3_4 ∧ v3_4 ≤ 11) ∧ (0 ≤ v4_12 ∧ v4_12 ≤ 24) ∧ (I10 0 143 ≤ v3_4)) → gv_X (gr_E ws0 tb 0 (yX13_back, cX13_back, 5, none) kX13_back) (gv_Q cX13_back none (gr_sh ++ ext) (fun r h' => (∃ (I' : gr_I) (J' : gr_J), h' = gr_h I' J' ∧ gr_Inv I' ∧ gr_fr [143] [83, 84, 85, 86] I I' ∧ gr_fj [143] [83, 84, 85, 86] J J' ∧ r = none))) (38, [(0, .inr (.inr (some 0))), (1, .inl a1), (2, .inl a2), (3, .inl v3_4), (4, .inl v4_12)], [], gr_sh ++ ext, gr_h I10 J11) := by
        intro n
        induction n with
        | zero => intro I10 J11 v4_12 hn; exact gz_m 3 (by omega)
        | succ n ih38 =>
          intro I10 J11 v4_12 hn hI10 FI10 FJ11 m_12
          clear ha1_4 ha2_4 hv3_4 e0_4 f5
          obtain ⟨ha1_12, ha2_12, hv3_4_12, hv4_12, e0_12⟩ := m_12
          have f13 := (gr_b_0_143 hI10)
          have f14 := (gr_b_86 hI10 (Int.toNat v3_4))
          refine gv_run 5 true hD (pc' := 46) (lv' := [(0, .inr (.inr (some 0))), (1, .inl a1), (2, .inl a2), (3, .inl v3_4), (4, .inl v4_12)]) (st' := [.inl (I10 86 (Int.toNat v3_4)), .inl v4_12]) (h' := gr_h I10 J11) (C := (((((True ∧ True) ∧ True) ∧ True) ∧ True) ∧ (0 ≤ v3_4 ∧ v3_4 < ((24 : Nat) : Int)))) rfl ⟨⟨⟨⟨⟨trivial, trivial⟩, trivial⟩, trivial⟩, trivial⟩, ⟨by exact gz_m 4 (by omega), by exact gz_m 5 (by omega)⟩⟩ ?_
          refine gv_icmp_ge (t := 82) hD rfl rfl ⟨⟨by exact gz_m 6 (by omega), by exact gz_m 7 (by omega)⟩, ⟨by exact gz_m 8 (by omega), by exact gz_m 9 (by omega)⟩⟩ (fun c15 => ?_) (fun c15 => ?_)
          · have f16 := (gr_b_0_143 hI10)
            refine gv_run 5 true hD (pc' := 89) (lv' := [(0, .inr (.inr (some 0))), (1, .inl a1), (2, .inl a2), (3, .inl v3_4), (4, .inl v4_12)]) (st' := [.inl ((I10 0 143) + 1), .inr (.inr (some 0))]) (h' := gr_h I10 J11) (C := (((((True ∧ True) ∧ True) ∧ True) ∧ True) ∧ True)) rfl ⟨⟨⟨⟨⟨trivial, trivial⟩, trivial⟩, trivial⟩, trivial⟩, trivial⟩ ?_
            refine gv_run 1 true hD (pc' := 92) (lv' := [(0, .inr (.inr (some 0))), (1, .inl a1), (2, .inl a2), (3, .inl v3_4), (4, .inl v4_12)]) (st' := []) (h' := gz_up (gr_h I10 J11) 0 143 (.inl (((I10 0 143) + 1)))) (C := (True ∧ True)) rfl ⟨trivial, trivial⟩ ?_
            refine gr_st hI10 FI10 rfl rfl ⟨⟨by show 0 ≤ _; exact gz_m 10 (by omega), by show _ ≤ 24; exact gz_m 11 (by omega)⟩, trivial⟩ (fun I17 hI17 FI17 q18 p18 => ?_)
            have f19 := (gr_b_0_143 hI17)
            refine gv_pick [0, 1, 2, 3] rfl ?_
            exact L92 I17 J11 hI17 FI17 FJ11 (by exact gz_m 12 (by omega))
          · have f20 := (gr_b_0_143 hI10)
            refine gv_run 7 true hD (pc' := 62) (lv' := [(0, .inr (.inr (some 0))), (1, .inl a1), (2, .inl a2), (3, .inl v3_4), (4, .inl v4_12)]) (st' := [.inl v4_12, .inl (24 * (I10 0 143)), .inr (.inr (some 83))]) (h' := gr_h I10 J11) (C := (((((((True ∧ True) ∧ True) ∧ True) ∧ True) ∧ True) ∧ True) ∧ True)) rfl ⟨⟨⟨⟨⟨⟨⟨trivial, trivial⟩, trivial⟩, trivial⟩, trivial⟩, trivial⟩, trivial⟩, trivial⟩ ?_
            refine gv_run 7 true hD (pc' := 73) (lv' := [(0, .inr (.inr (some 0))), (1, .inl a1), (2, .inl a2), (3, .inl v3_4), (4, .inl v4_12)]) (st' := [.inl v4_12, .inl (24 * v3_4), .inr (.inr (some 84)), .inl ((24 * (I10 0 143)) + v4_12), .inr (.inr (some 83))]) (h' := gr_h I10 J11) (C := (((((((True ∧ True) ∧ True) ∧ True) ∧ True) ∧ True) ∧ True) ∧ True)) rfl ⟨⟨⟨⟨⟨⟨⟨trivial, trivial⟩, trivial⟩, trivial⟩, trivial⟩, trivial⟩, trivial⟩, trivial⟩ ?_
            have f21 := (gr_b_84 hI10 (Int.toNat (((24 * v3_4) + v4_12))))
            refine gv_run 2 true hD (pc' := 75) (lv' := [(0, .inr (.inr (some 0))), (1, .inl a1), (2, .inl a2), (3, .inl v3_4), (4, .inl v4_12)]) (st' := [.inl (I10 84 (Int.toNat (((24 * v3_4) + v4_12)))), .inl ((24 * (I10 0 143)) + v4_12), .inr (.inr (some 83))]) (h' := gr_h I10 J11) (C := ((True ∧ True) ∧ (0 ≤ (((24 * v3_4) + v4_12)) ∧ (((24 * v3_4) + v4_12)) < ((576 : Nat) : Int)))) rfl ⟨⟨trivial, trivial⟩, ⟨by exact gz_m 13 (by omega), by exact gz_m 14 (by omega)⟩⟩ ?_
            have f22 := gw_nar_byte (x := ((I10 84 (Int.toNat (((24 * v3_4) + v4_12))))))
            refine gv_run 1 true hD (pc' := 76) (lv' := [(0, .inr (.inr (some 0))), (1, .inl a1), (2, .inl a2), (3, .inl v3_4), (4, .inl v4_12)]) (st' := []) (h' := gz_up (gr_h I10 J11) 83 (Int.toNat (((24 * (I10 0 143)) + v4_12))) (.inl (((vp_nar .byte (Int32.ofInt ((I10 84 (Int.toNat (((24 * v3_4) + v4_12))))))).toInt)))) (C := (True ∧ (0 ≤ (((24 * (I10 0 143)) + v4_12)) ∧ (((24 * (I10 0 143)) + v4_12)) < ((576 : Nat) : Int)))) rfl ⟨trivial, ⟨by exact gz_m 15 (by omega), by exact gz_m 16 (by omega)⟩⟩ ?_
            refine gr_st hI10 FI10 rfl rfl ⟨⟨by show (-128) ≤ _; exact gz_m 17 (by omega), by show _ ≤ 127; exact gz_m 18 (by omega)⟩, trivial⟩ (fun I23 hI23 FI23 q24 p24 => ?_)
            have t25 := p24 0 143 (fun q => absurd q.1 (by decide))
            have f26 := (gr_b_0_143 hI23)
            refine gv_run 2 true hD (pc' := 38) (lv' := [(4, .inl (v4_12 + 1)), (0, .inr (.inr (some 0))), (1, .inl a1), (2, .inl a2), (3, .inl v3_4)]) (st' := []) (h' := gr_h I23 J11) (C := ((True ∧ True) ∧ True)) rfl ⟨⟨trivial, trivial⟩, trivial⟩ ?_
            refine gv_pick [1, 2, 3, 4, 0] rfl ?_
            exact ih38 I23 J11 (v4_12 + 1) (by exact gz_m 19 (by omega)) hI23 FI23 FJ11 (by exact gz_m 20 (by omega))
      refine gv_run 2 true hD (pc' := 9) (lv' := [(0, .inr (.inr (some 0))), (1, .inl a1), (2, .inl a2), (3, .inl v3_4)]) (st' := [.inl a1, .inl v3_4]) (h' := gr_h I2 J3) (C := ((True ∧ True) ∧ True)) rfl ⟨⟨trivial, trivial⟩, trivial⟩ ?_
      refine gv_icmp_ge (t := 98) hD rfl rfl ⟨⟨by exact gz_m 21 (by omega), by exact gz_m 22 (by omega)⟩, ⟨by exact gz_m 23 (by omega), by exact gz_m 24 (by omega)⟩⟩ (fun c27 => ?_) (fun c27 => ?_)
      · exact gv_vret hD rfl ⟨I2, J3, rfl, hI2, FI2, FJ3, rfl⟩
      · refine gv_run 2 true hD (pc' := 14) (lv' := [(0, .inr (.inr (some 0))), (1, .inl a1), (2, .inl a2), (3, .inl v3_4)]) (st' := [.inl a2, .inl v3_4]) (h' := gr_h I2 J3) (C := ((True ∧ True) ∧ True)) rfl ⟨⟨trivial, trivial⟩, trivial⟩ ?_
        refine gv_icmp_ne (t := 20) hD rfl rfl ⟨⟨by exact gz_m 25 (by omega), by exact gz_m 26 (by omega)⟩, ⟨by exact gz_m 27 (by omega), by exact gz_m 28 (by omega)⟩⟩ (fun c28 => ?_) (fun c28 => ?_)
        · have f29 := (gr_b_0_143 hI2)
          refine gv_run 7 true hD (pc' := 33) (lv' := [(0, .inr (.inr (some 0))), (1, .inl a1), (2, .inl a2), (3, .inl v3_4)]) (st' := [.inl v3_4, .inr (.inr (some 86)), .inl (I2 0 143), .inr (.inr (some 85))]) (h' := gr_h I2 J3) (C := (((((((True ∧ True) ∧ True) ∧ True) ∧ True) ∧ True) ∧ True) ∧ True)) rfl ⟨⟨⟨⟨⟨⟨⟨trivial, trivial⟩, trivial⟩, trivial⟩, trivial⟩, trivial⟩, trivial⟩, trivial⟩ ?_
          have f30 := (gr_b_86 hI2 (Int.toNat v3_4))
          refine gv_run 1 true hD (pc' := 34) (lv' := [(0, .inr (.inr (some 0))), (1, .inl a1), (2, .inl a2), (3, .inl v3_4)]) (st' := [.inl (I2 86 (Int.toNat v3_4)), .inl (I2 0 143), .inr (.inr (some 85))]) (h' := gr_h I2 J3) (C := (True ∧ (0 ≤ v3_4 ∧ v3_4 < ((24 : Nat) : Int)))) rfl ⟨trivial, ⟨by exact gz_m 29 (by omega), by exact gz_m 30 (by omega)⟩⟩ ?_
          refine gv_run 1 true hD (pc' := 35) (lv' := [(0, .inr (.inr (some 0))), (1, .inl a1), (2, .inl a2), (3, .inl v3_4)]) (st' := []) (h' := gz_up (gr_h I2 J3) 85 (Int.toNat ((I2 0 143))) (.inl ((I2 86 (Int.toNat v3_4))))) (C := (True ∧ (0 ≤ (I2 0 143) ∧ (I2 0 143) < ((24 : Nat) : Int)))) rfl ⟨trivial, ⟨by exact gz_m 31 (by omega), by exact gz_m 32 (by omega)⟩⟩ ?_
          refine gr_st hI2 FI2 rfl rfl ⟨⟨by show 0 ≤ _; exact gz_m 33 (by omega), by show _ ≤ 24; exact gz_m 34 (by omega)⟩, trivial⟩ (fun I31 hI31 FI31 q32 p32 => ?_)
          have t33 := p32 0 143 (fun q => absurd q.1 (by decide))
          have f34 := (gr_b_0_143 hI31)
          refine gv_run 2 true hD (pc' := 38) (lv' := [(4, .inl 0), (0, .inr (.inr (some 0))), (1, .inl a1), (2, .inl a2), (3, .inl v3_4)]) (st' := []) (h' := gr_h I31 J3) (C := ((True ∧ True) ∧ True)) rfl ⟨⟨trivial, trivial⟩, trivial⟩ ?_
          refine gv_pick [1, 2, 3, 4, 0] rfl ?_
          exact L38 _ I31 J3 0 (Nat.lt_succ_self _) hI31 FI31 FJ3 (by exact gz_m 35 (by omega))
        · refine gv_run 1 true hD (pc' := 92) (lv' := [(0, .inr (.inr (some 0))), (1, .inl a1), (2, .inl a2), (3, .inl v3_4)]) (st' := []) (h' := gr_h I2 J3) (C := (True ∧ True)) rfl ⟨trivial, trivial⟩ ?_
          exact L92 I2 J3 hI2 FI2 FJ3 (by exact gz_m 36 (by omega))
  refine gv_run 3 true hD (pc' := 5) (lv' := [(0, .inr (.inr (some 0))), (1, .inl a1), (2, .inl a2)]) (st' := []) (h' := gz_up (gr_h I J) 0 143 (.inl 0)) (C := (((True ∧ True) ∧ True) ∧ True)) rfl ⟨⟨⟨trivial, trivial⟩, trivial⟩, trivial⟩ ?_
  refine gr_st hI FI rfl rfl ⟨⟨by show 0 ≤ _; exact gz_m 37 (by omega), by show _ ≤ 24; exact gz_m 38 (by omega)⟩, trivial⟩ (fun I35 hI35 FI35 q36 p36 => ?_)
  have f37 := (gr_b_0_143 hI35)
  refine gv_run 2 true hD (pc' := 7) (lv' := [(3, .inl 0), (0, .inr (.inr (some 0))), (1, .inl a1), (2, .inl a2)]) (st' := []) (h' := gr_h I35 J) (C := ((True ∧ True) ∧ True)) rfl ⟨⟨trivial, trivial⟩, trivial⟩ ?_
  refine gv_pick [1, 2, 3, 0] rfl ?_
  exact L7 _ I35 J 0 (Nat.lt_succ_self _) hI35 FI35 FJ (by exact gz_m 39 (by omega))
set_option maxHeartbeats 8000000 in
set_option maxRecDepth 100000 in
theorem r_size {ws0 : List Cond} {tb : String → gz_T} (hws : ∀ w ∈ gr_ws, w ∈ ws0) (htb : tb RX13 = gr_T) (ext : gz_Sh) (I : gr_I) (J : gr_J) (hI : gr_Inv I)    : ∃ r h', gz_Ev ws0 tb 1 (yX13_size, cX13_size, 1, (some .int)) [.inr (.inr (some 0))] (gr_sh ++ ext) (gr_h I J) r (gr_sh ++ ext) h' 0 0 ∧ (h' = gr_h I J ∧ (∃ z : Int, r = some (.inl z) ∧ (-1002) ≤ z ∧ z ≤ 999 ∧ (z = I 0 73 - I 0 72 - 2))) := by
  have hD : gv_D (gr_E ws0 tb 0 (yX13_size, cX13_size, 1, (some .int)) kX13_size) := gq_of oX13_size
  refine gr_ev (d := 0) (l := kX13_size) (Po := fun r h' => (h' = gr_h I J ∧ (∃ z : Int, r = some (.inl z) ∧ (-1002) ≤ z ∧ z ≤ 999 ∧ (z = I 0 73 - I 0 72 - 2)))) htb rfl (Nat.le_of_ble_eq_true rfl) ?_
  have f1 := (gr_b_0_73 hI)
  have f2 := (gr_b_0_72 hI)
  refine gv_run 7 true hD (pc' := 11) (lv' := [(0, .inr (.inr (some 0)))]) (st' := [.inl (((I 0 73) - (I 0 72)) - 2)]) (h' := gr_h I J) (C := (((((((True ∧ True) ∧ True) ∧ True) ∧ True) ∧ True) ∧ True) ∧ True)) rfl ⟨⟨⟨⟨⟨⟨⟨trivial, trivial⟩, trivial⟩, trivial⟩, trivial⟩, trivial⟩, trivial⟩, trivial⟩ ?_
  exact gv_iret hD rfl ⟨rfl, ⟨_, rfl, by omega⟩⟩
