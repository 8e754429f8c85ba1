set_option maxHeartbeats 8000000 in
set_option maxRecDepth 100000 in
theorem r_isForm_83 {ws0 : List Cond} {tb : String → gz_T} (hws : ∀ w ∈ gr_ws, w ∈ ws0) (htb : tb RX13 = gr_T) (ext : gz_Sh) (I : gr_I) (J : gr_J) (hI : gr_Inv I) (a1 : Int) (a3 : Int) (a4 : Int) (ha1 : 0 ≤ a1 ∧ a1 ≤ 1535) (ha3 : 0 ≤ a3 ∧ a3 ≤ 576) (ha4 : 0 ≤ a4 ∧ a4 ≤ 24) (x0 : a3 + a4 ≤ 576) : ∃ r h', gz_Ev ws0 tb 1 (yX13_isForm, cX13_isForm, 6, (some .boolean)) [.inr (.inr (some 0)), .inl a1, .inr (.inr (some 83)), .inl a3, .inl a4] (gr_sh ++ ext) (gr_h I J) r (gr_sh ++ ext) h' 0 0 ∧ (h' = gr_h I J ∧ (∃ z : Int, r = some (.inl z) ∧ 0 ≤ z ∧ z ≤ 1)) := by
  have hD : gv_D (gr_E ws0 tb 0 (yX13_isForm, cX13_isForm, 6, (some .boolean)) kX13_isForm) := gq_of oX13_isForm
  refine gr_ev (d := 0) (l := kX13_isForm) (Po := fun r h' => (h' = gr_h I J ∧ (∃ z : Int, r = some (.inl z) ∧ 0 ≤ z ∧ z ≤ 1))) htb rfl (Nat.le_of_ble_eq_true rfl) ?_
  have L16 : ∀ (n : Nat) (v5_1 : Int), (25 - v5_1).toNat < n → ((0 ≤ a1 ∧ a1 ≤ 1535) ∧ (0 ≤ a3 ∧ a3 ≤ 576) ∧ (0 ≤ a4 ∧ a4 ≤ 24) ∧ (0 ≤ v5_1 ∧ v5_1 ≤ 24) ∧ (a3 + a4 ≤ 576)) → gv_X (gr_E ws0 tb 0 (yX13_isForm, cX13_isForm, 6, (some .boolean)) kX13_isForm) (gv_Q cX13_isForm (some .boolean) (gr_sh ++ ext) (fun r h' => (h' = gr_h I J ∧ (∃ z : Int, r = some (.inl z) ∧ 0 ≤ z ∧ z ≤ 1)))) (16, [(0, .inr (.inr (some 0))), (1, .inl a1), (2, .inr (.inr (some 83))), (3, .inl a3), (4, .inl a4), (5, .inl v5_1)], [], gr_sh ++ ext, gr_h I J) := by
    intro n
    induction n with
    | zero => intro v5_1 hn; exact gz_m 0 (by omega)
    | succ n ih16 =>
      intro v5_1 hn m_1
      obtain ⟨ha1_1, ha3_1, ha4_1, hv5_1, e0_1⟩ := m_1
      refine gv_run 2 true hD (pc' := 20) (lv' := [(0, .inr (.inr (some 0))), (1, .inl a1), (2, .inr (.inr (some 83))), (3, .inl a3), (4, .inl a4), (5, .inl v5_1)]) (st' := [.inl a4, .inl v5_1]) (h' := gr_h I J) (C := ((True ∧ True) ∧ True)) rfl ⟨⟨trivial, trivial⟩, trivial⟩ ?_
      refine gv_icmp_ge (t := 52) hD rfl rfl ⟨⟨by exact gz_m 1 (by omega), by exact gz_m 2 (by omega)⟩, ⟨by exact gz_m 3 (by omega), by exact gz_m 4 (by omega)⟩⟩ (fun c2 => ?_) (fun c2 => ?_)
      · refine gv_run 1 true hD (pc' := 53) (lv' := [(0, .inr (.inr (some 0))), (1, .inl a1), (2, .inr (.inr (some 83))), (3, .inl a3), (4, .inl a4), (5, .inl v5_1)]) (st' := [.inl 1]) (h' := gr_h I J) (C := (True ∧ True)) rfl ⟨trivial, trivial⟩ ?_
        exact gv_zret hD rfl (by exact gz_m 5 (by omega)) ⟨rfl, ⟨_, rfl, by exact gz_m 6 (by omega)⟩⟩
      · refine gv_run 7 true hD (pc' := 34) (lv' := [(0, .inr (.inr (some 0))), (1, .inl a1), (2, .inr (.inr (some 83))), (3, .inl a3), (4, .inl a4), (5, .inl v5_1)]) (st' := [.inl ((24 * a1) + v5_1), .inr (.inr (some 78))]) (h' := gr_h I J) (C := (((((((True ∧ True) ∧ True) ∧ True) ∧ True) ∧ True) ∧ True) ∧ True)) rfl ⟨⟨⟨⟨⟨⟨⟨trivial, trivial⟩, trivial⟩, trivial⟩, trivial⟩, trivial⟩, trivial⟩, trivial⟩ ?_
        have f3 := (gr_b_78 hI (Int.toNat (((24 * a1) + v5_1))))
        refine gv_run 1 true hD (pc' := 35) (lv' := [(0, .inr (.inr (some 0))), (1, .inl a1), (2, .inr (.inr (some 83))), (3, .inl a3), (4, .inl a4), (5, .inl v5_1)]) (st' := [.inl (I 78 (Int.toNat (((24 * a1) + v5_1))))]) (h' := gr_h I J) (C := (True ∧ (0 ≤ (((24 * a1) + v5_1)) ∧ (((24 * a1) + v5_1)) < ((36864 : Nat) : Int)))) rfl ⟨trivial, ⟨by exact gz_m 7 (by omega), by exact gz_m 8 (by omega)⟩⟩ ?_
        have f4 := (gr_b_83 hI (Int.toNat ((a3 + v5_1))))
        refine gv_run 5 true hD (pc' := 41) (lv' := [(0, .inr (.inr (some 0))), (1, .inl a1), (2, .inr (.inr (some 83))), (3, .inl a3), (4, .inl a4), (5, .inl v5_1)]) (st' := [.inl (I 83 (Int.toNat ((a3 + v5_1)))), .inl (I 78 (Int.toNat (((24 * a1) + v5_1))))]) (h' := gr_h I J) (C := (((((True ∧ True) ∧ True) ∧ True) ∧ True) ∧ (0 ≤ (a3 + v5_1) ∧ (a3 + v5_1) < ((576 : Nat) : Int)))) rfl ⟨⟨⟨⟨⟨trivial, trivial⟩, trivial⟩, trivial⟩, trivial⟩, ⟨by exact gz_m 9 (by omega), by exact gz_m 10 (by omega)⟩⟩ ?_
        refine gv_icmp_eq (t := 46) hD rfl rfl ⟨⟨by exact gz_m 11 (by omega), by exact gz_m 12 (by omega)⟩, ⟨by exact gz_m 13 (by omega), by exact gz_m 14 (by omega)⟩⟩ (fun c5 => ?_) (fun c5 => ?_)
        · refine gv_run 2 true hD (pc' := 16) (lv' := [(5, .inl (v5_1 + 1)), (0, .inr (.inr (some 0))), (1, .inl a1), (2, .inr (.inr (some 83))), (3, .inl a3), (4, .inl a4)]) (st' := []) (h' := gr_h I J) (C := ((True ∧ True) ∧ True)) rfl ⟨⟨trivial, trivial⟩, trivial⟩ ?_
          refine gv_pick [1, 2, 3, 4, 5, 0] rfl ?_
          exact ih16 (v5_1 + 1) (by exact gz_m 15 (by omega)) (by exact gz_m 16 (by omega))
        · refine gv_run 1 true hD (pc' := 45) (lv' := [(0, .inr (.inr (some 0))), (1, .inl a1), (2, .inr (.inr (some 83))), (3, .inl a3), (4, .inl a4), (5, .inl v5_1)]) (st' := [.inl 0]) (h' := gr_h I J) (C := (True ∧ True)) rfl ⟨trivial, trivial⟩ ?_
          exact gv_zret hD rfl (by exact gz_m 17 (by omega)) ⟨rfl, ⟨_, rfl, by exact gz_m 18 (by omega)⟩⟩
  have f6 := (gr_b_79 hI (Int.toNat a1))
  refine gv_run 4 true hD (pc' := 6) (lv' := [(0, .inr (.inr (some 0))), (1, .inl a1), (2, .inr (.inr (some 83))), (3, .inl a3), (4, .inl a4)]) (st' := [.inl (I 79 (Int.toNat a1))]) (h' := gr_h I J) (C := ((((True ∧ True) ∧ True) ∧ True) ∧ (0 ≤ a1 ∧ a1 < ((1536 : Nat) : Int)))) rfl ⟨⟨⟨⟨trivial, trivial⟩, trivial⟩, trivial⟩, ⟨by exact gz_m 19 (by omega), by exact gz_m 20 (by omega)⟩⟩ ?_
  refine gv_run 1 true hD (pc' := 8) (lv' := [(0, .inr (.inr (some 0))), (1, .inl a1), (2, .inr (.inr (some 83))), (3, .inl a3), (4, .inl a4)]) (st' := [.inl a4, .inl (I 79 (Int.toNat a1))]) (h' := gr_h I J) (C := (True ∧ True)) rfl ⟨trivial, trivial⟩ ?_
  refine gv_icmp_eq (t := 13) hD rfl rfl ⟨⟨by exact gz_m 21 (by omega), by exact gz_m 22 (by omega)⟩, ⟨by exact gz_m 23 (by omega), by exact gz_m 24 (by omega)⟩⟩ (fun c7 => ?_) (fun c7 => ?_)
  · refine gv_run 2 true hD (pc' := 16) (lv' := [(5, .inl 0), (0, .inr (.inr (some 0))), (1, .inl a1), (2, .inr (.inr (some 83))), (3, .inl a3), (4, .inl a4)]) (st' := []) (h' := gr_h I J) (C := ((True ∧ True) ∧ True)) rfl ⟨⟨trivial, trivial⟩, trivial⟩ ?_
    refine gv_pick [1, 2, 3, 4, 5, 0] rfl ?_
    exact L16 _ 0 (Nat.lt_succ_self _) (by exact gz_m 25 (by omega))
  · refine gv_run 1 true hD (pc' := 12) (lv' := [(0, .inr (.inr (some 0))), (1, .inl a1), (2, .inr (.inr (some 83))), (3, .inl a3), (4, .inl a4)]) (st' := [.inl 0]) (h' := gr_h I J) (C := (True ∧ True)) rfl ⟨trivial, trivial⟩ ?_
    exact gv_zret hD rfl (by exact gz_m 26 (by omega)) ⟨rfl, ⟨_, rfl, by exact gz_m 27 (by omega)⟩⟩
set_option maxHeartbeats 8000000 in
set_option maxRecDepth 100000 in
theorem r_isForm_84 {ws0 : List Cond} {tb : String → gz_T} (hws : ∀ w ∈ gr_ws, w ∈ ws0) (htb : tb RX13 = gr_T) (ext : gz_Sh) (I : gr_I) (J : gr_J) (hI : gr_Inv I) (a1 : Int) (a3 : Int) (a4 : Int) (ha1 : 0 ≤ a1 ∧ a1 ≤ 1535) (ha3 : 0 ≤ a3 ∧ a3 ≤ 576) (ha4 : 0 ≤ a4 ∧ a4 ≤ 24) (x0 : a3 + a4 ≤ 576) : ∃ r h', gz_Ev ws0 tb 1 (yX13_isForm, cX13_isForm, 6, (some .boolean)) [.inr (.inr (some 0)), .inl a1, .inr (.inr (some 84)), .inl a3, .inl a4] (gr_sh ++ ext) (gr_h I J) r (gr_sh ++ ext) h' 0 0 ∧ (h' = gr_h I J ∧ (∃ z : Int, r = some (.inl z) ∧ 0 ≤ z ∧ z ≤ 1)) := by
  have hD : gv_D (gr_E ws0 tb 0 (yX13_isForm, cX13_isForm, 6, (some .boolean)) kX13_isForm) := gq_of oX13_isForm
  refine gr_ev (d := 0) (l := kX13_isForm) (Po := fun r h' => (h' = gr_h I J ∧ (∃ z : Int, r = some (.inl z) ∧ 0 ≤ z ∧ z ≤ 1))) htb rfl (Nat.le_of_ble_eq_true rfl) ?_
  have L16 : ∀ (n : Nat) (v5_1 : Int), (25 - v5_1).toNat < n → ((0 ≤ a1 ∧ a1 ≤ 1535) ∧ (0 ≤ a3 ∧ a3 ≤ 576) ∧ (0 ≤ a4 ∧ a4 ≤ 24) ∧ (0 ≤ v5_1 ∧ v5_1 ≤ 24) ∧ (a3 + a4 ≤ 576)) → gv_X (gr_E ws0 tb 0 (yX13_isForm, cX13_isForm, 6, (some .boolean)) kX13_isForm) (gv_Q cX13_isForm (some .boolean) (gr_sh ++ ext) (fun r h' => (h' = gr_h I J ∧ (∃ z : Int, r = some (.inl z) ∧ 0 ≤ z ∧ z ≤ 1)))) (16, [(0, .inr (.inr (some 0))), (1, .inl a1), (2, .inr (.inr (some 84))), (3, .inl a3), (4, .inl a4), (5, .inl v5_1)], [], gr_sh ++ ext, gr_h I J) := by
    intro n
    induction n with
    | zero => intro v5_1 hn; exact gz_m 0 (by omega)
    | succ n ih16 =>
      intro v5_1 hn m_1
      obtain ⟨ha1_1, ha3_1, ha4_1, hv5_1, e0_1⟩ := m_1
      refine gv_run 2 true hD (pc' := 20) (lv' := [(0, .inr (.inr (some 0))), (1, .inl a1), (2, .inr (.inr (some 84))), (3, .inl a3), (4, .inl a4), (5, .inl v5_1)]) (st' := [.inl a4, .inl v5_1]) (h' := gr_h I J) (C := ((True ∧ True) ∧ True)) rfl ⟨⟨trivial, trivial⟩, trivial⟩ ?_
      refine gv_icmp_ge (t := 52) hD rfl rfl ⟨⟨by exact gz_m 1 (by omega), by exact gz_m 2 (by omega)⟩, ⟨by exact gz_m 3 (by omega), by exact gz_m 4 (by omega)⟩⟩ (fun c2 => ?_) (fun c2 => ?_)
      · refine gv_run 1 true hD (pc' := 53) (lv' := [(0, .inr (.inr (some 0))), (1, .inl a1), (2, .inr (.inr (some 84))), (3, .inl a3), (4, .inl a4), (5, .inl v5_1)]) (st' := [.inl 1]) (h' := gr_h I J) (C := (True ∧ True)) rfl ⟨trivial, trivial⟩ ?_
        exact gv_zret hD rfl (by exact gz_m 5 (by omega)) ⟨rfl, ⟨_, rfl, by exact gz_m 6 (by omega)⟩⟩
      · refine gv_run 7 true hD (pc' := 34) (lv' := [(0, .inr (.inr (some 0))), (1, .inl a1), (2, .inr (.inr (some 84))), (3, .inl a3), (4, .inl a4), (5, .inl v5_1)]) (st' := [.inl ((24 * a1) + v5_1), .inr (.inr (some 78))]) (h' := gr_h I J) (C := (((((((True ∧ True) ∧ True) ∧ True) ∧ True) ∧ True) ∧ True) ∧ True)) rfl ⟨⟨⟨⟨⟨⟨⟨trivial, trivial⟩, trivial⟩, trivial⟩, trivial⟩, trivial⟩, trivial⟩, trivial⟩ ?_
        have f3 := (gr_b_78 hI (Int.toNat (((24 * a1) + v5_1))))
        refine gv_run 1 true hD (pc' := 35) (lv' := [(0, .inr (.inr (some 0))), (1, .inl a1), (2, .inr (.inr (some 84))), (3, .inl a3), (4, .inl a4), (5, .inl v5_1)]) (st' := [.inl (I 78 (Int.toNat (((24 * a1) + v5_1))))]) (h' := gr_h I J) (C := (True ∧ (0 ≤ (((24 * a1) + v5_1)) ∧ (((24 * a1) + v5_1)) < ((36864 : Nat) : Int)))) rfl ⟨trivial, ⟨by exact gz_m 7 (by omega), by exact gz_m 8 (by omega)⟩⟩ ?_
        have f4 := (gr_b_84 hI (Int.toNat ((a3 + v5_1))))
        refine gv_run 5 true hD (pc' := 41) (lv' := [(0, .inr (.inr (some 0))), (1, .inl a1), (2, .inr (.inr (some 84))), (3, .inl a3), (4, .inl a4), (5, .inl v5_1)]) (st' := [.inl (I 84 (Int.toNat ((a3 + v5_1)))), .inl (I 78 (Int.toNat (((24 * a1) + v5_1))))]) (h' := gr_h I J) (C := (((((True ∧ True) ∧ True) ∧ True) ∧ True) ∧ (0 ≤ (a3 + v5_1) ∧ (a3 + v5_1) < ((576 : Nat) : Int)))) rfl ⟨⟨⟨⟨⟨trivial, trivial⟩, trivial⟩, trivial⟩, trivial⟩, ⟨by exact gz_m 9 (by omega), by exact gz_m 10 (by omega)⟩⟩ ?_
        refine gv_icmp_eq (t := 46) hD rfl rfl ⟨⟨by exact gz_m 11 (by omega), by exact gz_m 12 (by omega)⟩, ⟨by exact gz_m 13 (by omega), by exact gz_m 14 (by omega)⟩⟩ (fun c5 => ?_) (fun c5 => ?_)
        · refine gv_run 2 true hD (pc' := 16) (lv' := [(5, .inl (v5_1 + 1)), (0, .inr (.inr (some 0))), (1, .inl a1), (2, .inr (.inr (some 84))), (3, .inl a3), (4, .inl a4)]) (st' := []) (h' := gr_h I J) (C := ((True ∧ True) ∧ True)) rfl ⟨⟨trivial, trivial⟩, trivial⟩ ?_
          refine gv_pick [1, 2, 3, 4, 5, 0] rfl ?_
          exact ih16 (v5_1 + 1) (by exact gz_m 15 (by omega)) (by exact gz_m 16 (by omega))
        · refine gv_run 1 true hD (pc' := 45) (lv' := [(0, .inr (.inr (some 0))), (1, .inl a1), (2, .inr (.inr (some 84))), (3, .inl a3), (4, .inl a4), (5, .inl v5_1)]) (st' := [.inl 0]) (h' := gr_h I J) (C := (True ∧ True)) rfl ⟨trivial, trivial⟩ ?_
          exact gv_zret hD rfl (by exact gz_m 17 (by omega)) ⟨rfl, ⟨_, rfl, by exact gz_m 18 (by omega)⟩⟩
  have f6 := (gr_b_79 hI (Int.toNat a1))
  refine gv_run 4 true hD (pc' := 6) (lv' := [(0, .inr (.inr (some 0))), (1, .inl a1), (2, .inr (.inr (some 84))), (3, .inl a3), (4, .inl a4)]) (st' := [.inl (I 79 (Int.toNat a1))]) (h' := gr_h I J) (C := ((((True ∧ True) ∧ True) ∧ True) ∧ (0 ≤ a1 ∧ a1 < ((1536 : Nat) : Int)))) rfl ⟨⟨⟨⟨trivial, trivial⟩, trivial⟩, trivial⟩, ⟨by exact gz_m 19 (by omega), by exact gz_m 20 (by omega)⟩⟩ ?_
  refine gv_run 1 true hD (pc' := 8) (lv' := [(0, .inr (.inr (some 0))), (1, .inl a1), (2, .inr (.inr (some 84))), (3, .inl a3), (4, .inl a4)]) (st' := [.inl a4, .inl (I 79 (Int.toNat a1))]) (h' := gr_h I J) (C := (True ∧ True)) rfl ⟨trivial, trivial⟩ ?_
  refine gv_icmp_eq (t := 13) hD rfl rfl ⟨⟨by exact gz_m 21 (by omega), by exact gz_m 22 (by omega)⟩, ⟨by exact gz_m 23 (by omega), by exact gz_m 24 (by omega)⟩⟩ (fun c7 => ?_) (fun c7 => ?_)
  · refine gv_run 2 true hD (pc' := 16) (lv' := [(5, .inl 0), (0, .inr (.inr (some 0))), (1, .inl a1), (2, .inr (.inr (some 84))), (3, .inl a3), (4, .inl a4)]) (st' := []) (h' := gr_h I J) (C := ((True ∧ True) ∧ True)) rfl ⟨⟨trivial, trivial⟩, trivial⟩ ?_
    refine gv_pick [1, 2, 3, 4, 5, 0] rfl ?_
    exact L16 _ 0 (Nat.lt_succ_self _) (by exact gz_m 25 (by omega))
  · refine gv_run 1 true hD (pc' := 12) (lv' := [(0, .inr (.inr (some 0))), (1, .inl a1), (2, .inr (.inr (some 84))), (3, .inl a3), (4, .inl a4)]) (st' := [.inl 0]) (h' := gr_h I J) (C := (True ∧ True)) rfl ⟨trivial, trivial⟩ ?_
    exact gv_zret hD rfl (by exact gz_m 26 (by omega)) ⟨rfl, ⟨_, rfl, by exact gz_m 27 (by omega)⟩⟩
set_option maxHeartbeats 8000000 in
set_option maxRecDepth 100000 in
theorem r_isForm_126 {ws0 : List Cond} {tb : String → gz_T} (hws : ∀ w ∈ gr_ws, w ∈ ws0) (htb : tb RX13 = gr_T) (ext : gz_Sh) (I : gr_I) (J : gr_J) (hI : gr_Inv I) (a1 : Int) (a3 : Int) (a4 : Int) (ha1 : 0 ≤ a1 ∧ a1 ≤ 1535) (ha3 : 0 ≤ a3 ∧ a3 ≤ 57600) (ha4 : 0 ≤ a4 ∧ a4 ≤ 24) (x0 : a3 + a4 ≤ 57600) : ∃ r h', gz_Ev ws0 tb 1 (yX13_isForm, cX13_isForm, 6, (some .boolean)) [.inr (.inr (some 0)), .inl a1, .inr (.inr (some 126)), .inl a3, .inl a4] (gr_sh ++ ext) (gr_h I J) r (gr_sh ++ ext) h' 0 0 ∧ (h' = gr_h I J ∧ (∃ z : Int, r = some (.inl z) ∧ 0 ≤ z ∧ z ≤ 1)) := by
  have hD : gv_D (gr_E ws0 tb 0 (yX13_isForm, cX13_isForm, 6, (some .boolean)) kX13_isForm) := gq_of oX13_isForm
  refine gr_ev (d := 0) (l := kX13_isForm) (Po := fun r h' => (h' = gr_h I J ∧ (∃ z : Int, r = some (.inl z) ∧ 0 ≤ z ∧ z ≤ 1))) htb rfl (Nat.le_of_ble_eq_true rfl) ?_
  have L16 : ∀ (n : Nat) (v5_1 : Int), (25 - v5_1).toNat < n → ((0 ≤ a1 ∧ a1 ≤ 1535) ∧ (0 ≤ a3 ∧ a3 ≤ 57600) ∧ (0 ≤ a4 ∧ a4 ≤ 24) ∧ (0 ≤ v5_1 ∧ v5_1 ≤ 24) ∧ (a3 + a4 ≤ 57600)) → gv_X (gr_E ws0 tb 0 (yX13_isForm, cX13_isForm, 6, (some .boolean)) kX13_isForm) (gv_Q cX13_isForm (some .boolean) (gr_sh ++ ext) (fun r h' => (h' = gr_h I J ∧ (∃ z : Int, r = some (.inl z) ∧ 0 ≤ z ∧ z ≤ 1)))) (16, [(0, .inr (.inr (some 0))), (1, .inl a1), (2, .inr (.inr (some 126))), (3, .inl a3), (4, .inl a4), (5, .inl v5_1)], [], gr_sh ++ ext, gr_h I J) := by
    intro n
    induction n with
    | zero => intro v5_1 hn; exact gz_m 0 (by omega)
    | succ n ih16 =>
      intro v5_1 hn m_1
      obtain ⟨ha1_1, ha3_1, ha4_1, hv5_1, e0_1⟩ := m_1
      refine gv_run 2 true hD (pc' := 20) (lv' := [(0, .inr (.inr (some 0))), (1, .inl a1), (2, .inr (.inr (some 126))), (3, .inl a3), (4, .inl a4), (5, .inl v5_1)]) (st' := [.inl a4, .inl v5_1]) (h' := gr_h I J) (C := ((True ∧ True) ∧ True)) rfl ⟨⟨trivial, trivial⟩, trivial⟩ ?_
      refine gv_icmp_ge (t := 52) hD rfl rfl ⟨⟨by exact gz_m 1 (by omega), by exact gz_m 2 (by omega)⟩, ⟨by exact gz_m 3 (by omega), by exact gz_m 4 (by omega)⟩⟩ (fun c2 => ?_) (fun c2 => ?_)
      · refine gv_run 1 true hD (pc' := 53) (lv' := [(0, .inr (.inr (some 0))), (1, .inl a1), (2, .inr (.inr (some 126))), (3, .inl a3), (4, .inl a4), (5, .inl v5_1)]) (st' := [.inl 1]) (h' := gr_h I J) (C := (True ∧ True)) rfl ⟨trivial, trivial⟩ ?_
        exact gv_zret hD rfl (by exact gz_m 5 (by omega)) ⟨rfl, ⟨_, rfl, by exact gz_m 6 (by omega)⟩⟩
      · refine gv_run 7 true hD (pc' := 34) (lv' := [(0, .inr (.inr (some 0))), (1, .inl a1), (2, .inr (.inr (some 126))), (3, .inl a3), (4, .inl a4), (5, .inl v5_1)]) (st' := [.inl ((24 * a1) + v5_1), .inr (.inr (some 78))]) (h' := gr_h I J) (C := (((((((True ∧ True) ∧ True) ∧ True) ∧ True) ∧ True) ∧ True) ∧ True)) rfl ⟨⟨⟨⟨⟨⟨⟨trivial, trivial⟩, trivial⟩, trivial⟩, trivial⟩, trivial⟩, trivial⟩, trivial⟩ ?_
        have f3 := (gr_b_78 hI (Int.toNat (((24 * a1) + v5_1))))
        refine gv_run 1 true hD (pc' := 35) (lv' := [(0, .inr (.inr (some 0))), (1, .inl a1), (2, .inr (.inr (some 126))), (3, .inl a3), (4, .inl a4), (5, .inl v5_1)]) (st' := [.inl (I 78 (Int.toNat (((24 * a1) + v5_1))))]) (h' := gr_h I J) (C := (True ∧ (0 ≤ (((24 * a1) + v5_1)) ∧ (((24 * a1) + v5_1)) < ((36864 : Nat) : Int)))) rfl ⟨trivial, ⟨by exact gz_m 7 (by omega), by exact gz_m 8 (by omega)⟩⟩ ?_
        have f4 := (gr_b_126 hI (Int.toNat ((a3 + v5_1))))
        refine gv_run 5 true hD (pc' := 41) (lv' := [(0, .inr (.inr (some 0))), (1, .inl a1), (2, .inr (.inr (some 126))), (3, .inl a3), (4, .inl a4), (5, .inl v5_1)]) (st' := [.inl (I 126 (Int.toNat ((a3 + v5_1)))), .inl (I 78 (Int.toNat (((24 * a1) + v5_1))))]) (h' := gr_h I J) (C := (((((True ∧ True) ∧ True) ∧ True) ∧ True) ∧ (0 ≤ (a3 + v5_1) ∧ (a3 + v5_1) < ((57600 : Nat) : Int)))) rfl ⟨⟨⟨⟨⟨trivial, trivial⟩, trivial⟩, trivial⟩, trivial⟩, ⟨by exact gz_m 9 (by omega), by exact gz_m 10 (by omega)⟩⟩ ?_
        refine gv_icmp_eq (t := 46) hD rfl rfl ⟨⟨by exact gz_m 11 (by omega), by exact gz_m 12 (by omega)⟩, ⟨by exact gz_m 13 (by omega), by exact gz_m 14 (by omega)⟩⟩ (fun c5 => ?_) (fun c5 => ?_)
        · refine gv_run 2 true hD (pc' := 16) (lv' := [(5, .inl (v5_1 + 1)), (0, .inr (.inr (some 0))), (1, .inl a1), (2, .inr (.inr (some 126))), (3, .inl a3), (4, .inl a4)]) (st' := []) (h' := gr_h I J) (C := ((True ∧ True) ∧ True)) rfl ⟨⟨trivial, trivial⟩, trivial⟩ ?_
          refine gv_pick [1, 2, 3, 4, 5, 0] rfl ?_
          exact ih16 (v5_1 + 1) (by exact gz_m 15 (by omega)) (by exact gz_m 16 (by omega))
        · refine gv_run 1 true hD (pc' := 45) (lv' := [(0, .inr (.inr (some 0))), (1, .inl a1), (2, .inr (.inr (some 126))), (3, .inl a3), (4, .inl a4), (5, .inl v5_1)]) (st' := [.inl 0]) (h' := gr_h I J) (C := (True ∧ True)) rfl ⟨trivial, trivial⟩ ?_
          exact gv_zret hD rfl (by exact gz_m 17 (by omega)) ⟨rfl, ⟨_, rfl, by exact gz_m 18 (by omega)⟩⟩
  have f6 := (gr_b_79 hI (Int.toNat a1))
  refine gv_run 4 true hD (pc' := 6) (lv' := [(0, .inr (.inr (some 0))), (1, .inl a1), (2, .inr (.inr (some 126))), (3, .inl a3), (4, .inl a4)]) (st' := [.inl (I 79 (Int.toNat a1))]) (h' := gr_h I J) (C := ((((True ∧ True) ∧ True) ∧ True) ∧ (0 ≤ a1 ∧ a1 < ((1536 : Nat) : Int)))) rfl ⟨⟨⟨⟨trivial, trivial⟩, trivial⟩, trivial⟩, ⟨by exact gz_m 19 (by omega), by exact gz_m 20 (by omega)⟩⟩ ?_
  refine gv_run 1 true hD (pc' := 8) (lv' := [(0, .inr (.inr (some 0))), (1, .inl a1), (2, .inr (.inr (some 126))), (3, .inl a3), (4, .inl a4)]) (st' := [.inl a4, .inl (I 79 (Int.toNat a1))]) (h' := gr_h I J) (C := (True ∧ True)) rfl ⟨trivial, trivial⟩ ?_
  refine gv_icmp_eq (t := 13) hD rfl rfl ⟨⟨by exact gz_m 21 (by omega), by exact gz_m 22 (by omega)⟩, ⟨by exact gz_m 23 (by omega), by exact gz_m 24 (by omega)⟩⟩ (fun c7 => ?_) (fun c7 => ?_)
  · refine gv_run 2 true hD (pc' := 16) (lv' := [(5, .inl 0), (0, .inr (.inr (some 0))), (1, .inl a1), (2, .inr (.inr (some 126))), (3, .inl a3), (4, .inl a4)]) (st' := []) (h' := gr_h I J) (C := ((True ∧ True) ∧ True)) rfl ⟨⟨trivial, trivial⟩, trivial⟩ ?_
    refine gv_pick [1, 2, 3, 4, 5, 0] rfl ?_
    exact L16 _ 0 (Nat.lt_succ_self _) (by exact gz_m 25 (by omega))
  · refine gv_run 1 true hD (pc' := 12) (lv' := [(0, .inr (.inr (some 0))), (1, .inl a1), (2, .inr (.inr (some 126))), (3, .inl a3), (4, .inl a4)]) (st' := [.inl 0]) (h' := gr_h I J) (C := (True ∧ True)) rfl ⟨trivial, trivial⟩ ?_
    exact gv_zret hD rfl (by exact gz_m 26 (by omega)) ⟨rfl, ⟨_, rfl, by exact gz_m 27 (by omega)⟩⟩
set_option maxHeartbeats 8000000 in
set_option maxRecDepth 100000 in
theorem r_isWord {ws0 : List Cond} {tb : String → gz_T} (hws : ∀ w ∈ gr_ws, w ∈ ws0) (htb : tb RX13 = gr_T) (ext : gz_Sh) (I : gr_I) (J : gr_J) (hI : gr_Inv I) (a1 : Int) (a2 : Int) (ha1 : 0 ≤ a1 ∧ a1 ≤ 1535) (ha2 : 0 ≤ a2 ∧ a2 ≤ 23)  : ∃ r h', gz_Ev ws0 tb 2 (yX13_isWord, cX13_isWord, 3, (some .boolean)) [.inr (.inr (some 0)), .inl a1, .inl a2] (gr_sh ++ ext) (gr_h I J) r (gr_sh ++ ext) h' 0 0 ∧ (h' = gr_h I J ∧ (∃ z : Int, r = some (.inl z) ∧ 0 ≤ z ∧ z ≤ 1)) := by
  have hD : gv_D (gr_E ws0 tb 1 (yX13_isWord, cX13_isWord, 3, (some .boolean)) kX13_isWord) := gq_of oX13_isWord
  refine gr_ev (d := 1) (l := kX13_isWord) (Po := fun r h' => (h' = gr_h I J ∧ (∃ z : Int, r = some (.inl z) ∧ 0 ≤ z ∧ z ≤ 1))) htb rfl (Nat.le_of_ble_eq_true rfl) ?_
  refine gv_run 7 true hD (pc' := 10) (lv' := [(0, .inr (.inr (some 0))), (1, .inl a1), (2, .inl a2)]) (st' := [.inl (24 * a2), .inr (.inr (some 83)), .inl a1, .inr (.inr (some 0))]) (h' := gr_h I J) (C := (((((((True ∧ True) ∧ True) ∧ True) ∧ True) ∧ True) ∧ True) ∧ True)) rfl ⟨⟨⟨⟨⟨⟨⟨trivial, trivial⟩, trivial⟩, trivial⟩, trivial⟩, trivial⟩, trivial⟩, trivial⟩ ?_
  have f1 := (gr_b_85 hI (Int.toNat a2))
  refine gv_run 4 true hD (pc' := 16) (lv' := [(0, .inr (.inr (some 0))), (1, .inl a1), (2, .inl a2)]) (st' := [.inl (I 85 (Int.toNat a2)), .inl (24 * a2), .inr (.inr (some 83)), .inl a1, .inr (.inr (some 0))]) (h' := gr_h I J) (C := ((((True ∧ True) ∧ True) ∧ True) ∧ (0 ≤ a2 ∧ a2 < ((24 : Nat) : Int)))) rfl ⟨⟨⟨⟨trivial, trivial⟩, trivial⟩, trivial⟩, ⟨by exact gz_m 0 (by omega), by exact gz_m 1 (by omega)⟩⟩ ?_
  obtain ⟨r2, h2, E2, P2⟩ := r_isForm_83 (ws0 := ws0) (tb := tb) hws htb ext I J hI a1 (24 * a2) ((I 85 (Int.toNat a2))) ⟨by exact gz_m 2 (by omega), by exact gz_m 3 (by omega)⟩ ⟨by exact gz_m 4 (by omega), by exact gz_m 5 (by omega)⟩ ⟨by exact gz_m 6 (by omega), by exact gz_m 7 (by omega)⟩ (by exact gz_m 8 (by omega))
  obtain ⟨rfl, ⟨z2, rfl, q2⟩⟩ := P2
  refine gv_callV hD rfl (As := [.inl a1, .inr (.inr (some 83)), .inl (24 * a2), .inl (I 85 (Int.toNat a2))]) (st := []) rfl (by decide) rfl rfl (gr_lV hws rfl) (Nat.le_of_ble_eq_true rfl) (gz_Ev_mono (d := 1) (by decide) E2) ?_
  show gv_X _ _ (19, [(0, .inr (.inr (some 0))), (1, .inl a1), (2, .inl a2)], [.inl z2], gr_sh ++ ext, gr_h I J)
  exact gv_zret hD rfl (by exact gz_m 9 (by omega)) ⟨rfl, ⟨_, rfl, by exact gz_m 10 (by omega)⟩⟩
set_option maxHeartbeats 8000000 in
set_option maxRecDepth 100000 in
theorem r_find_1 {ws0 : List Cond} {tb : String → gz_T} (hws : ∀ w ∈ gr_ws, w ∈ ws0) (htb : tb RX13 = gr_T) (ext : gz_Sh) (I : gr_I) (J : gr_J) (hI : gr_Inv I) (a2 : Int) (a3 : Int) (a4 : Int64) (ha2 : 0 ≤ a2 ∧ a2 ≤ 8) (ha3 : 0 ≤ a3 ∧ a3 ≤ 8) (x0 : a2 + a3 ≤ 8) : ∃ r h', gz_Ev ws0 tb 1 (yX13_find, cX13_find, 6, (some .int)) [.inr (.inr (some 1)), .inl a2, .inl a3, .inr (.inl a4)] (gr_sh ++ ext) (gr_h I J) r (gr_sh ++ ext) h' 0 0 ∧ (h' = gr_h I J ∧ (∃ z : Int, r = some (.inl z) ∧ (-1) ≤ z ∧ z ≤ 7 ∧ (z < a3))) := by
  have hD : gv_D (gr_E ws0 tb 0 (yX13_find, cX13_find, 6, (some .int)) kX13_find) := gq_of oX13_find
  refine gr_ev (d := 0) (l := kX13_find) (Po := fun r h' => (h' = gr_h I J ∧ (∃ z : Int, r = some (.inl z) ∧ (-1) ≤ z ∧ z ≤ 7 ∧ (z < a3)))) htb rfl (Nat.le_of_ble_eq_true rfl) ?_
  have L3 : ∀ (n : Nat) (v5_1 : Int), (9 - v5_1).toNat < n → ((0 ≤ a2 ∧ a2 ≤ 8) ∧ (0 ≤ a3 ∧ a3 ≤ 8) ∧ (0 ≤ v5_1 ∧ v5_1 ≤ 8) ∧ (a2 + a3 ≤ 8)) → gv_X (gr_E ws0 tb 0 (yX13_find, cX13_find, 6, (some .int)) kX13_find) (gv_Q cX13_find (some .int) (gr_sh ++ ext) (fun r h' => (h' = gr_h I J ∧ (∃ z : Int, r = some (.inl z) ∧ (-1) ≤ z ∧ z ≤ 7 ∧ (z < a3))))) (3, [(0, .inr (.inr (some 1))), (1, .inl a2), (2, .inl a3), (3, .inr (.inl a4)), (5, .inl v5_1)], [], gr_sh ++ ext, gr_h I J) := by
    intro n
    induction n with
    | zero => intro v5_1 hn; exact gz_m 0 (by omega)
    | succ n ih3 =>
      intro v5_1 hn m_1
      obtain ⟨ha2_1, ha3_1, hv5_1, e0_1⟩ := m_1
      refine gv_run 2 true hD (pc' := 6) (lv' := [(0, .inr (.inr (some 1))), (1, .inl a2), (2, .inl a3), (3, .inr (.inl a4)), (5, .inl v5_1)]) (st' := [.inl a3, .inl v5_1]) (h' := gr_h I J) (C := ((True ∧ True) ∧ True)) rfl ⟨⟨trivial, trivial⟩, trivial⟩ ?_
      refine gv_icmp_ge (t := 29) hD rfl rfl ⟨⟨by exact gz_m 1 (by omega), by exact gz_m 2 (by omega)⟩, ⟨by exact gz_m 3 (by omega), by exact gz_m 4 (by omega)⟩⟩ (fun c2 => ?_) (fun c2 => ?_)
      · refine gv_run 1 true hD (pc' := 30) (lv' := [(0, .inr (.inr (some 1))), (1, .inl a2), (2, .inl a3), (3, .inr (.inl a4)), (5, .inl v5_1)]) (st' := [.inl (-1)]) (h' := gr_h I J) (C := (True ∧ True)) rfl ⟨trivial, trivial⟩ ?_
        exact gv_iret hD rfl ⟨rfl, ⟨_, rfl, by exact gz_m 5 (by omega)⟩⟩
      · refine gv_run 5 true hD (pc' := 15) (lv' := [(0, .inr (.inr (some 1))), (1, .inl a2), (2, .inl a3), (3, .inr (.inl a4)), (5, .inl v5_1)]) (st' := [.inr (.inl (J 1 (Int.toNat ((a2 + v5_1)))))]) (h' := gr_h I J) (C := (((((True ∧ True) ∧ True) ∧ True) ∧ True) ∧ (0 ≤ (a2 + v5_1) ∧ (a2 + v5_1) < ((8 : Nat) : Int)))) rfl ⟨⟨⟨⟨⟨trivial, trivial⟩, trivial⟩, trivial⟩, trivial⟩, ⟨by exact gz_m 6 (by omega), by exact gz_m 7 (by omega)⟩⟩ ?_
        have f3 := gw_cmp ((J 1 (Int.toNat ((a2 + v5_1))))) (a4)
        refine gv_run 2 true hD (pc' := 17) (lv' := [(0, .inr (.inr (some 1))), (1, .inl a2), (2, .inl a3), (3, .inr (.inl a4)), (5, .inl v5_1)]) (st' := [.inl ((lg_cmp ((J 1 (Int.toNat ((a2 + v5_1))))) (a4)).toInt)]) (h' := gr_h I J) (C := ((True ∧ True) ∧ True)) rfl ⟨⟨trivial, trivial⟩, trivial⟩ ?_
        refine gv_if_ne (t := 23) hD rfl rfl ⟨by exact gz_m 8 (by omega), by exact gz_m 9 (by omega)⟩ (fun c4 => ?_) (fun c4 => ?_)
        · refine gv_run 2 true hD (pc' := 3) (lv' := [(5, .inl (v5_1 + 1)), (0, .inr (.inr (some 1))), (1, .inl a2), (2, .inl a3), (3, .inr (.inl a4))]) (st' := []) (h' := gr_h I J) (C := ((True ∧ True) ∧ True)) rfl ⟨⟨trivial, trivial⟩, trivial⟩ ?_
          refine gv_pick [1, 2, 3, 4, 0] rfl ?_
          exact ih3 (v5_1 + 1) (by exact gz_m 10 (by omega)) (by exact gz_m 11 (by omega))
        · refine gv_run 1 true hD (pc' := 22) (lv' := [(0, .inr (.inr (some 1))), (1, .inl a2), (2, .inl a3), (3, .inr (.inl a4)), (5, .inl v5_1)]) (st' := [.inl v5_1]) (h' := gr_h I J) (C := (True ∧ True)) rfl ⟨trivial, trivial⟩ ?_
          exact gv_iret hD rfl ⟨rfl, ⟨_, rfl, by exact gz_m 12 (by omega)⟩⟩
  refine gv_run 2 true hD (pc' := 3) (lv' := [(5, .inl 0), (0, .inr (.inr (some 1))), (1, .inl a2), (2, .inl a3), (3, .inr (.inl a4))]) (st' := []) (h' := gr_h I J) (C := ((True ∧ True) ∧ True)) rfl ⟨⟨trivial, trivial⟩, trivial⟩ ?_
  refine gv_pick [1, 2, 3, 4, 0] rfl ?_
  exact L3 _ 0 (Nat.lt_succ_self _) (by exact gz_m 13 (by omega))
set_option maxHeartbeats 8000000 in
set_option maxRecDepth 100000 in
theorem r_find_2 {ws0 : List Cond} {tb : String → gz_T} (hws : ∀ w ∈ gr_ws, w ∈ ws0) (htb : tb RX13 = gr_T) (ext : gz_Sh) (I : gr_I) (J : gr_J) (hI : gr_Inv I) (a2 : Int) (a3 : Int) (a4 : Int64) (ha2 : 0 ≤ a2 ∧ a2 ≤ 32) (ha3 : 0 ≤ a3 ∧ a3 ≤ 32) (x0 : a2 + a3 ≤ 32) : ∃ r h', gz_Ev ws0 tb 1 (yX13_find, cX13_find, 6, (some .int)) [.inr (.inr (some 2)), .inl a2, .inl a3, .inr (.inl a4)] (gr_sh ++ ext) (gr_h I J) r (gr_sh ++ ext) h' 0 0 ∧ (h' = gr_h I J ∧ (∃ z : Int, r = some (.inl z) ∧ (-1) ≤ z ∧ z ≤ 31 ∧ (z < a3))) := by
  have hD : gv_D (gr_E ws0 tb 0 (yX13_find, cX13_find, 6, (some .int)) kX13_find) := gq_of oX13_find
  refine gr_ev (d := 0) (l := kX13_find) (Po := fun r h' => (h' = gr_h I J ∧ (∃ z : Int, r = some (.inl z) ∧ (-1) ≤ z ∧ z ≤ 31 ∧ (z < a3)))) htb rfl (Nat.le_of_ble_eq_true rfl) ?_
  have L3 : ∀ (n : Nat) (v5_1 : Int), (33 - v5_1).toNat < n → ((0 ≤ a2 ∧ a2 ≤ 32) ∧ (0 ≤ a3 ∧ a3 ≤ 32) ∧ (0 ≤ v5_1 ∧ v5_1 ≤ 32) ∧ (a2 + a3 ≤ 32)) → gv_X (gr_E ws0 tb 0 (yX13_find, cX13_find, 6, (some .int)) kX13_find) (gv_Q cX13_find (some .int) (gr_sh ++ ext) (fun r h' => (h' = gr_h I J ∧ (∃ z : Int, r = some (.inl z) ∧ (-1) ≤ z ∧ z ≤ 31 ∧ (z < a3))))) (3, [(0, .inr (.inr (some 2))), (1, .inl a2), (2, .inl a3), (3, .inr (.inl a4)), (5, .inl v5_1)], [], gr_sh ++ ext, gr_h I J) := by
    intro n
    induction n with
    | zero => intro v5_1 hn; exact gz_m 0 (by omega)
    | succ n ih3 =>
      intro v5_1 hn m_1
      obtain ⟨ha2_1, ha3_1, hv5_1, e0_1⟩ := m_1
      refine gv_run 2 true hD (pc' := 6) (lv' := [(0, .inr (.inr (some 2))), (1, .inl a2), (2, .inl a3), (3, .inr (.inl a4)), (5, .inl v5_1)]) (st' := [.inl a3, .inl v5_1]) (h' := gr_h I J) (C := ((True ∧ True) ∧ True)) rfl ⟨⟨trivial, trivial⟩, trivial⟩ ?_
      refine gv_icmp_ge (t := 29) hD rfl rfl ⟨⟨by exact gz_m 1 (by omega), by exact gz_m 2 (by omega)⟩, ⟨by exact gz_m 3 (by omega), by exact gz_m 4 (by omega)⟩⟩ (fun c2 => ?_) (fun c2 => ?_)
      · refine gv_run 1 true hD (pc' := 30) (lv' := [(0, .inr (.inr (some 2))), (1, .inl a2), (2, .inl a3), (3, .inr (.inl a4)), (5, .inl v5_1)]) (st' := [.inl (-1)]) (h' := gr_h I J) (C := (True ∧ True)) rfl ⟨trivial, trivial⟩ ?_
        exact gv_iret hD rfl ⟨rfl, ⟨_, rfl, by exact gz_m 5 (by omega)⟩⟩
      · refine gv_run 5 true hD (pc' := 15) (lv' := [(0, .inr (.inr (some 2))), (1, .inl a2), (2, .inl a3), (3, .inr (.inl a4)), (5, .inl v5_1)]) (st' := [.inr (.inl (J 2 (Int.toNat ((a2 + v5_1)))))]) (h' := gr_h I J) (C := (((((True ∧ True) ∧ True) ∧ True) ∧ True) ∧ (0 ≤ (a2 + v5_1) ∧ (a2 + v5_1) < ((32 : Nat) : Int)))) rfl ⟨⟨⟨⟨⟨trivial, trivial⟩, trivial⟩, trivial⟩, trivial⟩, ⟨by exact gz_m 6 (by omega), by exact gz_m 7 (by omega)⟩⟩ ?_
        have f3 := gw_cmp ((J 2 (Int.toNat ((a2 + v5_1))))) (a4)
        refine gv_run 2 true hD (pc' := 17) (lv' := [(0, .inr (.inr (some 2))), (1, .inl a2), (2, .inl a3), (3, .inr (.inl a4)), (5, .inl v5_1)]) (st' := [.inl ((lg_cmp ((J 2 (Int.toNat ((a2 + v5_1))))) (a4)).toInt)]) (h' := gr_h I J) (C := ((True ∧ True) ∧ True)) rfl ⟨⟨trivial, trivial⟩, trivial⟩ ?_
        refine gv_if_ne (t := 23) hD rfl rfl ⟨by exact gz_m 8 (by omega), by exact gz_m 9 (by omega)⟩ (fun c4 => ?_) (fun c4 => ?_)
        · refine gv_run 2 true hD (pc' := 3) (lv' := [(5, .inl (v5_1 + 1)), (0, .inr (.inr (some 2))), (1, .inl a2), (2, .inl a3), (3, .inr (.inl a4))]) (st' := []) (h' := gr_h I J) (C := ((True ∧ True) ∧ True)) rfl ⟨⟨trivial, trivial⟩, trivial⟩ ?_
          refine gv_pick [1, 2, 3, 4, 0] rfl ?_
          exact ih3 (v5_1 + 1) (by exact gz_m 10 (by omega)) (by exact gz_m 11 (by omega))
        · refine gv_run 1 true hD (pc' := 22) (lv' := [(0, .inr (.inr (some 2))), (1, .inl a2), (2, .inl a3), (3, .inr (.inl a4)), (5, .inl v5_1)]) (st' := [.inl v5_1]) (h' := gr_h I J) (C := (True ∧ True)) rfl ⟨trivial, trivial⟩ ?_
          exact gv_iret hD rfl ⟨rfl, ⟨_, rfl, by exact gz_m 12 (by omega)⟩⟩
  refine gv_run 2 true hD (pc' := 3) (lv' := [(5, .inl 0), (0, .inr (.inr (some 2))), (1, .inl a2), (2, .inl a3), (3, .inr (.inl a4))]) (st' := []) (h' := gr_h I J) (C := ((True ∧ True) ∧ True)) rfl ⟨⟨trivial, trivial⟩, trivial⟩ ?_
  refine gv_pick [1, 2, 3, 4, 0] rfl ?_
  exact L3 _ 0 (Nat.lt_succ_self _) (by exact gz_m 13 (by omega))
set_option maxHeartbeats 8000000 in
set_option maxRecDepth 100000 in
theorem r_find_3 {ws0 : List Cond} {tb : String → gz_T} (hws : ∀ w ∈ gr_ws, w ∈ ws0) (htb : tb RX13 = gr_T) (ext : gz_Sh) (I : gr_I) (J : gr_J) (hI : gr_Inv I) (a2 : Int) (a3 : Int) (a4 : Int64) (ha2 : 0 ≤ a2 ∧ a2 ≤ 96) (ha3 : 0 ≤ a3 ∧ a3 ≤ 96) (x0 : a2 + a3 ≤ 96) : ∃ r h', gz_Ev ws0 tb 1 (yX13_find, cX13_find, 6, (some .int)) [.inr (.inr (some 3)), .inl a2, .inl a3, .inr (.inl a4)] (gr_sh ++ ext) (gr_h I J) r (gr_sh ++ ext) h' 0 0 ∧ (h' = gr_h I J ∧ (∃ z : Int, r = some (.inl z) ∧ (-1) ≤ z ∧ z ≤ 95 ∧ (z < a3))) := by
  have hD : gv_D (gr_E ws0 tb 0 (yX13_find, cX13_find, 6, (some .int)) kX13_find) := gq_of oX13_find
  refine gr_ev (d := 0) (l := kX13_find) (Po := fun r h' => (h' = gr_h I J ∧ (∃ z : Int, r = some (.inl z) ∧ (-1) ≤ z ∧ z ≤ 95 ∧ (z < a3)))) htb rfl (Nat.le_of_ble_eq_true rfl) ?_
  have L3 : ∀ (n : Nat) (v5_1 : Int), (97 - v5_1).toNat < n → ((0 ≤ a2 ∧ a2 ≤ 96) ∧ (0 ≤ a3 ∧ a3 ≤ 96) ∧ (0 ≤ v5_1 ∧ v5_1 ≤ 96) ∧ (a2 + a3 ≤ 96)) → gv_X (gr_E ws0 tb 0 (yX13_find, cX13_find, 6, (some .int)) kX13_find) (gv_Q cX13_find (some .int) (gr_sh ++ ext) (fun r h' => (h' = gr_h I J ∧ (∃ z : Int, r = some (.inl z) ∧ (-1) ≤ z ∧ z ≤ 95 ∧ (z < a3))))) (3, [(0, .inr (.inr (some 3))), (1, .inl a2), (2, .inl a3), (3, .inr (.inl a4)), (5, .inl v5_1)], [], gr_sh ++ ext, gr_h I J) := by
    intro n
    induction n with
    | zero => intro v5_1 hn; exact gz_m 0 (by omega)
    | succ n ih3 =>
      intro v5_1 hn m_1
      obtain ⟨ha2_1, ha3_1, hv5_1, e0_1⟩ := m_1
      refine gv_run 2 true hD (pc' := 6) (lv' := [(0, .inr (.inr (some 3))), (1, .inl a2), (2, .inl a3), (3, .inr (.inl a4)), (5, .inl v5_1)]) (st' := [.inl a3, .inl v5_1]) (h' := gr_h I J) (C := ((True ∧ True) ∧ True)) rfl ⟨⟨trivial, trivial⟩, trivial⟩ ?_
      refine gv_icmp_ge (t := 29) hD rfl rfl ⟨⟨by exact gz_m 1 (by omega), by exact gz_m 2 (by omega)⟩, ⟨by exact gz_m 3 (by omega), by exact gz_m 4 (by omega)⟩⟩ (fun c2 => ?_) (fun c2 => ?_)
      · refine gv_run 1 true hD (pc' := 30) (lv' := [(0, .inr (.inr (some 3))), (1, .inl a2), (2, .inl a3), (3, .inr (.inl a4)), (5, .inl v5_1)]) (st' := [.inl (-1)]) (h' := gr_h I J) (C := (True ∧ True)) rfl ⟨trivial, trivial⟩ ?_
        exact gv_iret hD rfl ⟨rfl, ⟨_, rfl, by exact gz_m 5 (by omega)⟩⟩
      · refine gv_run 5 true hD (pc' := 15) (lv' := [(0, .inr (.inr (some 3))), (1, .inl a2), (2, .inl a3), (3, .inr (.inl a4)), (5, .inl v5_1)]) (st' := [.inr (.inl (J 3 (Int.toNat ((a2 + v5_1)))))]) (h' := gr_h I J) (C := (((((True ∧ True) ∧ True) ∧ True) ∧ True) ∧ (0 ≤ (a2 + v5_1) ∧ (a2 + v5_1) < ((96 : Nat) : Int)))) rfl ⟨⟨⟨⟨⟨trivial, trivial⟩, trivial⟩, trivial⟩, trivial⟩, ⟨by exact gz_m 6 (by omega), by exact gz_m 7 (by omega)⟩⟩ ?_
        have f3 := gw_cmp ((J 3 (Int.toNat ((a2 + v5_1))))) (a4)
        refine gv_run 2 true hD (pc' := 17) (lv' := [(0, .inr (.inr (some 3))), (1, .inl a2), (2, .inl a3), (3, .inr (.inl a4)), (5, .inl v5_1)]) (st' := [.inl ((lg_cmp ((J 3 (Int.toNat ((a2 + v5_1))))) (a4)).toInt)]) (h' := gr_h I J) (C := ((True ∧ True) ∧ True)) rfl ⟨⟨trivial, trivial⟩, trivial⟩ ?_
        refine gv_if_ne (t := 23) hD rfl rfl ⟨by exact gz_m 8 (by omega), by exact gz_m 9 (by omega)⟩ (fun c4 => ?_) (fun c4 => ?_)
        · refine gv_run 2 true hD (pc' := 3) (lv' := [(5, .inl (v5_1 + 1)), (0, .inr (.inr (some 3))), (1, .inl a2), (2, .inl a3), (3, .inr (.inl a4))]) (st' := []) (h' := gr_h I J) (C := ((True ∧ True) ∧ True)) rfl ⟨⟨trivial, trivial⟩, trivial⟩ ?_
          refine gv_pick [1, 2, 3, 4, 0] rfl ?_
          exact ih3 (v5_1 + 1) (by exact gz_m 10 (by omega)) (by exact gz_m 11 (by omega))
        · refine gv_run 1 true hD (pc' := 22) (lv' := [(0, .inr (.inr (some 3))), (1, .inl a2), (2, .inl a3), (3, .inr (.inl a4)), (5, .inl v5_1)]) (st' := [.inl v5_1]) (h' := gr_h I J) (C := (True ∧ True)) rfl ⟨trivial, trivial⟩ ?_
          exact gv_iret hD rfl ⟨rfl, ⟨_, rfl, by exact gz_m 12 (by omega)⟩⟩
  refine gv_run 2 true hD (pc' := 3) (lv' := [(5, .inl 0), (0, .inr (.inr (some 3))), (1, .inl a2), (2, .inl a3), (3, .inr (.inl a4))]) (st' := []) (h' := gr_h I J) (C := ((True ∧ True) ∧ True)) rfl ⟨⟨trivial, trivial⟩, trivial⟩ ?_
  refine gv_pick [1, 2, 3, 4, 0] rfl ?_
  exact L3 _ 0 (Nat.lt_succ_self _) (by exact gz_m 13 (by omega))
set_option maxHeartbeats 8000000 in
set_option maxRecDepth 100000 in
theorem r_find_4 {ws0 : List Cond} {tb : String → gz_T} (hws : ∀ w ∈ gr_ws, w ∈ ws0) (htb : tb RX13 = gr_T) (ext : gz_Sh) (I : gr_I) (J : gr_J) (hI : gr_Inv I) (a2 : Int) (a3 : Int) (a4 : Int64) (ha2 : 0 ≤ a2 ∧ a2 ≤ 8) (ha3 : 0 ≤ a3 ∧ a3 ≤ 8) (x0 : a2 + a3 ≤ 8) : ∃ r h', gz_Ev ws0 tb 1 (yX13_find, cX13_find, 6, (some .int)) [.inr (.inr (some 4)), .inl a2, .inl a3, .inr (.inl a4)] (gr_sh ++ ext) (gr_h I J) r (gr_sh ++ ext) h' 0 0 ∧ (h' = gr_h I J ∧ (∃ z : Int, r = some (.inl z) ∧ (-1) ≤ z ∧ z ≤ 7 ∧ (z < a3))) := by
  have hD : gv_D (gr_E ws0 tb 0 (yX13_find, cX13_find, 6, (some .int)) kX13_find) := gq_of oX13_find
  refine gr_ev (d := 0) (l := kX13_find) (Po := fun r h' => (h' = gr_h I J ∧ (∃ z : Int, r = some (.inl z) ∧ (-1) ≤ z ∧ z ≤ 7 ∧ (z < a3)))) htb rfl (Nat.le_of_ble_eq_true rfl) ?_
  have L3 : ∀ (n : Nat) (v5_1 : Int), (9 - v5_1).toNat < n → ((0 ≤ a2 ∧ a2 ≤ 8) ∧ (0 ≤ a3 ∧ a3 ≤ 8) ∧ (0 ≤ v5_1 ∧ v5_1 ≤ 8) ∧ (a2 + a3 ≤ 8)) → gv_X (gr_E ws0 tb 0 (yX13_find, cX13_find, 6, (some .int)) kX13_find) (gv_Q cX13_find (some .int) (gr_sh ++ ext) (fun r h' => (h' = gr_h I J ∧ (∃ z : Int, r = some (.inl z) ∧ (-1) ≤ z ∧ z ≤ 7 ∧ (z < a3))))) (3, [(0, .inr (.inr (some 4))), (1, .inl a2), (2, .inl a3), (3, .inr (.inl a4)), (5, .inl v5_1)], [], gr_sh ++ ext, gr_h I J) := by
    intro n
    induction n with
    | zero => intro v5_1 hn; exact gz_m 0 (by omega)
    | succ n ih3 =>
      intro v5_1 hn m_1
      obtain ⟨ha2_1, ha3_1, hv5_1, e0_1⟩ := m_1
      refine gv_run 2 true hD (pc' := 6) (lv' := [(0, .inr (.inr (some 4))), (1, .inl a2), (2, .inl a3), (3, .inr (.inl a4)), (5, .inl v5_1)]) (st' := [.inl a3, .inl v5_1]) (h' := gr_h I J) (C := ((True ∧ True) ∧ True)) rfl ⟨⟨trivial, trivial⟩, trivial⟩ ?_
      refine gv_icmp_ge (t := 29) hD rfl rfl ⟨⟨by exact gz_m 1 (by omega), by exact gz_m 2 (by omega)⟩, ⟨by exact gz_m 3 (by omega), by exact gz_m 4 (by omega)⟩⟩ (fun c2 => ?_) (fun c2 => ?_)
      · refine gv_run 1 true hD (pc' := 30) (lv' := [(0, .inr (.inr (some 4))), (1, .inl a2), (2, .inl a3), (3, .inr (.inl a4)), (5, .inl v5_1)]) (st' := [.inl (-1)]) (h' := gr_h I J) (C := (True ∧ True)) rfl ⟨trivial, trivial⟩ ?_
        exact gv_iret hD rfl ⟨rfl, ⟨_, rfl, by exact gz_m 5 (by omega)⟩⟩
      · refine gv_run 5 true hD (pc' := 15) (lv' := [(0, .inr (.inr (some 4))), (1, .inl a2), (2, .inl a3), (3, .inr (.inl a4)), (5, .inl v5_1)]) (st' := [.inr (.inl (J 4 (Int.toNat ((a2 + v5_1)))))]) (h' := gr_h I J) (C := (((((True ∧ True) ∧ True) ∧ True) ∧ True) ∧ (0 ≤ (a2 + v5_1) ∧ (a2 + v5_1) < ((8 : Nat) : Int)))) rfl ⟨⟨⟨⟨⟨trivial, trivial⟩, trivial⟩, trivial⟩, trivial⟩, ⟨by exact gz_m 6 (by omega), by exact gz_m 7 (by omega)⟩⟩ ?_
        have f3 := gw_cmp ((J 4 (Int.toNat ((a2 + v5_1))))) (a4)
        refine gv_run 2 true hD (pc' := 17) (lv' := [(0, .inr (.inr (some 4))), (1, .inl a2), (2, .inl a3), (3, .inr (.inl a4)), (5, .inl v5_1)]) (st' := [.inl ((lg_cmp ((J 4 (Int.toNat ((a2 + v5_1))))) (a4)).toInt)]) (h' := gr_h I J) (C := ((True ∧ True) ∧ True)) rfl ⟨⟨trivial, trivial⟩, trivial⟩ ?_
        refine gv_if_ne (t := 23) hD rfl rfl ⟨by exact gz_m 8 (by omega), by exact gz_m 9 (by omega)⟩ (fun c4 => ?_) (fun c4 => ?_)
        · refine gv_run 2 true hD (pc' := 3) (lv' := [(5, .inl (v5_1 + 1)), (0, .inr (.inr (some 4))), (1, .inl a2), (2, .inl a3), (3, .inr (.inl a4))]) (st' := []) (h' := gr_h I J) (C := ((True ∧ True) ∧ True)) rfl ⟨⟨trivial, trivial⟩, trivial⟩ ?_
          refine gv_pick [1, 2, 3, 4, 0] rfl ?_
          exact ih3 (v5_1 + 1) (by exact gz_m 10 (by omega)) (by exact gz_m 11 (by omega))
        · refine gv_run 1 true hD (pc' := 22) (lv' := [(0, .inr (.inr (some 4))), (1, .inl a2), (2, .inl a3), (3, .inr (.inl a4)), (5, .inl v5_1)]) (st' := [.inl v5_1]) (h' := gr_h I J) (C := (True ∧ True)) rfl ⟨trivial, trivial⟩ ?_
          exact gv_iret hD rfl ⟨rfl, ⟨_, rfl, by exact gz_m 12 (by omega)⟩⟩
  refine gv_run 2 true hD (pc' := 3) (lv' := [(5, .inl 0), (0, .inr (.inr (some 4))), (1, .inl a2), (2, .inl a3), (3, .inr (.inl a4))]) (st' := []) (h' := gr_h I J) (C := ((True ∧ True) ∧ True)) rfl ⟨⟨trivial, trivial⟩, trivial⟩ ?_
  refine gv_pick [1, 2, 3, 4, 0] rfl ?_
  exact L3 _ 0 (Nat.lt_succ_self _) (by exact gz_m 13 (by omega))
set_option maxHeartbeats 8000000 in
set_option maxRecDepth 100000 in
theorem r_find_20 {ws0 : List Cond} {tb : String → gz_T} (hws : ∀ w ∈ gr_ws, w ∈ ws0) (htb : tb RX13 = gr_T) (ext : gz_Sh) (I : gr_I) (J : gr_J) (hI : gr_Inv I) (a2 : Int) (a3 : Int) (a4 : Int64) (ha2 : 0 ≤ a2 ∧ a2 ≤ 64) (ha3 : 0 ≤ a3 ∧ a3 ≤ 64) (x0 : a2 + a3 ≤ 64) : ∃ r h', gz_Ev ws0 tb 1 (yX13_find, cX13_find, 6, (some .int)) [.inr (.inr (some 20)), .inl a2, .inl a3, .inr (.inl a4)] (gr_sh ++ ext) (gr_h I J) r (gr_sh ++ ext) h' 0 0 ∧ (h' = gr_h I J ∧ (∃ z : Int, r = some (.inl z) ∧ (-1) ≤ z ∧ z ≤ 63 ∧ (z < a3))) := by
  have hD : gv_D (gr_E ws0 tb 0 (yX13_find, cX13_find, 6, (some .int)) kX13_find) := gq_of oX13_find
  refine gr_ev (d := 0) (l := kX13_find) (Po := fun r h' => (h' = gr_h I J ∧ (∃ z : Int, r = some (.inl z) ∧ (-1) ≤ z ∧ z ≤ 63 ∧ (z < a3)))) htb rfl (Nat.le_of_ble_eq_true rfl) ?_
  have L3 : ∀ (n : Nat) (v5_1 : Int), (65 - v5_1).toNat < n → ((0 ≤ a2 ∧ a2 ≤ 64) ∧ (0 ≤ a3 ∧ a3 ≤ 64) ∧ (0 ≤ v5_1 ∧ v5_1 ≤ 64) ∧ (a2 + a3 ≤ 64)) → gv_X (gr_E ws0 tb 0 (yX13_find, cX13_find, 6, (some .int)) kX13_find) (gv_Q cX13_find (some .int) (gr_sh ++ ext) (fun r h' => (h' = gr_h I J ∧ (∃ z : Int, r = some (.inl z) ∧ (-1) ≤ z ∧ z ≤ 63 ∧ (z < a3))))) (3, [(0, .inr (.inr (some 20))), (1, .inl a2), (2, .inl a3), (3, .inr (.inl a4)), (5, .inl v5_1)], [], gr_sh ++ ext, gr_h I J) := by
    intro n
    induction n with
    | zero => intro v5_1 hn; exact gz_m 0 (by omega)
    | succ n ih3 =>
      intro v5_1 hn m_1
      obtain ⟨ha2_1, ha3_1, hv5_1, e0_1⟩ := m_1
      refine gv_run 2 true hD (pc' := 6) (lv' := [(0, .inr (.inr (some 20))), (1, .inl a2), (2, .inl a3), (3, .inr (.inl a4)), (5, .inl v5_1)]) (st' := [.inl a3, .inl v5_1]) (h' := gr_h I J) (C := ((True ∧ True) ∧ True)) rfl ⟨⟨trivial, trivial⟩, trivial⟩ ?_
      refine gv_icmp_ge (t := 29) hD rfl rfl ⟨⟨by exact gz_m 1 (by omega), by exact gz_m 2 (by omega)⟩, ⟨by exact gz_m 3 (by omega), by exact gz_m 4 (by omega)⟩⟩ (fun c2 => ?_) (fun c2 => ?_)
      · refine gv_run 1 true hD (pc' := 30) (lv' := [(0, .inr (.inr (some 20))), (1, .inl a2), (2, .inl a3), (3, .inr (.inl a4)), (5, .inl v5_1)]) (st' := [.inl (-1)]) (h' := gr_h I J) (C := (True ∧ True)) rfl ⟨trivial, trivial⟩ ?_
        exact gv_iret hD rfl ⟨rfl, ⟨_, rfl, by exact gz_m 5 (by omega)⟩⟩
      · refine gv_run 5 true hD (pc' := 15) (lv' := [(0, .inr (.inr (some 20))), (1, .inl a2), (2, .inl a3), (3, .inr (.inl a4)), (5, .inl v5_1)]) (st' := [.inr (.inl (J 20 (Int.toNat ((a2 + v5_1)))))]) (h' := gr_h I J) (C := (((((True ∧ True) ∧ True) ∧ True) ∧ True) ∧ (0 ≤ (a2 + v5_1) ∧ (a2 + v5_1) < ((64 : Nat) : Int)))) rfl ⟨⟨⟨⟨⟨trivial, trivial⟩, trivial⟩, trivial⟩, trivial⟩, ⟨by exact gz_m 6 (by omega), by exact gz_m 7 (by omega)⟩⟩ ?_
        have f3 := gw_cmp ((J 20 (Int.toNat ((a2 + v5_1))))) (a4)
        refine gv_run 2 true hD (pc' := 17) (lv' := [(0, .inr (.inr (some 20))), (1, .inl a2), (2, .inl a3), (3, .inr (.inl a4)), (5, .inl v5_1)]) (st' := [.inl ((lg_cmp ((J 20 (Int.toNat ((a2 + v5_1))))) (a4)).toInt)]) (h' := gr_h I J) (C := ((True ∧ True) ∧ True)) rfl ⟨⟨trivial, trivial⟩, trivial⟩ ?_
        refine gv_if_ne (t := 23) hD rfl rfl ⟨by exact gz_m 8 (by omega), by exact gz_m 9 (by omega)⟩ (fun c4 => ?_) (fun c4 => ?_)
        · refine gv_run 2 true hD (pc' := 3) (lv' := [(5, .inl (v5_1 + 1)), (0, .inr (.inr (some 20))), (1, .inl a2), (2, .inl a3), (3, .inr (.inl a4))]) (st' := []) (h' := gr_h I J) (C := ((True ∧ True) ∧ True)) rfl ⟨⟨trivial, trivial⟩, trivial⟩ ?_
          refine gv_pick [1, 2, 3, 4, 0] rfl ?_
          exact ih3 (v5_1 + 1) (by exact gz_m 10 (by omega)) (by exact gz_m 11 (by omega))
        · refine gv_run 1 true hD (pc' := 22) (lv' := [(0, .inr (.inr (some 20))), (1, .inl a2), (2, .inl a3), (3, .inr (.inl a4)), (5, .inl v5_1)]) (st' := [.inl v5_1]) (h' := gr_h I J) (C := (True ∧ True)) rfl ⟨trivial, trivial⟩ ?_
          exact gv_iret hD rfl ⟨rfl, ⟨_, rfl, by exact gz_m 12 (by omega)⟩⟩
  refine gv_run 2 true hD (pc' := 3) (lv' := [(5, .inl 0), (0, .inr (.inr (some 20))), (1, .inl a2), (2, .inl a3), (3, .inr (.inl a4))]) (st' := []) (h' := gr_h I J) (C := ((True ∧ True) ∧ True)) rfl ⟨⟨trivial, trivial⟩, trivial⟩ ?_
  refine gv_pick [1, 2, 3, 4, 0] rfl ?_
  exact L3 _ 0 (Nat.lt_succ_self _) (by exact gz_m 13 (by omega))
set_option maxHeartbeats 8000000 in
set_option maxRecDepth 100000 in
theorem r_find_21 {ws0 : List Cond} {tb : String → gz_T} (hws : ∀ w ∈ gr_ws, w ∈ ws0) (htb : tb RX13 = gr_T) (ext : gz_Sh) (I : gr_I) (J : gr_J) (hI : gr_Inv I) (a2 : Int) (a3 : Int) (a4 : Int64) (ha2 : 0 ≤ a2 ∧ a2 ≤ 384) (ha3 : 0 ≤ a3 ∧ a3 ≤ 384) (x0 : a2 + a3 ≤ 384) : ∃ r h', gz_Ev ws0 tb 1 (yX13_find, cX13_find, 6, (some .int)) [.inr (.inr (some 21)), .inl a2, .inl a3, .inr (.inl a4)] (gr_sh ++ ext) (gr_h I J) r (gr_sh ++ ext) h' 0 0 ∧ (h' = gr_h I J ∧ (∃ z : Int, r = some (.inl z) ∧ (-1) ≤ z ∧ z ≤ 383 ∧ (z < a3))) := by
  have hD : gv_D (gr_E ws0 tb 0 (yX13_find, cX13_find, 6, (some .int)) kX13_find) := gq_of oX13_find
  refine gr_ev (d := 0) (l := kX13_find) (Po := fun r h' => (h' = gr_h I J ∧ (∃ z : Int, r = some (.inl z) ∧ (-1) ≤ z ∧ z ≤ 383 ∧ (z < a3)))) htb rfl (Nat.le_of_ble_eq_true rfl) ?_
  have L3 : ∀ (n : Nat) (v5_1 : Int), (385 - v5_1).toNat < n → ((0 ≤ a2 ∧ a2 ≤ 384) ∧ (0 ≤ a3 ∧ a3 ≤ 384) ∧ (0 ≤ v5_1 ∧ v5_1 ≤ 384) ∧ (a2 + a3 ≤ 384)) → gv_X (gr_E ws0 tb 0 (yX13_find, cX13_find, 6, (some .int)) kX13_find) (gv_Q cX13_find (some .int) (gr_sh ++ ext) (fun r h' => (h' = gr_h I J ∧ (∃ z : Int, r = some (.inl z) ∧ (-1) ≤ z ∧ z ≤ 383 ∧ (z < a3))))) (3, [(0, .inr (.inr (some 21))), (1, .inl a2), (2, .inl a3), (3, .inr (.inl a4)), (5, .inl v5_1)], [], gr_sh ++ ext, gr_h I J) := by
    intro n
    induction n with
    | zero => intro v5_1 hn; exact gz_m 0 (by omega)
    | succ n ih3 =>
      intro v5_1 hn m_1
      obtain ⟨ha2_1, ha3_1, hv5_1, e0_1⟩ := m_1
      refine gv_run 2 true hD (pc' := 6) (lv' := [(0, .inr (.inr (some 21))), (1, .inl a2), (2, .inl a3), (3, .inr (.inl a4)), (5, .inl v5_1)]) (st' := [.inl a3, .inl v5_1]) (h' := gr_h I J) (C := ((True ∧ True) ∧ True)) rfl ⟨⟨trivial, trivial⟩, trivial⟩ ?_
      refine gv_icmp_ge (t := 29) hD rfl rfl ⟨⟨by exact gz_m 1 (by omega), by exact gz_m 2 (by omega)⟩, ⟨by exact gz_m 3 (by omega), by exact gz_m 4 (by omega)⟩⟩ (fun c2 => ?_) (fun c2 => ?_)
      · refine gv_run 1 true hD (pc' := 30) (lv' := [(0, .inr (.inr (some 21))), (1, .inl a2), (2, .inl a3), (3, .inr (.inl a4)), (5, .inl v5_1)]) (st' := [.inl (-1)]) (h' := gr_h I J) (C := (True ∧ True)) rfl ⟨trivial, trivial⟩ ?_
        exact gv_iret hD rfl ⟨rfl, ⟨_, rfl, by exact gz_m 5 (by omega)⟩⟩
      · refine gv_run 5 true hD (pc' := 15) (lv' := [(0, .inr (.inr (some 21))), (1, .inl a2), (2, .inl a3), (3, .inr (.inl a4)), (5, .inl v5_1)]) (st' := [.inr (.inl (J 21 (Int.toNat ((a2 + v5_1)))))]) (h' := gr_h I J) (C := (((((True ∧ True) ∧ True) ∧ True) ∧ True) ∧ (0 ≤ (a2 + v5_1) ∧ (a2 + v5_1) < ((384 : Nat) : Int)))) rfl ⟨⟨⟨⟨⟨trivial, trivial⟩, trivial⟩, trivial⟩, trivial⟩, ⟨by exact gz_m 6 (by omega), by exact gz_m 7 (by omega)⟩⟩ ?_
        have f3 := gw_cmp ((J 21 (Int.toNat ((a2 + v5_1))))) (a4)
        refine gv_run 2 true hD (pc' := 17) (lv' := [(0, .inr (.inr (some 21))), (1, .inl a2), (2, .inl a3), (3, .inr (.inl a4)), (5, .inl v5_1)]) (st' := [.inl ((lg_cmp ((J 21 (Int.toNat ((a2 + v5_1))))) (a4)).toInt)]) (h' := gr_h I J) (C := ((True ∧ True) ∧ True)) rfl ⟨⟨trivial, trivial⟩, trivial⟩ ?_
        refine gv_if_ne (t := 23) hD rfl rfl ⟨by exact gz_m 8 (by omega), by exact gz_m 9 (by omega)⟩ (fun c4 => ?_) (fun c4 => ?_)
        · refine gv_run 2 true hD (pc' := 3) (lv' := [(5, .inl (v5_1 + 1)), (0, .inr (.inr (some 21))), (1, .inl a2), (2, .inl a3), (3, .inr (.inl a4))]) (st' := []) (h' := gr_h I J) (C := ((True ∧ True) ∧ True)) rfl ⟨⟨trivial, trivial⟩, trivial⟩ ?_
          refine gv_pick [1, 2, 3, 4, 0] rfl ?_
          exact ih3 (v5_1 + 1) (by exact gz_m 10 (by omega)) (by exact gz_m 11 (by omega))
        · refine gv_run 1 true hD (pc' := 22) (lv' := [(0, .inr (.inr (some 21))), (1, .inl a2), (2, .inl a3), (3, .inr (.inl a4)), (5, .inl v5_1)]) (st' := [.inl v5_1]) (h' := gr_h I J) (C := (True ∧ True)) rfl ⟨trivial, trivial⟩ ?_
          exact gv_iret hD rfl ⟨rfl, ⟨_, rfl, by exact gz_m 12 (by omega)⟩⟩
  refine gv_run 2 true hD (pc' := 3) (lv' := [(5, .inl 0), (0, .inr (.inr (some 21))), (1, .inl a2), (2, .inl a3), (3, .inr (.inl a4))]) (st' := []) (h' := gr_h I J) (C := ((True ∧ True) ∧ True)) rfl ⟨⟨trivial, trivial⟩, trivial⟩ ?_
  refine gv_pick [1, 2, 3, 4, 0] rfl ?_
  exact L3 _ 0 (Nat.lt_succ_self _) (by exact gz_m 13 (by omega))
set_option maxHeartbeats 8000000 in
set_option maxRecDepth 100000 in
theorem r_find_23 {ws0 : List Cond} {tb : String → gz_T} (hws : ∀ w ∈ gr_ws, w ∈ ws0) (htb : tb RX13 = gr_T) (ext : gz_Sh) (I : gr_I) (J : gr_J) (hI : gr_Inv I) (a2 : Int) (a3 : Int) (a4 : Int64) (ha2 : 0 ≤ a2 ∧ a2 ≤ 192) (ha3 : 0 ≤ a3 ∧ a3 ≤ 192) (x0 : a2 + a3 ≤ 192) : ∃ r h', gz_Ev ws0 tb 1 (yX13_find, cX13_find, 6, (some .int)) [.inr (.inr (some 23)), .inl a2, .inl a3, .inr (.inl a4)] (gr_sh ++ ext) (gr_h I J) r (gr_sh ++ ext) h' 0 0 ∧ (h' = gr_h I J ∧ (∃ z : Int, r = some (.inl z) ∧ (-1) ≤ z ∧ z ≤ 191 ∧ (z < a3))) := by
  have hD : gv_D (gr_E ws0 tb 0 (yX13_find, cX13_find, 6, (some .int)) kX13_find) := gq_of oX13_find
  refine gr_ev (d := 0) (l := kX13_find) (Po := fun r h' => (h' = gr_h I J ∧ (∃ z : Int, r = some (.inl z) ∧ (-1) ≤ z ∧ z ≤ 191 ∧ (z < a3)))) htb rfl (Nat.le_of_ble_eq_true rfl) ?_
  have L3 : ∀ (n : Nat) (v5_1 : Int), (193 - v5_1).toNat < n → ((0 ≤ a2 ∧ a2 ≤ 192) ∧ (0 ≤ a3 ∧ a3 ≤ 192) ∧ (0 ≤ v5_1 ∧ v5_1 ≤ 192) ∧ (a2 + a3 ≤ 192)) → gv_X (gr_E ws0 tb 0 (yX13_find, cX13_find, 6, (some .int)) kX13_find) (gv_Q cX13_find (some .int) (gr_sh ++ ext) (fun r h' => (h' = gr_h I J ∧ (∃ z : Int, r = some (.inl z) ∧ (-1) ≤ z ∧ z ≤ 191 ∧ (z < a3))))) (3, [(0, .inr (.inr (some 23))), (1, .inl a2), (2, .inl a3), (3, .inr (.inl a4)), (5, .inl v5_1)], [], gr_sh ++ ext, gr_h I J) := by
    intro n
    induction n with
    | zero => intro v5_1 hn; exact gz_m 0 (by omega)
    | succ n ih3 =>
      intro v5_1 hn m_1
      obtain ⟨ha2_1, ha3_1, hv5_1, e0_1⟩ := m_1
      refine gv_run 2 true hD (pc' := 6) (lv' := [(0, .inr (.inr (some 23))), (1, .inl a2), (2, .inl a3), (3, .inr (.inl a4)), (5, .inl v5_1)]) (st' := [.inl a3, .inl v5_1]) (h' := gr_h I J) (C := ((True ∧ True) ∧ True)) rfl ⟨⟨trivial, trivial⟩, trivial⟩ ?_
      refine gv_icmp_ge (t := 29) hD rfl rfl ⟨⟨by exact gz_m 1 (by omega), by exact gz_m 2 (by omega)⟩, ⟨by exact gz_m 3 (by omega), by exact gz_m 4 (by omega)⟩⟩ (fun c2 => ?_) (fun c2 => ?_)
      · refine gv_run 1 true hD (pc' := 30) (lv' := [(0, .inr (.inr (some 23))), (1, .inl a2), (2, .inl a3), (3, .inr (.inl a4)), (5, .inl v5_1)]) (st' := [.inl (-1)]) (h' := gr_h I J) (C := (True ∧ True)) rfl ⟨trivial, trivial⟩ ?_
        exact gv_iret hD rfl ⟨rfl, ⟨_, rfl, by exact gz_m 5 (by omega)⟩⟩
      · refine gv_run 5 true hD (pc' := 15) (lv' := [(0, .inr (.inr (some 23))), (1, .inl a2), (2, .inl a3), (3, .inr (.inl a4)), (5, .inl v5_1)]) (st' := [.inr (.inl (J 23 (Int.toNat ((a2 + v5_1)))))]) (h' := gr_h I J) (C := (((((True ∧ True) ∧ True) ∧ True) ∧ True) ∧ (0 ≤ (a2 + v5_1) ∧ (a2 + v5_1) < ((192 : Nat) : Int)))) rfl ⟨⟨⟨⟨⟨trivial, trivial⟩, trivial⟩, trivial⟩, trivial⟩, ⟨by exact gz_m 6 (by omega), by exact gz_m 7 (by omega)⟩⟩ ?_
        have f3 := gw_cmp ((J 23 (Int.toNat ((a2 + v5_1))))) (a4)
        refine gv_run 2 true hD (pc' := 17) (lv' := [(0, .inr (.inr (some 23))), (1, .inl a2), (2, .inl a3), (3, .inr (.inl a4)), (5, .inl v5_1)]) (st' := [.inl ((lg_cmp ((J 23 (Int.toNat ((a2 + v5_1))))) (a4)).toInt)]) (h' := gr_h I J) (C := ((True ∧ True) ∧ True)) rfl ⟨⟨trivial, trivial⟩, trivial⟩ ?_
        refine gv_if_ne (t := 23) hD rfl rfl ⟨by exact gz_m 8 (by omega), by exact gz_m 9 (by omega)⟩ (fun c4 => ?_) (fun c4 => ?_)
        · refine gv_run 2 true hD (pc' := 3) (lv' := [(5, .inl (v5_1 + 1)), (0, .inr (.inr (some 23))), (1, .inl a2), (2, .inl a3), (3, .inr (.inl a4))]) (st' := []) (h' := gr_h I J) (C := ((True ∧ True) ∧ True)) rfl ⟨⟨trivial, trivial⟩, trivial⟩ ?_
          refine gv_pick [1, 2, 3, 4, 0] rfl ?_
          exact ih3 (v5_1 + 1) (by exact gz_m 10 (by omega)) (by exact gz_m 11 (by omega))
        · refine gv_run 1 true hD (pc' := 22) (lv' := [(0, .inr (.inr (some 23))), (1, .inl a2), (2, .inl a3), (3, .inr (.inl a4)), (5, .inl v5_1)]) (st' := [.inl v5_1]) (h' := gr_h I J) (C := (True ∧ True)) rfl ⟨trivial, trivial⟩ ?_
          exact gv_iret hD rfl ⟨rfl, ⟨_, rfl, by exact gz_m 12 (by omega)⟩⟩
  refine gv_run 2 true hD (pc' := 3) (lv' := [(5, .inl 0), (0, .inr (.inr (some 23))), (1, .inl a2), (2, .inl a3), (3, .inr (.inl a4))]) (st' := []) (h' := gr_h I J) (C := ((True ∧ True) ∧ True)) rfl ⟨⟨trivial, trivial⟩, trivial⟩ ?_
  refine gv_pick [1, 2, 3, 4, 0] rfl ?_
  exact L3 _ 0 (Nat.lt_succ_self _) (by exact gz_m 13 (by omega))
set_option maxHeartbeats 8000000 in
set_option maxRecDepth 100000 in
theorem r_hitsWord {ws0 : List Cond} {tb : String → gz_T} (hws : ∀ w ∈ gr_ws, w ∈ ws0) (htb : tb RX13 = gr_T) (ext : gz_Sh) (I : gr_I) (J : gr_J) (hI : gr_Inv I) (a1 : Int) (a2 : Int) (a3 : Int) (ha1 : 0 ≤ a1 ∧ a1 ≤ 7) (ha2 : 0 ≤ a2 ∧ a2 ≤ 7) (ha3 : 0 ≤ a3 ∧ a3 ≤ 2399) (x0 : I 130 (a2).toNat + I 131 (a2).toNat ≤ 1000) (x1 : I 131 (a2).toNat = -2 ∨ 0 ≤ I 130 (a2).toNat) : ∃ r h', gz_Ev ws0 tb 2 (yX13_hitsWord, cX13_hitsWord, 6, (some .boolean)) [.inr (.inr (some 0)), .inl a1, .inl a2, .inl a3] (gr_sh ++ ext) (gr_h I J) r (gr_sh ++ ext) h' 0 0 ∧ (h' = gr_h I J ∧ (∃ z : Int, r = some (.inl z) ∧ 0 ≤ z ∧ z ≤ 1)) := by
  have hD : gv_D (gr_E ws0 tb 1 (yX13_hitsWord, cX13_hitsWord, 6, (some .boolean)) kX13_hitsWord) := gq_of oX13_hitsWord
  refine gr_ev (d := 1) (l := kX13_hitsWord) (Po := fun r h' => (h' = gr_h I J ∧ (∃ z : Int, r = some (.inl z) ∧ 0 ≤ z ∧ z ≤ 1))) htb rfl (Nat.le_of_ble_eq_true rfl) ?_
  have L42 : ∀ (n : Nat) (v4_1 : Int), (13 - v4_1).toNat < n → ((0 ≤ a2 ∧ a2 ≤ 7) ∧ (0 ≤ a3 ∧ a3 ≤ 2399) ∧ (0 ≤ v4_1 ∧ v4_1 ≤ 12) ∧ (I 130 (a2).toNat + I 131 (a2).toNat ≤ 1000) ∧ (0 ≤ I 130 (a2).toNat)) → gv_X (gr_E ws0 tb 1 (yX13_hitsWord, cX13_hitsWord, 6, (some .boolean)) kX13_hitsWord) (gv_Q cX13_hitsWord (some .boolean) (gr_sh ++ ext) (fun r h' => (h' = gr_h I J ∧ (∃ z : Int, r = some (.inl z) ∧ 0 ≤ z ∧ z ≤ 1)))) (42, [(0, .inr (.inr (some 0))), (2, .inl a2), (3, .inl a3), (4, .inl v4_1)], [], gr_sh ++ ext, gr_h I J) := by
    intro n
    induction n with
    | zero => intro v4_1 hn; exact gz_m 0 (by omega)
    | succ n ih42 =>
      intro v4_1 hn m_1
      obtain ⟨ha2_1, ha3_1, hv4_1, e0_1, e1_1⟩ := m_1
      have f2 := (gr_b_131 hI (Int.toNat a2))
      refine gv_run 5 true hD (pc' := 50) (lv' := [(0, .inr (.inr (some 0))), (2, .inl a2), (3, .inl a3), (4, .inl v4_1)]) (st' := [.inl (I 131 (Int.toNat a2)), .inl v4_1]) (h' := gr_h I J) (C := (((((True ∧ True) ∧ True) ∧ True) ∧ True) ∧ (0 ≤ a2 ∧ a2 < ((8 : Nat) : Int)))) rfl ⟨⟨⟨⟨⟨trivial, trivial⟩, trivial⟩, trivial⟩, trivial⟩, ⟨by exact gz_m 1 (by omega), by exact gz_m 2 (by omega)⟩⟩ ?_
      refine gv_icmp_ge (t := 90) hD rfl rfl ⟨⟨by exact gz_m 3 (by omega), by exact gz_m 4 (by omega)⟩, ⟨by exact gz_m 5 (by omega), by exact gz_m 6 (by omega)⟩⟩ (fun c3 => ?_) (fun c3 => ?_)
      · refine gv_run 1 true hD (pc' := 91) (lv' := [(0, .inr (.inr (some 0))), (2, .inl a2), (3, .inl a3), (4, .inl v4_1)]) (st' := [.inl 1]) (h' := gr_h I J) (C := (True ∧ True)) rfl ⟨trivial, trivial⟩ ?_
        exact gv_zret hD rfl (by exact gz_m 7 (by omega)) ⟨rfl, ⟨_, rfl, by exact gz_m 8 (by omega)⟩⟩
      · refine gv_run 7 true hD (pc' := 64) (lv' := [(0, .inr (.inr (some 0))), (2, .inl a2), (3, .inl a3), (4, .inl v4_1)]) (st' := [.inl ((24 * a3) + v4_1), .inr (.inr (some 126))]) (h' := gr_h I J) (C := (((((((True ∧ True) ∧ True) ∧ True) ∧ True) ∧ True) ∧ True) ∧ True)) rfl ⟨⟨⟨⟨⟨⟨⟨trivial, trivial⟩, trivial⟩, trivial⟩, trivial⟩, trivial⟩, trivial⟩, trivial⟩ ?_
        have f4 := (gr_b_126 hI (Int.toNat (((24 * a3) + v4_1))))
        refine gv_run 1 true hD (pc' := 65) (lv' := [(0, .inr (.inr (some 0))), (2, .inl a2), (3, .inl a3), (4, .inl v4_1)]) (st' := [.inl (I 126 (Int.toNat (((24 * a3) + v4_1))))]) (h' := gr_h I J) (C := (True ∧ (0 ≤ (((24 * a3) + v4_1)) ∧ (((24 * a3) + v4_1)) < ((57600 : Nat) : Int)))) rfl ⟨trivial, ⟨by exact gz_m 9 (by omega), by exact gz_m 10 (by omega)⟩⟩ ?_
        have f5 := (gr_b_130 hI (Int.toNat a2))
        refine gv_run 6 true hD (pc' := 75) (lv' := [(0, .inr (.inr (some 0))), (2, .inl a2), (3, .inl a3), (4, .inl v4_1)]) (st' := [.inl (I 130 (Int.toNat a2)), .inr (.inr (some 57)), .inl (I 126 (Int.toNat (((24 * a3) + v4_1))))]) (h' := gr_h I J) (C := ((((((True ∧ True) ∧ True) ∧ True) ∧ True) ∧ True) ∧ (0 ≤ a2 ∧ a2 < ((8 : Nat) : Int)))) rfl ⟨⟨⟨⟨⟨⟨trivial, trivial⟩, trivial⟩, trivial⟩, trivial⟩, trivial⟩, ⟨by exact gz_m 11 (by omega), by exact gz_m 12 (by omega)⟩⟩ ?_
        have f6 := (gr_b_57 hI (Int.toNat (((I 130 (Int.toNat a2)) + v4_1))))
        refine gv_run 3 true hD (pc' := 79) (lv' := [(0, .inr (.inr (some 0))), (2, .inl a2), (3, .inl a3), (4, .inl v4_1)]) (st' := [.inl (I 57 (Int.toNat (((I 130 (Int.toNat a2)) + v4_1)))), .inl (I 126 (Int.toNat (((24 * a3) + v4_1))))]) (h' := gr_h I J) (C := (((True ∧ True) ∧ True) ∧ (0 ≤ (((I 130 (Int.toNat a2)) + v4_1)) ∧ (((I 130 (Int.toNat a2)) + v4_1)) < ((1000 : Nat) : Int)))) rfl ⟨⟨⟨trivial, trivial⟩, trivial⟩, ⟨by exact gz_m 13 (by omega), by exact gz_m 14 (by omega)⟩⟩ ?_
        refine gv_icmp_eq (t := 84) hD rfl rfl ⟨⟨by exact gz_m 15 (by omega), by exact gz_m 16 (by omega)⟩, ⟨by exact gz_m 17 (by omega), by exact gz_m 18 (by omega)⟩⟩ (fun c7 => ?_) (fun c7 => ?_)
        · refine gv_run 2 true hD (pc' := 42) (lv' := [(4, .inl (v4_1 + 1)), (0, .inr (.inr (some 0))), (2, .inl a2), (3, .inl a3)]) (st' := []) (h' := gr_h I J) (C := ((True ∧ True) ∧ True)) rfl ⟨⟨trivial, trivial⟩, trivial⟩ ?_
          refine gv_pick [1, 2, 3, 0] rfl ?_
          exact ih42 (v4_1 + 1) (by exact gz_m 19 (by omega)) (by exact gz_m 20 (by omega))
        · refine gv_run 1 true hD (pc' := 83) (lv' := [(0, .inr (.inr (some 0))), (2, .inl a2), (3, .inl a3), (4, .inl v4_1)]) (st' := [.inl 0]) (h' := gr_h I J) (C := (True ∧ True)) rfl ⟨trivial, trivial⟩ ?_
          exact gv_zret hD rfl (by exact gz_m 21 (by omega)) ⟨rfl, ⟨_, rfl, by exact gz_m 22 (by omega)⟩⟩
  have L95 : ∀ (n : Nat) (v4_8 : Int), (65 - v4_8).toNat < n → ((0 ≤ a1 ∧ a1 ≤ 7) ∧ (0 ≤ a2 ∧ a2 ≤ 7) ∧ (0 ≤ a3 ∧ a3 ≤ 2399) ∧ (0 ≤ v4_8 ∧ v4_8 ≤ 64)) → gv_X (gr_E ws0 tb 1 (yX13_hitsWord, cX13_hitsWord, 6, (some .boolean)) kX13_hitsWord) (gv_Q cX13_hitsWord (some .boolean) (gr_sh ++ ext) (fun r h' => (h' = gr_h I J ∧ (∃ z : Int, r = some (.inl z) ∧ 0 ≤ z ∧ z ≤ 1)))) (95, [(0, .inr (.inr (some 0))), (1, .inl a1), (2, .inl a2), (3, .inl a3), (4, .inl v4_8)], [], gr_sh ++ ext, gr_h I J) := by
    intro n
    induction n with
    | zero => intro v4_8 hn; exact gz_m 23 (by omega)
    | succ n ih95 =>
      intro v4_8 hn m_8
      obtain ⟨ha1_8, ha2_8, ha3_8, hv4_8⟩ := m_8
      have L187 : ((0 ≤ a1 ∧ a1 ≤ 7) ∧ (0 ≤ a2 ∧ a2 ≤ 7) ∧ (0 ≤ a3 ∧ a3 ≤ 2399) ∧ (0 ≤ v4_8 ∧ v4_8 ≤ 63)) → gv_X (gr_E ws0 tb 1 (yX13_hitsWord, cX13_hitsWord, 6, (some .boolean)) kX13_hitsWord) (gv_Q cX13_hitsWord (some .boolean) (gr_sh ++ ext) (fun r h' => (h' = gr_h I J ∧ (∃ z : Int, r = some (.inl z) ∧ 0 ≤ z ∧ z ≤ 1)))) (187, [(0, .inr (.inr (some 0))), (1, .inl a1), (2, .inl a2), (3, .inl a3), (4, .inl v4_8)], [], gr_sh ++ ext, gr_h I J) := by
        intro m_9
        obtain ⟨ha1_9, ha2_9, ha3_9, hv4_8_9⟩ := m_9
        refine gv_run 2 true hD (pc' := 95) (lv' := [(4, .inl (v4_8 + 1)), (0, .inr (.inr (some 0))), (1, .inl a1), (2, .inl a2), (3, .inl a3)]) (st' := []) (h' := gr_h I J) (C := ((True ∧ True) ∧ True)) rfl ⟨⟨trivial, trivial⟩, trivial⟩ ?_
        refine gv_pick [1, 2, 3, 4, 0] rfl ?_
        exact ih95 (v4_8 + 1) (by exact gz_m 24 (by omega)) (by exact gz_m 25 (by omega))
      have L138 : ∀ (n : Nat) (v5_10 : Int), (25 - v5_10).toNat < n → ((0 ≤ a1 ∧ a1 ≤ 7) ∧ (0 ≤ a2 ∧ a2 ≤ 7) ∧ (0 ≤ a3 ∧ a3 ≤ 2399) ∧ (0 ≤ v4_8 ∧ v4_8 ≤ 63) ∧ (0 ≤ v5_10 ∧ v5_10 ≤ 24)) → gv_X (gr_E ws0 tb 1 (yX13_hitsWord, cX13_hitsWord, 6, (some .boolean)) kX13_hitsWord) (gv_Q cX13_hitsWord (some .boolean) (gr_sh ++ ext) (fun r h' => (h' = gr_h I J ∧ (∃ z : Int, r = some (.inl z) ∧ 0 ≤ z ∧ z ≤ 1)))) (138, [(0, .inr (.inr (some 0))), (1, .inl a1), (2, .inl a2), (3, .inl a3), (4, .inl v4_8), (5, .inl v5_10)], [], gr_sh ++ ext, gr_h I J) := by
        intro n
        induction n with
        | zero => intro v5_10 hn; exact gz_m 26 (by omega)
        | succ n ih138 =>
          intro v5_10 hn m_10
          obtain ⟨ha1_10, ha2_10, ha3_10, hv4_8_10, hv5_10⟩ := m_10
          refine gv_run 4 true hD (pc' := 144) (lv' := [(0, .inr (.inr (some 0))), (1, .inl a1), (2, .inl a2), (3, .inl a3), (4, .inl v4_8), (5, .inl v5_10)]) (st' := [.inl v4_8, .inl a1, .inr (.inr (some 0)), .inl v5_10]) (h' := gr_h I J) (C := ((((True ∧ True) ∧ True) ∧ True) ∧ True)) rfl ⟨⟨⟨⟨trivial, trivial⟩, trivial⟩, trivial⟩, trivial⟩ ?_
          obtain ⟨r11, h11, E11, P11⟩ := r_cellsOf (ws0 := ws0) (tb := tb) hws htb ext I J hI a1 v4_8 ⟨by exact gz_m 27 (by omega), by exact gz_m 28 (by omega)⟩ ⟨by exact gz_m 29 (by omega), by exact gz_m 30 (by omega)⟩ 
          obtain ⟨rfl, ⟨z11, rfl, q11⟩⟩ := P11
          refine gv_callV hD rfl (As := [.inl a1, .inl v4_8]) (st := [.inl v5_10]) rfl (by decide) rfl rfl (gr_lV hws rfl) (Nat.le_of_ble_eq_true rfl) (gz_Ev_mono (d := 1) (by decide) E11) ?_
          show gv_X _ _ (147, [(0, .inr (.inr (some 0))), (1, .inl a1), (2, .inl a2), (3, .inl a3), (4, .inl v4_8), (5, .inl v5_10)], [.inl z11, .inl v5_10], gr_sh ++ ext, gr_h I J)
          refine gv_icmp_ge (t := 187) hD rfl rfl ⟨⟨by exact gz_m 31 (by omega), by exact gz_m 32 (by omega)⟩, ⟨by exact gz_m 33 (by omega), by exact gz_m 34 (by omega)⟩⟩ (fun c12 => ?_) (fun c12 => ?_)
          · refine gv_pick [0, 1, 2, 3, 4] rfl ?_
            exact L187 (by exact gz_m 35 (by omega))
          · refine gv_run 7 true hD (pc' := 160) (lv' := [(0, .inr (.inr (some 0))), (1, .inl a1), (2, .inl a2), (3, .inl a3), (4, .inl v4_8), (5, .inl v5_10)]) (st' := [.inr (.inr (some 0)), .inl ((24 * v4_8) + v5_10), .inr (.inr (some 0))]) (h' := gr_h I J) (C := (((((((True ∧ True) ∧ True) ∧ True) ∧ True) ∧ True) ∧ True) ∧ True)) rfl ⟨⟨⟨⟨⟨⟨⟨trivial, trivial⟩, trivial⟩, trivial⟩, trivial⟩, trivial⟩, trivial⟩, trivial⟩ ?_
            refine gv_run 7 true hD (pc' := 172) (lv' := [(0, .inr (.inr (some 0))), (1, .inl a1), (2, .inl a2), (3, .inl a3), (4, .inl v4_8), (5, .inl v5_10)]) (st' := [.inl a3, .inr (.inr (some 129)), .inl (24 * a3), .inr (.inr (some 126)), .inl ((24 * v4_8) + v5_10), .inr (.inr (some 0))]) (h' := gr_h I J) (C := (((((((True ∧ True) ∧ True) ∧ True) ∧ True) ∧ True) ∧ True) ∧ True)) rfl ⟨⟨⟨⟨⟨⟨⟨trivial, trivial⟩, trivial⟩, trivial⟩, trivial⟩, trivial⟩, trivial⟩, trivial⟩ ?_
            have f13 := (gr_b_129 hI (Int.toNat a3))
            refine gv_run 1 true hD (pc' := 173) (lv' := [(0, .inr (.inr (some 0))), (1, .inl a1), (2, .inl a2), (3, .inl a3), (4, .inl v4_8), (5, .inl v5_10)]) (st' := [.inl (I 129 (Int.toNat a3)), .inl (24 * a3), .inr (.inr (some 126)), .inl ((24 * v4_8) + v5_10), .inr (.inr (some 0))]) (h' := gr_h I J) (C := (True ∧ (0 ≤ a3 ∧ a3 < ((2400 : Nat) : Int)))) rfl ⟨trivial, ⟨by exact gz_m 36 (by omega), by exact gz_m 37 (by omega)⟩⟩ ?_
            obtain ⟨r14, h14, E14, P14⟩ := r_isForm_126 (ws0 := ws0) (tb := tb) hws htb ext I J hI (((24 * v4_8) + v5_10)) (24 * a3) ((I 129 (Int.toNat a3))) ⟨by exact gz_m 38 (by omega), by exact gz_m 39 (by omega)⟩ ⟨by exact gz_m 40 (by omega), by exact gz_m 41 (by omega)⟩ ⟨by exact gz_m 42 (by omega), by exact gz_m 43 (by omega)⟩ (by exact gz_m 44 (by omega))
            obtain ⟨rfl, ⟨z14, rfl, q14⟩⟩ := P14
            refine gv_callV hD rfl (As := [.inl ((24 * v4_8) + v5_10), .inr (.inr (some 126)), .inl (24 * a3), .inl (I 129 (Int.toNat a3))]) (st := []) rfl (by decide) rfl rfl (gr_lV hws rfl) (Nat.le_of_ble_eq_true rfl) (gz_Ev_mono (d := 1) (by decide) E14) ?_
            show gv_X _ _ (176, [(0, .inr (.inr (some 0))), (1, .inl a1), (2, .inl a2), (3, .inl a3), (4, .inl v4_8), (5, .inl v5_10)], [.inl z14], gr_sh ++ ext, gr_h I J)
            refine gv_if_eq (t := 181) hD rfl rfl ⟨by exact gz_m 45 (by omega), by exact gz_m 46 (by omega)⟩ (fun c15 => ?_) (fun c15 => ?_)
            · refine gv_run 2 true hD (pc' := 138) (lv' := [(5, .inl (v5_10 + 1)), (0, .inr (.inr (some 0))), (1, .inl a1), (2, .inl a2), (3, .inl a3), (4, .inl v4_8)]) (st' := []) (h' := gr_h I J) (C := ((True ∧ True) ∧ True)) rfl ⟨⟨trivial, trivial⟩, trivial⟩ ?_
              refine gv_pick [1, 2, 3, 4, 5, 0] rfl ?_
              exact ih138 (v5_10 + 1) (by exact gz_m 47 (by omega)) (by exact gz_m 48 (by omega))
            · refine gv_run 1 true hD (pc' := 180) (lv' := [(0, .inr (.inr (some 0))), (1, .inl a1), (2, .inl a2), (3, .inl a3), (4, .inl v4_8), (5, .inl v5_10)]) (st' := [.inl 1]) (h' := gr_h I J) (C := (True ∧ True)) rfl ⟨trivial, trivial⟩ ?_
              exact gv_zret hD rfl (by exact gz_m 49 (by omega)) ⟨rfl, ⟨_, rfl, by exact gz_m 50 (by omega)⟩⟩
      have f16 := (gr_b_18 hI (Int.toNat a1))
      refine gv_run 5 true hD (pc' := 103) (lv' := [(0, .inr (.inr (some 0))), (1, .inl a1), (2, .inl a2), (3, .inl a3), (4, .inl v4_8)]) (st' := [.inl (I 18 (Int.toNat a1)), .inl v4_8]) (h' := gr_h I J) (C := (((((True ∧ True) ∧ True) ∧ True) ∧ True) ∧ (0 ≤ a1 ∧ a1 < ((8 : Nat) : Int)))) rfl ⟨⟨⟨⟨⟨trivial, trivial⟩, trivial⟩, trivial⟩, trivial⟩, ⟨by exact gz_m 51 (by omega), by exact gz_m 52 (by omega)⟩⟩ ?_
      refine gv_icmp_ge (t := 193) hD rfl rfl ⟨⟨by exact gz_m 53 (by omega), by exact gz_m 54 (by omega)⟩, ⟨by exact gz_m 55 (by omega), by exact gz_m 56 (by omega)⟩⟩ (fun c17 => ?_) (fun c17 => ?_)
      · refine gv_run 1 true hD (pc' := 194) (lv' := [(0, .inr (.inr (some 0))), (1, .inl a1), (2, .inl a2), (3, .inl a3), (4, .inl v4_8)]) (st' := [.inl 0]) (h' := gr_h I J) (C := (True ∧ True)) rfl ⟨trivial, trivial⟩ ?_
        exact gv_zret hD rfl (by exact gz_m 57 (by omega)) ⟨rfl, ⟨_, rfl, by exact gz_m 58 (by omega)⟩⟩
      · refine gv_run 7 true hD (pc' := 118) (lv' := [(0, .inr (.inr (some 0))), (1, .inl a1), (2, .inl a2), (3, .inl a3), (4, .inl v4_8)]) (st' := [.inl (64 * a1), .inr (.inr (some 36)), .inr (.inr (some 8))]) (h' := gr_h I J) (C := (((((((True ∧ True) ∧ True) ∧ True) ∧ True) ∧ True) ∧ True) ∧ True)) rfl ⟨⟨⟨⟨⟨⟨⟨trivial, trivial⟩, trivial⟩, trivial⟩, trivial⟩, trivial⟩, trivial⟩, trivial⟩ ?_
        have f18 := (gr_b_36 hI (Int.toNat (((64 * a1) + v4_8))))
        refine gv_run 3 true hD (pc' := 122) (lv' := [(0, .inr (.inr (some 0))), (1, .inl a1), (2, .inl a2), (3, .inl a3), (4, .inl v4_8)]) (st' := [.inl (I 36 (Int.toNat (((64 * a1) + v4_8)))), .inr (.inr (some 8))]) (h' := gr_h I J) (C := (((True ∧ True) ∧ True) ∧ (0 ≤ (((64 * a1) + v4_8)) ∧ (((64 * a1) + v4_8)) < ((512 : Nat) : Int)))) rfl ⟨⟨⟨trivial, trivial⟩, trivial⟩, ⟨by exact gz_m 59 (by omega), by exact gz_m 60 (by omega)⟩⟩ ?_
        have f19 := (gr_b_8 hI (Int.toNat ((I 36 (Int.toNat (((64 * a1) + v4_8)))))))
        refine gv_run 1 true hD (pc' := 123) (lv' := [(0, .inr (.inr (some 0))), (1, .inl a1), (2, .inl a2), (3, .inl a3), (4, .inl v4_8)]) (st' := [.inl (I 8 (Int.toNat ((I 36 (Int.toNat (((64 * a1) + v4_8)))))))]) (h' := gr_h I J) (C := (True ∧ (0 ≤ ((I 36 (Int.toNat (((64 * a1) + v4_8))))) ∧ ((I 36 (Int.toNat (((64 * a1) + v4_8))))) < ((96 : Nat) : Int)))) rfl ⟨trivial, ⟨by exact gz_m 61 (by omega), by exact gz_m 62 (by omega)⟩⟩ ?_
        have f20 := (gr_b_130 hI (Int.toNat a2))
        refine gv_run 4 true hD (pc' := 129) (lv' := [(0, .inr (.inr (some 0))), (1, .inl a1), (2, .inl a2), (3, .inl a3), (4, .inl v4_8)]) (st' := [.inl (I 130 (Int.toNat a2)), .inl (I 8 (Int.toNat ((I 36 (Int.toNat (((64 * a1) + v4_8)))))))]) (h' := gr_h I J) (C := ((((True ∧ True) ∧ True) ∧ True) ∧ (0 ≤ a2 ∧ a2 < ((8 : Nat) : Int)))) rfl ⟨⟨⟨⟨trivial, trivial⟩, trivial⟩, trivial⟩, ⟨by exact gz_m 63 (by omega), by exact gz_m 64 (by omega)⟩⟩ ?_
        refine gv_icmp_eq (t := 135) hD rfl rfl ⟨⟨by exact gz_m 65 (by omega), by exact gz_m 66 (by omega)⟩, ⟨by exact gz_m 67 (by omega), by exact gz_m 68 (by omega)⟩⟩ (fun c21 => ?_) (fun c21 => ?_)
        · refine gv_run 2 true hD (pc' := 138) (lv' := [(5, .inl 0), (0, .inr (.inr (some 0))), (1, .inl a1), (2, .inl a2), (3, .inl a3), (4, .inl v4_8)]) (st' := []) (h' := gr_h I J) (C := ((True ∧ True) ∧ True)) rfl ⟨⟨trivial, trivial⟩, trivial⟩ ?_
          refine gv_pick [1, 2, 3, 4, 5, 0] rfl ?_
          exact L138 _ 0 (Nat.lt_succ_self _) (by exact gz_m 69 (by omega))
        · refine gv_run 1 true hD (pc' := 187) (lv' := [(0, .inr (.inr (some 0))), (1, .inl a1), (2, .inl a2), (3, .inl a3), (4, .inl v4_8)]) (st' := []) (h' := gr_h I J) (C := (True ∧ True)) rfl ⟨trivial, trivial⟩ ?_
          exact L187 (by exact gz_m 70 (by omega))
  have f22 := (gr_b_131 hI (Int.toNat a2))
  refine gv_run 4 true hD (pc' := 6) (lv' := [(0, .inr (.inr (some 0))), (1, .inl a1), (2, .inl a2), (3, .inl a3)]) (st' := [.inl (I 131 (Int.toNat a2))]) (h' := gr_h I J) (C := ((((True ∧ True) ∧ True) ∧ True) ∧ (0 ≤ a2 ∧ a2 < ((8 : Nat) : Int)))) rfl ⟨⟨⟨⟨trivial, trivial⟩, trivial⟩, trivial⟩, ⟨by exact gz_m 71 (by omega), by exact gz_m 72 (by omega)⟩⟩ ?_
  refine gv_run 1 true hD (pc' := 8) (lv' := [(0, .inr (.inr (some 0))), (1, .inl a1), (2, .inl a2), (3, .inl a3)]) (st' := [.inl (-2), .inl (I 131 (Int.toNat a2))]) (h' := gr_h I J) (C := (True ∧ True)) rfl ⟨trivial, trivial⟩ ?_
  refine gv_icmp_ne (t := 13) hD rfl rfl ⟨⟨by exact gz_m 73 (by omega), by exact gz_m 74 (by omega)⟩, ⟨by exact gz_m 75 (by omega), by exact gz_m 76 (by omega)⟩⟩ (fun c23 => ?_) (fun c23 => ?_)
  · have f24 := (gr_b_131 hI (Int.toNat a2))
    refine gv_run 4 true hD (pc' := 19) (lv' := [(0, .inr (.inr (some 0))), (1, .inl a1), (2, .inl a2), (3, .inl a3)]) (st' := [.inl (I 131 (Int.toNat a2))]) (h' := gr_h I J) (C := ((((True ∧ True) ∧ True) ∧ True) ∧ (0 ≤ a2 ∧ a2 < ((8 : Nat) : Int)))) rfl ⟨⟨⟨⟨trivial, trivial⟩, trivial⟩, trivial⟩, ⟨by exact gz_m 77 (by omega), by exact gz_m 78 (by omega)⟩⟩ ?_
    refine gv_if_lt (t := 92) hD rfl rfl ⟨by exact gz_m 79 (by omega), by exact gz_m 80 (by omega)⟩ (fun c25 => ?_) (fun c25 => ?_)
    · refine gv_run 2 true hD (pc' := 95) (lv' := [(4, .inl 0), (0, .inr (.inr (some 0))), (1, .inl a1), (2, .inl a2), (3, .inl a3)]) (st' := []) (h' := gr_h I J) (C := ((True ∧ True) ∧ True)) rfl ⟨⟨trivial, trivial⟩, trivial⟩ ?_
      refine gv_pick [1, 2, 3, 4, 0] rfl ?_
      exact L95 _ 0 (Nat.lt_succ_self _) (by exact gz_m 81 (by omega))
    · have f26 := (gr_b_129 hI (Int.toNat a3))
      refine gv_run 4 true hD (pc' := 28) (lv' := [(0, .inr (.inr (some 0))), (1, .inl a1), (2, .inl a2), (3, .inl a3)]) (st' := [.inl (I 129 (Int.toNat a3))]) (h' := gr_h I J) (C := ((((True ∧ True) ∧ True) ∧ True) ∧ (0 ≤ a3 ∧ a3 < ((2400 : Nat) : Int)))) rfl ⟨⟨⟨⟨trivial, trivial⟩, trivial⟩, trivial⟩, ⟨by exact gz_m 82 (by omega), by exact gz_m 83 (by omega)⟩⟩ ?_
      have f27 := (gr_b_131 hI (Int.toNat a2))
      refine gv_run 4 true hD (pc' := 34) (lv' := [(0, .inr (.inr (some 0))), (1, .inl a1), (2, .inl a2), (3, .inl a3)]) (st' := [.inl (I 131 (Int.toNat a2)), .inl (I 129 (Int.toNat a3))]) (h' := gr_h I J) (C := ((((True ∧ True) ∧ True) ∧ True) ∧ (0 ≤ a2 ∧ a2 < ((8 : Nat) : Int)))) rfl ⟨⟨⟨⟨trivial, trivial⟩, trivial⟩, trivial⟩, ⟨by exact gz_m 84 (by omega), by exact gz_m 85 (by omega)⟩⟩ ?_
      refine gv_icmp_eq (t := 39) hD rfl rfl ⟨⟨by exact gz_m 86 (by omega), by exact gz_m 87 (by omega)⟩, ⟨by exact gz_m 88 (by omega), by exact gz_m 89 (by omega)⟩⟩ (fun c28 => ?_) (fun c28 => ?_)
      · refine gv_run 2 true hD (pc' := 42) (lv' := [(4, .inl 0), (0, .inr (.inr (some 0))), (1, .inl a1), (2, .inl a2), (3, .inl a3)]) (st' := []) (h' := gr_h I J) (C := ((True ∧ True) ∧ True)) rfl ⟨⟨trivial, trivial⟩, trivial⟩ ?_
        refine gv_pick [1, 3, 4, 0] rfl ?_
        exact L42 _ 0 (Nat.lt_succ_self _) (by exact gz_m 90 (by omega))
      · refine gv_run 1 true hD (pc' := 38) (lv' := [(0, .inr (.inr (some 0))), (1, .inl a1), (2, .inl a2), (3, .inl a3)]) (st' := [.inl 0]) (h' := gr_h I J) (C := (True ∧ True)) rfl ⟨trivial, trivial⟩ ?_
        exact gv_zret hD rfl (by exact gz_m 91 (by omega)) ⟨rfl, ⟨_, rfl, by exact gz_m 92 (by omega)⟩⟩
  · refine gv_run 1 true hD (pc' := 12) (lv' := [(0, .inr (.inr (some 0))), (1, .inl a1), (2, .inl a2), (3, .inl a3)]) (st' := [.inl 1]) (h' := gr_h I J) (C := (True ∧ True)) rfl ⟨trivial, trivial⟩ ?_
    exact gv_zret hD rfl (by exact gz_m 93 (by omega)) ⟨rfl, ⟨_, rfl, by exact gz_m 94 (by omega)⟩⟩
set_option maxHeartbeats 8000000 in
set_option maxRecDepth 100000 in
theorem r_count {ws0 : List Cond} {tb : String → gz_T} (hws : ∀ w ∈ gr_ws, w ∈ ws0) (htb : tb RX13 = gr_T) (ext : gz_Sh) (I : gr_I) (J : gr_J) (hI : gr_Inv I) (a1 : Int) (a2 : Int) (ha1 : (-2147483648) ≤ a1 ∧ a1 ≤ 2147483647) (ha2 : (-2147483648) ≤ a2 ∧ a2 ≤ 2147483647)  : ∃ r h', gz_Ev ws0 tb 2 (yX13_count, cX13_count, 3, (some .int)) [.inr (.inr (some 0)), .inl a1, .inl a2] (gr_sh ++ ext) (gr_h I J) r (gr_sh ++ ext) h' 0 0 ∧ (∃ (I' : gr_I) (J' : gr_J), h' = gr_h I' J' ∧ gr_Inv I' ∧ gr_fr [0] [] I I' ∧ gr_fj [0] [] J J' ∧ (∃ z : Int, r = some (.inl z) ∧ 0 ≤ z ∧ z ≤ 9000)) := by
  have FI : gr_fr [0] [] I I := fun _ _ _ => rfl
  have FJ : gr_fj [0] [] J J := fun _ _ _ => rfl
  have hD : gv_D (gr_E ws0 tb 1 (yX13_count, cX13_count, 3, (some .int)) kX13_count) := gq_of oX13_count
  refine gr_ev (d := 1) (l := kX13_count) (Po := fun r h' => (∃ (I' : gr_I) (J' : gr_J), h' = gr_h I' J' ∧ gr_Inv I' ∧ gr_fr [0] [] I I' ∧ gr_fj [0] [] J J' ∧ (∃ z : Int, r = some (.inl z) ∧ 0 ≤ z ∧ z ≤ 9000))) htb rfl (Nat.le_of_ble_eq_true rfl) ?_
  have L33 : ∀ (I1 : gr_I) (J2 : gr_J) , gr_Inv I1 → gr_fr [0] [] I I1 → gr_fj [0] [] J J2 → gv_X (gr_E ws0 tb 1 (yX13_count, cX13_count, 3, (some .int)) kX13_count) (gv_Q cX13_count (some .int) (gr_sh ++ ext) (fun r h' => (∃ (I' : gr_I) (J' : gr_J), h' = gr_h I' J' ∧ gr_Inv I' ∧ gr_fr [0] [] I I' ∧ gr_fj [0] [] J J' ∧ (∃ z : Int, r = some (.inl z) ∧ 0 ≤ z ∧ z ≤ 9000)))) (33, [(0, .inr (.inr (some 0)))], [], gr_sh ++ ext, gr_h I1 J2) := by
    intro I1 J2 hI1 FI1 FJ2
    refine gv_run 1 true hD (pc' := 34) (lv' := [(0, .inr (.inr (some 0)))]) (st' := [.inr (.inr (some 0))]) (h' := gr_h I1 J2) (C := (True ∧ True)) rfl ⟨trivial, trivial⟩ ?_
    obtain ⟨r4, h4, E4, P4⟩ := r_bad (ws0 := ws0) (tb := tb) hws htb ext I1 J2 hI1   
    obtain ⟨I5, J6, rfl, hI5, g4, k4, ⟨z4, rfl, q4⟩⟩ := P4
    have FI5 := gr_frt FI1 g4 rfl rfl
    have FJ6 := gr_fjt FJ2 k4 rfl rfl
    refine gv_callV hD rfl (As := []) (st := []) rfl (by decide) rfl rfl (gr_lV hws rfl) (Nat.le_of_ble_eq_true rfl) (gz_Ev_mono (d := 1) (by decide) E4) ?_
    show gv_X _ _ (37, [(0, .inr (.inr (some 0)))], [.inl z4], gr_sh ++ ext, gr_h I5 J6)
    exact gv_iret hD rfl ⟨I5, J6, rfl, hI5, FI5, FJ6, ⟨_, rfl, by exact gz_m 0 (by omega)⟩⟩
  have L38 : ∀ (I7 : gr_I) (J8 : gr_J) , gr_Inv I7 → gr_fr [0] [] I I7 → gr_fj [0] [] J J8 → (((-2147483648) ≤ a1 ∧ a1 ≤ 2147483647) ∧ (0 ≤ a2 ∧ a2 ≤ 14) ∧ (a2 ≤ 7 ∨ (0 ≤ a1 ∧ a1 ≤ 7))) → gv_X (gr_E ws0 tb 1 (yX13_count, cX13_count, 3, (some .int)) kX13_count) (gv_Q cX13_count (some .int) (gr_sh ++ ext) (fun r h' => (∃ (I' : gr_I) (J' : gr_J), h' = gr_h I' J' ∧ gr_Inv I' ∧ gr_fr [0] [] I I' ∧ gr_fj [0] [] J J' ∧ (∃ z : Int, r = some (.inl z) ∧ 0 ≤ z ∧ z ≤ 9000)))) (38, [(0, .inr (.inr (some 0))), (1, .inl a1), (2, .inl a2)], [], gr_sh ++ ext, gr_h I7 J8) := by
    intro I7 J8 hI7 FI7 FJ8 m_9
    obtain ⟨ha1_9, ha2_9, e0_9⟩ := m_9
    refine gv_run 1 true hD (pc' := 39) (lv' := [(0, .inr (.inr (some 0))), (1, .inl a1), (2, .inl a2)]) (st' := [.inl a2]) (h' := gr_h I7 J8) (C := (True ∧ True)) rfl ⟨trivial, trivial⟩ ?_
    by_cases c10 : a2 = 0
    · refine gv_tabAt hD 0 rfl ⟨by exact gz_m 1 (by omega), by exact gz_m 2 (by omega)⟩ c10 ⟨by decide, by decide⟩ rfl (t := 108) rfl ?_
      have f11 := (gr_b_0_1 hI7)
      refine gv_run 2 true hD (pc' := 112) (lv' := [(0, .inr (.inr (some 0))), (1, .inl a1), (2, .inl a2)]) (st' := [.inl (I7 0 1)]) (h' := gr_h I7 J8) (C := ((True ∧ True) ∧ True)) rfl ⟨⟨trivial, trivial⟩, trivial⟩ ?_
      exact gv_iret hD rfl ⟨I7, J8, rfl, hI7, FI7, FJ8, ⟨_, rfl, by exact gz_m 3 (by omega)⟩⟩
    by_cases c12 : a2 = 1
    · refine gv_tabAt hD 1 rfl ⟨by exact gz_m 4 (by omega), by exact gz_m 5 (by omega)⟩ c12 ⟨by decide, by decide⟩ rfl (t := 113) rfl ?_
      have f13 := (gr_b_0_2 hI7)
      refine gv_run 2 true hD (pc' := 117) (lv' := [(0, .inr (.inr (some 0))), (1, .inl a1), (2, .inl a2)]) (st' := [.inl (I7 0 2)]) (h' := gr_h I7 J8) (C := ((True ∧ True) ∧ True)) rfl ⟨⟨trivial, trivial⟩, trivial⟩ ?_
      exact gv_iret hD rfl ⟨I7, J8, rfl, hI7, FI7, FJ8, ⟨_, rfl, by exact gz_m 6 (by omega)⟩⟩
    by_cases c14 : a2 = 2
    · refine gv_tabAt hD 2 rfl ⟨by exact gz_m 7 (by omega), by exact gz_m 8 (by omega)⟩ c14 ⟨by decide, by decide⟩ rfl (t := 118) rfl ?_
      have f15 := (gr_b_0_3 hI7)
      refine gv_run 2 true hD (pc' := 122) (lv' := [(0, .inr (.inr (some 0))), (1, .inl a1), (2, .inl a2)]) (st' := [.inl (I7 0 3)]) (h' := gr_h I7 J8) (C := ((True ∧ True) ∧ True)) rfl ⟨⟨trivial, trivial⟩, trivial⟩ ?_
      exact gv_iret hD rfl ⟨I7, J8, rfl, hI7, FI7, FJ8, ⟨_, rfl, by exact gz_m 9 (by omega)⟩⟩
    by_cases c16 : a2 = 3
    · refine gv_tabAt hD 3 rfl ⟨by exact gz_m 10 (by omega), by exact gz_m 11 (by omega)⟩ c16 ⟨by decide, by decide⟩ rfl (t := 123) rfl ?_
      have f17 := (gr_b_0_4 hI7)
      refine gv_run 2 true hD (pc' := 127) (lv' := [(0, .inr (.inr (some 0))), (1, .inl a1), (2, .inl a2)]) (st' := [.inl (I7 0 4)]) (h' := gr_h I7 J8) (C := ((True ∧ True) ∧ True)) rfl ⟨⟨trivial, trivial⟩, trivial⟩ ?_
      exact gv_iret hD rfl ⟨I7, J8, rfl, hI7, FI7, FJ8, ⟨_, rfl, by exact gz_m 12 (by omega)⟩⟩
    by_cases c18 : a2 = 4
    · refine gv_tabAt hD 4 rfl ⟨by exact gz_m 13 (by omega), by exact gz_m 14 (by omega)⟩ c18 ⟨by decide, by decide⟩ rfl (t := 128) rfl ?_
      have f19 := (gr_b_0_5 hI7)
      refine gv_run 2 true hD (pc' := 132) (lv' := [(0, .inr (.inr (some 0))), (1, .inl a1), (2, .inl a2)]) (st' := [.inl (I7 0 5)]) (h' := gr_h I7 J8) (C := ((True ∧ True) ∧ True)) rfl ⟨⟨trivial, trivial⟩, trivial⟩ ?_
      exact gv_iret hD rfl ⟨I7, J8, rfl, hI7, FI7, FJ8, ⟨_, rfl, by exact gz_m 15 (by omega)⟩⟩
    by_cases c20 : a2 = 5
    · refine gv_tabAt hD 5 rfl ⟨by exact gz_m 16 (by omega), by exact gz_m 17 (by omega)⟩ c20 ⟨by decide, by decide⟩ rfl (t := 133) rfl ?_
      have f21 := (gr_b_0_179 hI7)
      refine gv_run 2 true hD (pc' := 137) (lv' := [(0, .inr (.inr (some 0))), (1, .inl a1), (2, .inl a2)]) (st' := [.inl (I7 0 179)]) (h' := gr_h I7 J8) (C := ((True ∧ True) ∧ True)) rfl ⟨⟨trivial, trivial⟩, trivial⟩ ?_
      exact gv_iret hD rfl ⟨I7, J8, rfl, hI7, FI7, FJ8, ⟨_, rfl, by exact gz_m 18 (by omega)⟩⟩
    by_cases c22 : a2 = 6
    · refine gv_tabAt hD 6 rfl ⟨by exact gz_m 19 (by omega), by exact gz_m 20 (by omega)⟩ c22 ⟨by decide, by decide⟩ rfl (t := 138) rfl ?_
      have f23 := (gr_b_0_180 hI7)
      refine gv_run 2 true hD (pc' := 142) (lv' := [(0, .inr (.inr (some 0))), (1, .inl a1), (2, .inl a2)]) (st' := [.inl (I7 0 180)]) (h' := gr_h I7 J8) (C := ((True ∧ True) ∧ True)) rfl ⟨⟨trivial, trivial⟩, trivial⟩ ?_
      exact gv_iret hD rfl ⟨I7, J8, rfl, hI7, FI7, FJ8, ⟨_, rfl, by exact gz_m 21 (by omega)⟩⟩
    by_cases c24 : a2 = 7
    · refine gv_tabAt hD 7 rfl ⟨by exact gz_m 22 (by omega), by exact gz_m 23 (by omega)⟩ c24 ⟨by decide, by decide⟩ rfl (t := 143) rfl ?_
      have f25 := (gr_b_0_206 hI7)
      refine gv_run 2 true hD (pc' := 147) (lv' := [(0, .inr (.inr (some 0))), (1, .inl a1), (2, .inl a2)]) (st' := [.inl (I7 0 206)]) (h' := gr_h I7 J8) (C := ((True ∧ True) ∧ True)) rfl ⟨⟨trivial, trivial⟩, trivial⟩ ?_
      exact gv_iret hD rfl ⟨I7, J8, rfl, hI7, FI7, FJ8, ⟨_, rfl, by exact gz_m 24 (by omega)⟩⟩
    by_cases c26 : a2 = 8
    · refine gv_tabAt hD 8 rfl ⟨by exact gz_m 25 (by omega), by exact gz_m 26 (by omega)⟩ c26 ⟨by decide, by decide⟩ rfl (t := 148) rfl ?_
      have f27 := (gr_b_13 hI7 (Int.toNat a1))
      refine gv_run 4 true hD (pc' := 154) (lv' := [(0, .inr (.inr (some 0))), (1, .inl a1), (2, .inl a2)]) (st' := [.inl (I7 13 (Int.toNat a1))]) (h' := gr_h I7 J8) (C := ((((True ∧ True) ∧ True) ∧ True) ∧ (0 ≤ a1 ∧ a1 < ((8 : Nat) : Int)))) rfl ⟨⟨⟨⟨trivial, trivial⟩, trivial⟩, trivial⟩, ⟨by exact gz_m 27 (by omega), by exact gz_m 28 (by omega)⟩⟩ ?_
      exact gv_iret hD rfl ⟨I7, J8, rfl, hI7, FI7, FJ8, ⟨_, rfl, by exact gz_m 29 (by omega)⟩⟩
    by_cases c28 : a2 = 9
    · refine gv_tabAt hD 9 rfl ⟨by exact gz_m 30 (by omega), by exact gz_m 31 (by omega)⟩ c28 ⟨by decide, by decide⟩ rfl (t := 155) rfl ?_
      have f29 := (gr_b_14 hI7 (Int.toNat a1))
      refine gv_run 4 true hD (pc' := 161) (lv' := [(0, .inr (.inr (some 0))), (1, .inl a1), (2, .inl a2)]) (st' := [.inl (I7 14 (Int.toNat a1))]) (h' := gr_h I7 J8) (C := ((((True ∧ True) ∧ True) ∧ True) ∧ (0 ≤ a1 ∧ a1 < ((8 : Nat) : Int)))) rfl ⟨⟨⟨⟨trivial, trivial⟩, trivial⟩, trivial⟩, ⟨by exact gz_m 32 (by omega), by exact gz_m 33 (by omega)⟩⟩ ?_
      exact gv_iret hD rfl ⟨I7, J8, rfl, hI7, FI7, FJ8, ⟨_, rfl, by exact gz_m 34 (by omega)⟩⟩
    by_cases c30 : a2 = 10
    · refine gv_tabAt hD 10 rfl ⟨by exact gz_m 35 (by omega), by exact gz_m 36 (by omega)⟩ c30 ⟨by decide, by decide⟩ rfl (t := 162) rfl ?_
      have f31 := (gr_b_15 hI7 (Int.toNat a1))
      refine gv_run 4 true hD (pc' := 168) (lv' := [(0, .inr (.inr (some 0))), (1, .inl a1), (2, .inl a2)]) (st' := [.inl (I7 15 (Int.toNat a1))]) (h' := gr_h I7 J8) (C := ((((True ∧ True) ∧ True) ∧ True) ∧ (0 ≤ a1 ∧ a1 < ((8 : Nat) : Int)))) rfl ⟨⟨⟨⟨trivial, trivial⟩, trivial⟩, trivial⟩, ⟨by exact gz_m 37 (by omega), by exact gz_m 38 (by omega)⟩⟩ ?_
      exact gv_iret hD rfl ⟨I7, J8, rfl, hI7, FI7, FJ8, ⟨_, rfl, by exact gz_m 39 (by omega)⟩⟩
    by_cases c32 : a2 = 11
    · refine gv_tabAt hD 11 rfl ⟨by exact gz_m 40 (by omega), by exact gz_m 41 (by omega)⟩ c32 ⟨by decide, by decide⟩ rfl (t := 169) rfl ?_
      have f33 := (gr_b_16 hI7 (Int.toNat a1))
      refine gv_run 4 true hD (pc' := 175) (lv' := [(0, .inr (.inr (some 0))), (1, .inl a1), (2, .inl a2)]) (st' := [.inl (I7 16 (Int.toNat a1))]) (h' := gr_h I7 J8) (C := ((((True ∧ True) ∧ True) ∧ True) ∧ (0 ≤ a1 ∧ a1 < ((8 : Nat) : Int)))) rfl ⟨⟨⟨⟨trivial, trivial⟩, trivial⟩, trivial⟩, ⟨by exact gz_m 42 (by omega), by exact gz_m 43 (by omega)⟩⟩ ?_
      exact gv_iret hD rfl ⟨I7, J8, rfl, hI7, FI7, FJ8, ⟨_, rfl, by exact gz_m 44 (by omega)⟩⟩
    by_cases c34 : a2 = 12
    · refine gv_tabAt hD 12 rfl ⟨by exact gz_m 45 (by omega), by exact gz_m 46 (by omega)⟩ c34 ⟨by decide, by decide⟩ rfl (t := 176) rfl ?_
      have f35 := (gr_b_17 hI7 (Int.toNat a1))
      refine gv_run 4 true hD (pc' := 182) (lv' := [(0, .inr (.inr (some 0))), (1, .inl a1), (2, .inl a2)]) (st' := [.inl (I7 17 (Int.toNat a1))]) (h' := gr_h I7 J8) (C := ((((True ∧ True) ∧ True) ∧ True) ∧ (0 ≤ a1 ∧ a1 < ((8 : Nat) : Int)))) rfl ⟨⟨⟨⟨trivial, trivial⟩, trivial⟩, trivial⟩, ⟨by exact gz_m 47 (by omega), by exact gz_m 48 (by omega)⟩⟩ ?_
      exact gv_iret hD rfl ⟨I7, J8, rfl, hI7, FI7, FJ8, ⟨_, rfl, by exact gz_m 49 (by omega)⟩⟩
    by_cases c36 : a2 = 13
    · refine gv_tabAt hD 13 rfl ⟨by exact gz_m 50 (by omega), by exact gz_m 51 (by omega)⟩ c36 ⟨by decide, by decide⟩ rfl (t := 183) rfl ?_
      have f37 := (gr_b_18 hI7 (Int.toNat a1))
      refine gv_run 4 true hD (pc' := 189) (lv' := [(0, .inr (.inr (some 0))), (1, .inl a1), (2, .inl a2)]) (st' := [.inl (I7 18 (Int.toNat a1))]) (h' := gr_h I7 J8) (C := ((((True ∧ True) ∧ True) ∧ True) ∧ (0 ≤ a1 ∧ a1 < ((8 : Nat) : Int)))) rfl ⟨⟨⟨⟨trivial, trivial⟩, trivial⟩, trivial⟩, ⟨by exact gz_m 52 (by omega), by exact gz_m 53 (by omega)⟩⟩ ?_
      exact gv_iret hD rfl ⟨I7, J8, rfl, hI7, FI7, FJ8, ⟨_, rfl, by exact gz_m 54 (by omega)⟩⟩
    refine gv_tabOut hD rfl ⟨by exact gz_m 55 (by omega), by exact gz_m 56 (by omega)⟩ (by exact gz_m 57 (by omega)) (t := 190) rfl ?_
    have f38 := (gr_b_19 hI7 (Int.toNat a1))
    refine gv_run 4 true hD (pc' := 196) (lv' := [(0, .inr (.inr (some 0))), (1, .inl a1), (2, .inl a2)]) (st' := [.inl (I7 19 (Int.toNat a1))]) (h' := gr_h I7 J8) (C := ((((True ∧ True) ∧ True) ∧ True) ∧ (0 ≤ a1 ∧ a1 < ((8 : Nat) : Int)))) rfl ⟨⟨⟨⟨trivial, trivial⟩, trivial⟩, trivial⟩, ⟨by exact gz_m 58 (by omega), by exact gz_m 59 (by omega)⟩⟩ ?_
    exact gv_iret hD rfl ⟨I7, J8, rfl, hI7, FI7, FJ8, ⟨_, rfl, by exact gz_m 60 (by omega)⟩⟩
  refine gv_run 3 true hD (pc' := 5) (lv' := [(0, .inr (.inr (some 0))), (1, .inl a1), (2, .inl a2)]) (st' := []) (h' := gz_up (gr_h I J) 0 0 (.inl 0)) (C := (((True ∧ True) ∧ True) ∧ True)) rfl ⟨⟨⟨trivial, trivial⟩, trivial⟩, trivial⟩ ?_
  refine gr_st hI FI rfl rfl ⟨⟨by show 0 ≤ _; exact gz_m 61 (by omega), by show _ ≤ 2; exact gz_m 62 (by omega)⟩, trivial⟩ (fun I39 hI39 FI39 q40 p40 => ?_)
  refine gv_run 1 true hD (pc' := 6) (lv' := [(0, .inr (.inr (some 0))), (1, .inl a1), (2, .inl a2)]) (st' := [.inl a2]) (h' := gr_h I39 J) (C := (True ∧ True)) rfl ⟨trivial, trivial⟩ ?_
  refine gv_if_lt (t := 33) hD rfl rfl ⟨by exact gz_m 63 (by omega), by exact gz_m 64 (by omega)⟩ (fun c41 => ?_) (fun c41 => ?_)
  · refine gv_pick [0] rfl ?_
    exact L33 I39 J hI39 FI39 FJ
  · refine gv_run 2 true hD (pc' := 12) (lv' := [(0, .inr (.inr (some 0))), (1, .inl a1), (2, .inl a2)]) (st' := [.inl 14, .inl a2]) (h' := gr_h I39 J) (C := ((True ∧ True) ∧ True)) rfl ⟨⟨trivial, trivial⟩, trivial⟩ ?_
    refine gv_icmp_gt (t := 33) hD rfl rfl ⟨⟨by exact gz_m 65 (by omega), by exact gz_m 66 (by omega)⟩, ⟨by exact gz_m 67 (by omega), by exact gz_m 68 (by omega)⟩⟩ (fun c42 => ?_) (fun c42 => ?_)
    · refine gv_pick [0] rfl ?_
      exact L33 I39 J hI39 FI39 FJ
    · refine gv_run 2 true hD (pc' := 18) (lv' := [(0, .inr (.inr (some 0))), (1, .inl a1), (2, .inl a2)]) (st' := [.inl 7, .inl a2]) (h' := gr_h I39 J) (C := ((True ∧ True) ∧ True)) rfl ⟨⟨trivial, trivial⟩, trivial⟩ ?_
      refine gv_icmp_le (t := 38) hD rfl rfl ⟨⟨by exact gz_m 69 (by omega), by exact gz_m 70 (by omega)⟩, ⟨by exact gz_m 71 (by omega), by exact gz_m 72 (by omega)⟩⟩ (fun c43 => ?_) (fun c43 => ?_)
      · exact L38 I39 J hI39 FI39 FJ (by exact gz_m 73 (by omega))
      · refine gv_run 1 true hD (pc' := 22) (lv' := [(0, .inr (.inr (some 0))), (1, .inl a1), (2, .inl a2)]) (st' := [.inl a1]) (h' := gr_h I39 J) (C := (True ∧ True)) rfl ⟨trivial, trivial⟩ ?_
        refine gv_if_lt (t := 33) hD rfl rfl ⟨by exact gz_m 74 (by omega), by exact gz_m 75 (by omega)⟩ (fun c44 => ?_) (fun c44 => ?_)
        · refine gv_pick [0] rfl ?_
          exact L33 I39 J hI39 FI39 FJ
        · have f45 := (gr_b_0_1 hI39)
          refine gv_run 3 true hD (pc' := 30) (lv' := [(0, .inr (.inr (some 0))), (1, .inl a1), (2, .inl a2)]) (st' := [.inl (I39 0 1), .inl a1]) (h' := gr_h I39 J) (C := (((True ∧ True) ∧ True) ∧ True)) rfl ⟨⟨⟨trivial, trivial⟩, trivial⟩, trivial⟩ ?_
          refine gv_icmp_lt (t := 38) hD rfl rfl ⟨⟨by exact gz_m 76 (by omega), by exact gz_m 77 (by omega)⟩, ⟨by exact gz_m 78 (by omega), by exact gz_m 79 (by omega)⟩⟩ (fun c46 => ?_) (fun c46 => ?_)
          · exact L38 I39 J hI39 FI39 FJ (by exact gz_m 80 (by omega))
          · refine gv_pick [0] rfl ?_
            exact L33 I39 J hI39 FI39 FJ
set_option maxHeartbeats 8000000 in
set_option maxRecDepth 100000 in
theorem r_candidate {ws0 : List Cond} {tb : String → gz_T} (hws : ∀ w ∈ gr_ws, w ∈ ws0) (htb : tb RX13 = gr_T) (ext : gz_Sh) (I : gr_I) (J : gr_J) (hI : gr_Inv I) (a1 : Int) (ha1 : (-2147483648) ≤ a1 ∧ a1 ≤ 2147483647)  : ∃ r h', gz_Ev ws0 tb 2 (yX13_candidate, cX13_candidate, 3, (some .int)) [.inr (.inr (some 0)), .inl a1] (gr_sh ++ ext) (gr_h I J) r (gr_sh ++ ext) h' 0 0 ∧ (∃ (I' : gr_I) (J' : gr_J), h' = gr_h I' J' ∧ gr_Inv I' ∧ gr_fr [0, 70] [58] I I' ∧ gr_fj [0, 70] [58] J J' ∧ (∃ z : Int, r = some (.inl z) ∧ (-1) ≤ z ∧ z ≤ 1000)) := by
  have FI : gr_fr [0, 70] [58] I I := fun _ _ _ => rfl
  have FJ : gr_fj [0, 70] [58] J J := fun _ _ _ => rfl
  have hD : gv_D (gr_E ws0 tb 1 (yX13_candidate, cX13_candidate, 3, (some .int)) kX13_candidate) := gq_of oX13_candidate
  refine gr_ev (d := 1) (l := kX13_candidate) (Po := fun r h' => (∃ (I' : gr_I) (J' : gr_J), h' = gr_h I' J' ∧ gr_Inv I' ∧ gr_fr [0, 70] [58] I I' ∧ gr_fj [0, 70] [58] J J' ∧ (∃ z : Int, r = some (.inl z) ∧ (-1) ≤ z ∧ z ≤ 1000))) htb rfl (Nat.le_of_ble_eq_true rfl) ?_
  have L22 : ∀ (I1 : gr_I) (J2 : gr_J) , gr_Inv I1 → gr_fr [0, 70] [58] I I1 → gr_fj [0, 70] [58] J J2 → gv_X (gr_E ws0 tb 1 (yX13_candidate, cX13_candidate, 3, (some .int)) kX13_candidate) (gv_Q cX13_candidate (some .int) (gr_sh ++ ext) (fun r h' => (∃ (I' : gr_I) (J' : gr_J), h' = gr_h I' J' ∧ gr_Inv I' ∧ gr_fr [0, 70] [58] I I' ∧ gr_fj [0, 70] [58] J J' ∧ (∃ z : Int, r = some (.inl z) ∧ (-1) ≤ z ∧ z ≤ 1000)))) (22, [], [], gr_sh ++ ext, gr_h I1 J2) := by
    intro I1 J2 hI1 FI1 FJ2
    refine gv_run 1 true hD (pc' := 23) (lv' := []) (st' := [.inl (-1)]) (h' := gr_h I1 J2) (C := (True ∧ True)) rfl ⟨trivial, trivial⟩ ?_
    exact gv_iret hD rfl ⟨I1, J2, rfl, hI1, FI1, FJ2, ⟨_, rfl, by exact gz_m 0 (by omega)⟩⟩
  have L26 : ∀ (n : Nat) (I4 : gr_I) (J5 : gr_J) (v2_6 : Int), (201 - v2_6).toNat < n → gr_Inv I4 → gr_fr [0, 70] [58] I I4 → gr_fj [0, 70] [58] J J5 → ((0 ≤ a1 ∧ a1 ≤ 15) ∧ (0 ≤ v2_6 ∧ v2_6 ≤ 200)) → gv_X (gr_E ws0 tb 1 (yX13_candidate, cX13_candidate, 3, (some .int)) kX13_candidate) (gv_Q cX13_candidate (some .int) (gr_sh ++ ext) (fun r h' => (∃ (I' : gr_I) (J' : gr_J), h' = gr_h I' J' ∧ gr_Inv I' ∧ gr_fr [0, 70] [58] I I' ∧ gr_fj [0, 70] [58] J J' ∧ (∃ z : Int, r = some (.inl z) ∧ (-1) ≤ z ∧ z ≤ 1000)))) (26, [(0, .inr (.inr (some 0))), (1, .inl a1), (2, .inl v2_6)], [], gr_sh ++ ext, gr_h I4 J5) := by
    intro n
    induction n with
    | zero => intro I4 J5 v2_6 hn; exact gz_m 1 (by omega)
    | succ n ih26 =>
      intro I4 J5 v2_6 hn hI4 FI4 FJ5 m_6
      obtain ⟨ha1_6, hv2_6⟩ := m_6
      have f7 := (gr_b_125 hI4 (Int.toNat a1))
      refine gv_run 5 true hD (pc' := 33) (lv' := [(0, .inr (.inr (some 0))), (1, .inl a1), (2, .inl v2_6)]) (st' := [.inl (I4 125 (Int.toNat a1)), .inl v2_6]) (h' := gr_h I4 J5) (C := (((((True ∧ True) ∧ True) ∧ True) ∧ True) ∧ (0 ≤ a1 ∧ a1 < ((16 : Nat) : Int)))) rfl ⟨⟨⟨⟨⟨trivial, trivial⟩, trivial⟩, trivial⟩, trivial⟩, ⟨by exact gz_m 2 (by omega), by exact gz_m 3 (by omega)⟩⟩ ?_
      refine gv_icmp_ge (t := 58) hD rfl rfl ⟨⟨by exact gz_m 4 (by omega), by exact gz_m 5 (by omega)⟩, ⟨by exact gz_m 6 (by omega), by exact gz_m 7 (by omega)⟩⟩ (fun c8 => ?_) (fun c8 => ?_)
      · have f9 := (gr_b_0_70 hI4)
        refine gv_run 2 true hD (pc' := 62) (lv' := [(0, .inr (.inr (some 0))), (1, .inl a1), (2, .inl v2_6)]) (st' := [.inl (I4 0 70)]) (h' := gr_h I4 J5) (C := ((True ∧ True) ∧ True)) rfl ⟨⟨trivial, trivial⟩, trivial⟩ ?_
        exact gv_iret hD rfl ⟨I4, J5, rfl, hI4, FI4, FJ5, ⟨_, rfl, by exact gz_m 8 (by omega)⟩⟩
      · refine gv_run 7 true hD (pc' := 47) (lv' := [(0, .inr (.inr (some 0))), (1, .inl a1), (2, .inl v2_6)]) (st' := [.inl v2_6, .inl (200 * a1), .inr (.inr (some 124)), .inr (.inr (some 0))]) (h' := gr_h I4 J5) (C := (((((((True ∧ True) ∧ True) ∧ True) ∧ True) ∧ True) ∧ True) ∧ True)) rfl ⟨⟨⟨⟨⟨⟨⟨trivial, trivial⟩, trivial⟩, trivial⟩, trivial⟩, trivial⟩, trivial⟩, trivial⟩ ?_
        have f10 := (gr_b_124 hI4 (Int.toNat (((200 * a1) + v2_6))))
        refine gv_run 2 true hD (pc' := 49) (lv' := [(0, .inr (.inr (some 0))), (1, .inl a1), (2, .inl v2_6)]) (st' := [.inl (I4 124 (Int.toNat (((200 * a1) + v2_6)))), .inr (.inr (some 0))]) (h' := gr_h I4 J5) (C := ((True ∧ True) ∧ (0 ≤ (((200 * a1) + v2_6)) ∧ (((200 * a1) + v2_6)) < ((3200 : Nat) : Int)))) rfl ⟨⟨trivial, trivial⟩, ⟨by exact gz_m 9 (by omega), by exact gz_m 10 (by omega)⟩⟩ ?_
        obtain ⟨r11, h11, E11, P11⟩ := r_outs (ws0 := ws0) (tb := tb) hws htb ext I4 J5 hI4 ((I4 124 (Int.toNat (((200 * a1) + v2_6))))) ⟨by exact gz_m 11 (by omega), by exact gz_m 12 (by omega)⟩ 
        obtain ⟨I12, J13, rfl, hI12, g11, k11, rfl⟩ := P11
        have FI12 := gr_frt FI4 g11 rfl rfl
        have FJ13 := gr_fjt FJ5 k11 rfl rfl
        refine gv_callV hD rfl (As := [.inl (I4 124 (Int.toNat (((200 * a1) + v2_6))))]) (st := []) rfl (by decide) rfl rfl (gr_lV hws rfl) (Nat.le_of_ble_eq_true rfl) (gz_Ev_mono (d := 1) (by decide) E11) ?_
        show gv_X _ _ (52, [(0, .inr (.inr (some 0))), (1, .inl a1), (2, .inl v2_6)], [], gr_sh ++ ext, gr_h I12 J13)
        refine gv_run 2 true hD (pc' := 26) (lv' := [(2, .inl (v2_6 + 1)), (0, .inr (.inr (some 0))), (1, .inl a1)]) (st' := []) (h' := gr_h I12 J13) (C := ((True ∧ True) ∧ True)) rfl ⟨⟨trivial, trivial⟩, trivial⟩ ?_
        refine gv_pick [1, 2, 0] rfl ?_
        exact ih26 I12 J13 (v2_6 + 1) (by exact gz_m 13 (by omega)) hI12 FI12 FJ13 (by exact gz_m 14 (by omega))
  refine gv_run 3 true hD (pc' := 5) (lv' := [(0, .inr (.inr (some 0))), (1, .inl a1)]) (st' := []) (h' := gz_up (gr_h I J) 0 0 (.inl 0)) (C := (((True ∧ True) ∧ True) ∧ True)) rfl ⟨⟨⟨trivial, trivial⟩, trivial⟩, trivial⟩ ?_
  refine gr_st hI FI rfl rfl ⟨⟨by show 0 ≤ _; exact gz_m 15 (by omega), by show _ ≤ 2; exact gz_m 16 (by omega)⟩, trivial⟩ (fun I14 hI14 FI14 q15 p15 => ?_)
  refine gv_run 3 true hD (pc' := 10) (lv' := [(0, .inr (.inr (some 0))), (1, .inl a1)]) (st' := []) (h' := gz_up (gr_h I14 J) 0 70 (.inl 0)) (C := (((True ∧ True) ∧ True) ∧ True)) rfl ⟨⟨⟨trivial, trivial⟩, trivial⟩, trivial⟩ ?_
  refine gr_st hI14 FI14 rfl rfl ⟨⟨by show 0 ≤ _; exact gz_m 17 (by omega), by show _ ≤ 1000; exact gz_m 18 (by omega)⟩, trivial⟩ (fun I16 hI16 FI16 q17 p17 => ?_)
  refine gv_run 1 true hD (pc' := 11) (lv' := [(0, .inr (.inr (some 0))), (1, .inl a1)]) (st' := [.inl a1]) (h' := gr_h I16 J) (C := (True ∧ True)) rfl ⟨trivial, trivial⟩ ?_
  refine gv_if_lt (t := 22) hD rfl rfl ⟨by exact gz_m 19 (by omega), by exact gz_m 20 (by omega)⟩ (fun c18 => ?_) (fun c18 => ?_)
  · refine gv_pick [] rfl ?_
    exact L22 I16 J hI16 FI16 FJ
  · have f19 := (gr_b_0_201 hI16)
    refine gv_run 3 true hD (pc' := 19) (lv' := [(0, .inr (.inr (some 0))), (1, .inl a1)]) (st' := [.inl (I16 0 201), .inl a1]) (h' := gr_h I16 J) (C := (((True ∧ True) ∧ True) ∧ True)) rfl ⟨⟨⟨trivial, trivial⟩, trivial⟩, trivial⟩ ?_
    refine gv_icmp_lt (t := 24) hD rfl rfl ⟨⟨by exact gz_m 21 (by omega), by exact gz_m 22 (by omega)⟩, ⟨by exact gz_m 23 (by omega), by exact gz_m 24 (by omega)⟩⟩ (fun c20 => ?_) (fun c20 => ?_)
    · refine gv_run 2 true hD (pc' := 26) (lv' := [(2, .inl 0), (0, .inr (.inr (some 0))), (1, .inl a1)]) (st' := []) (h' := gr_h I16 J) (C := ((True ∧ True) ∧ True)) rfl ⟨⟨trivial, trivial⟩, trivial⟩ ?_
      refine gv_pick [1, 2, 0] rfl ?_
      exact L26 _ I16 J 0 (Nat.lt_succ_self _) hI16 FI16 FJ (by exact gz_m 25 (by omega))
    · refine gv_pick [] rfl ?_
      exact L22 I16 J hI16 FI16 FJ
set_option maxHeartbeats 8000000 in
set_option maxRecDepth 100000 in
theorem r_wayOrder {ws0 : List Cond} {tb : String → gz_T} (hws : ∀ w ∈ gr_ws, w ∈ ws0) (htb : tb RX13 = gr_T) (ext : gz_Sh) (I : gr_I) (J : gr_J) (hI : gr_Inv I) (a1 : Int) (a2 : Int) (ha1 : 0 ≤ a1 ∧ a1 ≤ 8999) (ha2 : 0 ≤ a2 ∧ a2 ≤ 8999)  : ∃ r h', gz_Ev ws0 tb 2 (yX13_wayOrder, cX13_wayOrder, 6, (some .int)) [.inr (.inr (some 0)), .inl a1, .inl a2] (gr_sh ++ ext) (gr_h I J) r (gr_sh ++ ext) h' 0 0 ∧ (h' = gr_h I J ∧ (∃ z : Int, r = some (.inl z) ∧ (-384) ≤ z ∧ z ≤ 384)) := by
  have hD : gv_D (gr_E ws0 tb 1 (yX13_wayOrder, cX13_wayOrder, 6, (some .int)) kX13_wayOrder) := gq_of oX13_wayOrder
  refine gr_ev (d := 1) (l := kX13_wayOrder) (Po := fun r h' => (h' = gr_h I J ∧ (∃ z : Int, r = some (.inl z) ∧ (-384) ≤ z ∧ z ≤ 384))) htb rfl (Nat.le_of_ble_eq_true rfl) ?_
  have L18 : ((0 ≤ a1 ∧ a1 ≤ 8999) ∧ (0 ≤ a2 ∧ a2 ≤ 8999)) → gv_X (gr_E ws0 tb 1 (yX13_wayOrder, cX13_wayOrder, 6, (some .int)) kX13_wayOrder) (gv_Q cX13_wayOrder (some .int) (gr_sh ++ ext) (fun r h' => (h' = gr_h I J ∧ (∃ z : Int, r = some (.inl z) ∧ (-384) ≤ z ∧ z ≤ 384)))) (18, [(0, .inr (.inr (some 0))), (1, .inl a1), (2, .inl a2)], [], gr_sh ++ ext, gr_h I J) := by
    intro m_1
    obtain ⟨ha1_1, ha2_1⟩ := m_1
    have L32 : ∀ (s0_2 : Int), ((0 ≤ a1 ∧ a1 ≤ 8999) ∧ (0 ≤ a2 ∧ a2 ≤ 8999) ∧ (0 ≤ s0_2 ∧ s0_2 ≤ 1)) → gv_X (gr_E ws0 tb 1 (yX13_wayOrder, cX13_wayOrder, 6, (some .int)) kX13_wayOrder) (gv_Q cX13_wayOrder (some .int) (gr_sh ++ ext) (fun r h' => (h' = gr_h I J ∧ (∃ z : Int, r = some (.inl z) ∧ (-384) ≤ z ∧ z ≤ 384)))) (32, [(0, .inr (.inr (some 0))), (1, .inl a1), (2, .inl a2)], [.inl s0_2], gr_sh ++ ext, gr_h I J) := by
      intro s0_2 m_2
      obtain ⟨ha1_2, ha2_2, hs0_2⟩ := m_2
      have L46 : ∀ (s0_3 : Int) (s1_3 : Int), ((0 ≤ a1 ∧ a1 ≤ 8999) ∧ (0 ≤ a2 ∧ a2 ≤ 8999) ∧ (0 ≤ s0_3 ∧ s0_3 ≤ 1) ∧ (0 ≤ s1_3 ∧ s1_3 ≤ 1)) → gv_X (gr_E ws0 tb 1 (yX13_wayOrder, cX13_wayOrder, 6, (some .int)) kX13_wayOrder) (gv_Q cX13_wayOrder (some .int) (gr_sh ++ ext) (fun r h' => (h' = gr_h I J ∧ (∃ z : Int, r = some (.inl z) ∧ (-384) ≤ z ∧ z ≤ 384)))) (46, [(0, .inr (.inr (some 0))), (1, .inl a1), (2, .inl a2)], [.inl s1_3, .inl s0_3], gr_sh ++ ext, gr_h I J) := by
        intro s0_3 s1_3 m_3
        obtain ⟨ha1_3, ha2_3, hs0_3, hs1_3⟩ := m_3
        have L63 : ∀ (s0_4 : Int), (((-1) ≤ s0_4 ∧ s0_4 ≤ 1)) → gv_X (gr_E ws0 tb 1 (yX13_wayOrder, cX13_wayOrder, 6, (some .int)) kX13_wayOrder) (gv_Q cX13_wayOrder (some .int) (gr_sh ++ ext) (fun r h' => (h' = gr_h I J ∧ (∃ z : Int, r = some (.inl z) ∧ (-384) ≤ z ∧ z ≤ 384)))) (63, [], [.inl s0_4], gr_sh ++ ext, gr_h I J) := by
          intro s0_4 m_4
          have hs0_4 := m_4
          exact gv_iret hD rfl ⟨rfl, ⟨_, rfl, by exact gz_m 0 (by omega)⟩⟩
        have L108 : ∀ (s0_5 : Int), (((-384) ≤ s0_5 ∧ s0_5 ≤ 384)) → gv_X (gr_E ws0 tb 1 (yX13_wayOrder, cX13_wayOrder, 6, (some .int)) kX13_wayOrder) (gv_Q cX13_wayOrder (some .int) (gr_sh ++ ext) (fun r h' => (h' = gr_h I J ∧ (∃ z : Int, r = some (.inl z) ∧ (-384) ≤ z ∧ z ≤ 384)))) (108, [], [.inl s0_5], gr_sh ++ ext, gr_h I J) := by
          intro s0_5 m_5
          have hs0_5 := m_5
          exact gv_iret hD rfl ⟨rfl, ⟨_, rfl, by exact gz_m 1 (by omega)⟩⟩
        refine gv_icmp_eq (t := 64) hD rfl rfl ⟨⟨by exact gz_m 2 (by omega), by exact gz_m 3 (by omega)⟩, ⟨by exact gz_m 4 (by omega), by exact gz_m 5 (by omega)⟩⟩ (fun c6 => ?_) (fun c6 => ?_)
        · have f7 := (gr_b_95 hI (Int.toNat a1))
          refine gv_run 4 true hD (pc' := 70) (lv' := [(0, .inr (.inr (some 0))), (1, .inl a1), (2, .inl a2)]) (st' := [.inl (I 95 (Int.toNat a1))]) (h' := gr_h I J) (C := ((((True ∧ True) ∧ True) ∧ True) ∧ (0 ≤ a1 ∧ a1 < ((9000 : Nat) : Int)))) rfl ⟨⟨⟨⟨trivial, trivial⟩, trivial⟩, trivial⟩, ⟨by exact gz_m 6 (by omega), by exact gz_m 7 (by omega)⟩⟩ ?_
          have f8 := (gr_b_95 hI (Int.toNat a2))
          refine gv_run 4 true hD (pc' := 76) (lv' := [(0, .inr (.inr (some 0))), (1, .inl a1), (2, .inl a2)]) (st' := [.inl (I 95 (Int.toNat a2)), .inl (I 95 (Int.toNat a1))]) (h' := gr_h I J) (C := ((((True ∧ True) ∧ True) ∧ True) ∧ (0 ≤ a2 ∧ a2 < ((9000 : Nat) : Int)))) rfl ⟨⟨⟨⟨trivial, trivial⟩, trivial⟩, trivial⟩, ⟨by exact gz_m 8 (by omega), by exact gz_m 9 (by omega)⟩⟩ ?_
          refine gv_icmp_eq (t := 95) hD rfl rfl ⟨⟨by exact gz_m 10 (by omega), by exact gz_m 11 (by omega)⟩, ⟨by exact gz_m 12 (by omega), by exact gz_m 13 (by omega)⟩⟩ (fun c9 => ?_) (fun c9 => ?_)
          · have f10 := (gr_b_96 hI (Int.toNat a1))
            refine gv_run 4 true hD (pc' := 101) (lv' := [(0, .inr (.inr (some 0))), (1, .inl a1), (2, .inl a2)]) (st' := [.inl (I 96 (Int.toNat a1))]) (h' := gr_h I J) (C := ((((True ∧ True) ∧ True) ∧ True) ∧ (0 ≤ a1 ∧ a1 < ((9000 : Nat) : Int)))) rfl ⟨⟨⟨⟨trivial, trivial⟩, trivial⟩, trivial⟩, ⟨by exact gz_m 14 (by omega), by exact gz_m 15 (by omega)⟩⟩ ?_
            have f11 := (gr_b_96 hI (Int.toNat a2))
            refine gv_run 4 true hD (pc' := 107) (lv' := [(0, .inr (.inr (some 0))), (1, .inl a1), (2, .inl a2)]) (st' := [.inl (I 96 (Int.toNat a2)), .inl (I 96 (Int.toNat a1))]) (h' := gr_h I J) (C := ((((True ∧ True) ∧ True) ∧ True) ∧ (0 ≤ a2 ∧ a2 < ((9000 : Nat) : Int)))) rfl ⟨⟨⟨⟨trivial, trivial⟩, trivial⟩, trivial⟩, ⟨by exact gz_m 16 (by omega), by exact gz_m 17 (by omega)⟩⟩ ?_
            refine gv_run 1 true hD (pc' := 108) (lv' := [(0, .inr (.inr (some 0))), (1, .inl a1), (2, .inl a2)]) (st' := [.inl ((I 96 (Int.toNat a1)) - (I 96 (Int.toNat a2)))]) (h' := gr_h I J) (C := (True ∧ True)) rfl ⟨trivial, trivial⟩ ?_
            refine gv_pick [] rfl ?_
            exact L108 (((I 96 (Int.toNat a1)) - (I 96 (Int.toNat a2)))) (by exact gz_m 18 (by omega))
          · have f12 := (gr_b_95 hI (Int.toNat a1))
            refine gv_run 4 true hD (pc' := 85) (lv' := [(0, .inr (.inr (some 0))), (1, .inl a1), (2, .inl a2)]) (st' := [.inl (I 95 (Int.toNat a1))]) (h' := gr_h I J) (C := ((((True ∧ True) ∧ True) ∧ True) ∧ (0 ≤ a1 ∧ a1 < ((9000 : Nat) : Int)))) rfl ⟨⟨⟨⟨trivial, trivial⟩, trivial⟩, trivial⟩, ⟨by exact gz_m 19 (by omega), by exact gz_m 20 (by omega)⟩⟩ ?_
            have f13 := (gr_b_95 hI (Int.toNat a2))
            refine gv_run 4 true hD (pc' := 91) (lv' := [(0, .inr (.inr (some 0))), (1, .inl a1), (2, .inl a2)]) (st' := [.inl (I 95 (Int.toNat a2)), .inl (I 95 (Int.toNat a1))]) (h' := gr_h I J) (C := ((((True ∧ True) ∧ True) ∧ True) ∧ (0 ≤ a2 ∧ a2 < ((9000 : Nat) : Int)))) rfl ⟨⟨⟨⟨trivial, trivial⟩, trivial⟩, trivial⟩, ⟨by exact gz_m 21 (by omega), by exact gz_m 22 (by omega)⟩⟩ ?_
            refine gv_run 2 true hD (pc' := 108) (lv' := [(0, .inr (.inr (some 0))), (1, .inl a1), (2, .inl a2)]) (st' := [.inl ((I 95 (Int.toNat a1)) - (I 95 (Int.toNat a2)))]) (h' := gr_h I J) (C := ((True ∧ True) ∧ True)) rfl ⟨⟨trivial, trivial⟩, trivial⟩ ?_
            refine gv_pick [] rfl ?_
            exact L108 (((I 95 (Int.toNat a1)) - (I 95 (Int.toNat a2)))) (by exact gz_m 23 (by omega))
        · have f14 := (gr_b_97 hI (Int.toNat a1))
          refine gv_run 4 true hD (pc' := 55) (lv' := [(0, .inr (.inr (some 0))), (1, .inl a1), (2, .inl a2)]) (st' := [.inl (I 97 (Int.toNat a1))]) (h' := gr_h I J) (C := ((((True ∧ True) ∧ True) ∧ True) ∧ (0 ≤ a1 ∧ a1 < ((9000 : Nat) : Int)))) rfl ⟨⟨⟨⟨trivial, trivial⟩, trivial⟩, trivial⟩, ⟨by exact gz_m 24 (by omega), by exact gz_m 25 (by omega)⟩⟩ ?_
          refine gv_if_ge (t := 62) hD rfl rfl ⟨by exact gz_m 26 (by omega), by exact gz_m 27 (by omega)⟩ (fun c15 => ?_) (fun c15 => ?_)
          · refine gv_run 1 true hD (pc' := 63) (lv' := [(0, .inr (.inr (some 0))), (1, .inl a1), (2, .inl a2)]) (st' := [.inl 1]) (h' := gr_h I J) (C := (True ∧ True)) rfl ⟨trivial, trivial⟩ ?_
            refine gv_pick [] rfl ?_
            exact L63 1 (by exact gz_m 28 (by omega))
          · refine gv_run 2 true hD (pc' := 63) (lv' := [(0, .inr (.inr (some 0))), (1, .inl a1), (2, .inl a2)]) (st' := [.inl (-1)]) (h' := gr_h I J) (C := ((True ∧ True) ∧ True)) rfl ⟨⟨trivial, trivial⟩, trivial⟩ ?_
            refine gv_pick [] rfl ?_
            exact L63 (-1) (by exact gz_m 29 (by omega))
      have f16 := (gr_b_97 hI (Int.toNat a2))
      refine gv_run 4 true hD (pc' := 38) (lv' := [(0, .inr (.inr (some 0))), (1, .inl a1), (2, .inl a2)]) (st' := [.inl (I 97 (Int.toNat a2)), .inl s0_2]) (h' := gr_h I J) (C := ((((True ∧ True) ∧ True) ∧ True) ∧ (0 ≤ a2 ∧ a2 < ((9000 : Nat) : Int)))) rfl ⟨⟨⟨⟨trivial, trivial⟩, trivial⟩, trivial⟩, ⟨by exact gz_m 30 (by omega), by exact gz_m 31 (by omega)⟩⟩ ?_
      refine gv_if_ge (t := 45) hD rfl rfl ⟨by exact gz_m 32 (by omega), by exact gz_m 33 (by omega)⟩ (fun c17 => ?_) (fun c17 => ?_)
      · refine gv_run 1 true hD (pc' := 46) (lv' := [(0, .inr (.inr (some 0))), (1, .inl a1), (2, .inl a2)]) (st' := [.inl 0, .inl s0_2]) (h' := gr_h I J) (C := (True ∧ True)) rfl ⟨trivial, trivial⟩ ?_
        exact L46 s0_2 0 (by exact gz_m 34 (by omega))
      · refine gv_run 2 true hD (pc' := 46) (lv' := [(0, .inr (.inr (some 0))), (1, .inl a1), (2, .inl a2)]) (st' := [.inl 1, .inl s0_2]) (h' := gr_h I J) (C := ((True ∧ True) ∧ True)) rfl ⟨⟨trivial, trivial⟩, trivial⟩ ?_
        exact L46 s0_2 1 (by exact gz_m 35 (by omega))
    have f18 := (gr_b_97 hI (Int.toNat a1))
    refine gv_run 4 true hD (pc' := 24) (lv' := [(0, .inr (.inr (some 0))), (1, .inl a1), (2, .inl a2)]) (st' := [.inl (I 97 (Int.toNat a1))]) (h' := gr_h I J) (C := ((((True ∧ True) ∧ True) ∧ True) ∧ (0 ≤ a1 ∧ a1 < ((9000 : Nat) : Int)))) rfl ⟨⟨⟨⟨trivial, trivial⟩, trivial⟩, trivial⟩, ⟨by exact gz_m 36 (by omega), by exact gz_m 37 (by omega)⟩⟩ ?_
    refine gv_if_ge (t := 31) hD rfl rfl ⟨by exact gz_m 38 (by omega), by exact gz_m 39 (by omega)⟩ (fun c19 => ?_) (fun c19 => ?_)
    · refine gv_run 1 true hD (pc' := 32) (lv' := [(0, .inr (.inr (some 0))), (1, .inl a1), (2, .inl a2)]) (st' := [.inl 0]) (h' := gr_h I J) (C := (True ∧ True)) rfl ⟨trivial, trivial⟩ ?_
      exact L32 0 (by exact gz_m 40 (by omega))
    · refine gv_run 2 true hD (pc' := 32) (lv' := [(0, .inr (.inr (some 0))), (1, .inl a1), (2, .inl a2)]) (st' := [.inl 1]) (h' := gr_h I J) (C := ((True ∧ True) ∧ True)) rfl ⟨⟨trivial, trivial⟩, trivial⟩ ?_
      exact L32 1 (by exact gz_m 41 (by omega))
  have L182 : ∀ (n : Nat) (v3_20 : Int) (v4_20 : Int), (5 - v4_20).toNat < n → ((0 ≤ a1 ∧ a1 ≤ 8999) ∧ (0 ≤ a2 ∧ a2 ≤ 8999) ∧ (0 ≤ v3_20 ∧ v3_20 ≤ 4) ∧ (0 ≤ v4_20 ∧ v4_20 ≤ 4)) → gv_X (gr_E ws0 tb 1 (yX13_wayOrder, cX13_wayOrder, 6, (some .int)) kX13_wayOrder) (gv_Q cX13_wayOrder (some .int) (gr_sh ++ ext) (fun r h' => (h' = gr_h I J ∧ (∃ z : Int, r = some (.inl z) ∧ (-384) ≤ z ∧ z ≤ 384)))) (182, [(0, .inr (.inr (some 0))), (1, .inl a1), (2, .inl a2), (3, .inl v3_20), (4, .inl v4_20)], [], gr_sh ++ ext, gr_h I J) := by
    intro n
    induction n with
    | zero => intro v3_20 v4_20 hn; exact gz_m 42 (by omega)
    | succ n ih182 =>
      intro v3_20 v4_20 hn m_20
      obtain ⟨ha1_20, ha2_20, hv3_20, hv4_20⟩ := m_20
      have L266 : ∀ (n : Nat) (v4_21 : Int), (5 - v4_21).toNat < n → ((0 ≤ a1 ∧ a1 ≤ 8999) ∧ (0 ≤ a2 ∧ a2 ≤ 8999) ∧ (0 ≤ v3_20 ∧ v3_20 ≤ 4) ∧ (0 ≤ v4_21 ∧ v4_21 ≤ 4)) → gv_X (gr_E ws0 tb 1 (yX13_wayOrder, cX13_wayOrder, 6, (some .int)) kX13_wayOrder) (gv_Q cX13_wayOrder (some .int) (gr_sh ++ ext) (fun r h' => (h' = gr_h I J ∧ (∃ z : Int, r = some (.inl z) ∧ (-384) ≤ z ∧ z ≤ 384)))) (266, [(0, .inr (.inr (some 0))), (1, .inl a1), (2, .inl a2), (3, .inl v3_20), (4, .inl v4_21)], [], gr_sh ++ ext, gr_h I J) := by
        intro n
        induction n with
        | zero => intro v4_21 hn; exact gz_m 43 (by omega)
        | succ n ih266 =>
          intro v4_21 hn m_21
          obtain ⟨ha1_21, ha2_21, hv3_20_21, hv4_21⟩ := m_21
          refine gv_run 2 true hD (pc' := 269) (lv' := [(0, .inr (.inr (some 0))), (1, .inl a1), (2, .inl a2), (3, .inl v3_20), (4, .inl v4_21)]) (st' := [.inl v3_20, .inl v4_21]) (h' := gr_h I J) (C := ((True ∧ True) ∧ True)) rfl ⟨⟨trivial, trivial⟩, trivial⟩ ?_
          refine gv_icmp_ge (t := 323) hD rfl rfl ⟨⟨by exact gz_m 44 (by omega), by exact gz_m 45 (by omega)⟩, ⟨by exact gz_m 46 (by omega), by exact gz_m 47 (by omega)⟩⟩ (fun c22 => ?_) (fun c22 => ?_)
          · refine gv_run 1 true hD (pc' := 324) (lv' := [(0, .inr (.inr (some 0))), (1, .inl a1), (2, .inl a2), (3, .inl v3_20), (4, .inl v4_21)]) (st' := [.inl 0]) (h' := gr_h I J) (C := (True ∧ True)) rfl ⟨trivial, trivial⟩ ?_
            exact gv_iret hD rfl ⟨rfl, ⟨_, rfl, by exact gz_m 48 (by omega)⟩⟩
          · refine gv_run 7 true hD (pc' := 283) (lv' := [(0, .inr (.inr (some 0))), (1, .inl a1), (2, .inl a2), (3, .inl v3_20), (4, .inl v4_21)]) (st' := [.inl (4 * a1), .inr (.inr (some 98)), .inr (.inr (some 89))]) (h' := gr_h I J) (C := (((((((True ∧ True) ∧ True) ∧ True) ∧ True) ∧ True) ∧ True) ∧ True)) rfl ⟨⟨⟨⟨⟨⟨⟨trivial, trivial⟩, trivial⟩, trivial⟩, trivial⟩, trivial⟩, trivial⟩, trivial⟩ ?_
            have f23 := (gr_b_98 hI (Int.toNat (((4 * a1) + v4_21))))
            refine gv_run 3 true hD (pc' := 287) (lv' := [(0, .inr (.inr (some 0))), (1, .inl a1), (2, .inl a2), (3, .inl v3_20), (4, .inl v4_21)]) (st' := [.inl (I 98 (Int.toNat (((4 * a1) + v4_21)))), .inr (.inr (some 89))]) (h' := gr_h I J) (C := (((True ∧ True) ∧ True) ∧ (0 ≤ (((4 * a1) + v4_21)) ∧ (((4 * a1) + v4_21)) < ((36000 : Nat) : Int)))) rfl ⟨⟨⟨trivial, trivial⟩, trivial⟩, ⟨by exact gz_m 49 (by omega), by exact gz_m 50 (by omega)⟩⟩ ?_
            have f24 := (gr_b_89 hI (Int.toNat ((I 98 (Int.toNat (((4 * a1) + v4_21)))))))
            refine gv_run 1 true hD (pc' := 288) (lv' := [(0, .inr (.inr (some 0))), (1, .inl a1), (2, .inl a2), (3, .inl v3_20), (4, .inl v4_21)]) (st' := [.inl (I 89 (Int.toNat ((I 98 (Int.toNat (((4 * a1) + v4_21)))))))]) (h' := gr_h I J) (C := (True ∧ (0 ≤ ((I 98 (Int.toNat (((4 * a1) + v4_21))))) ∧ ((I 98 (Int.toNat (((4 * a1) + v4_21))))) < ((3000 : Nat) : Int)))) rfl ⟨trivial, ⟨by exact gz_m 51 (by omega), by exact gz_m 52 (by omega)⟩⟩ ?_
            refine gv_run 7 true hD (pc' := 299) (lv' := [(0, .inr (.inr (some 0))), (1, .inl a1), (2, .inl a2), (3, .inl v3_20), (4, .inl v4_21)]) (st' := [.inl (4 * a2), .inr (.inr (some 98)), .inr (.inr (some 89)), .inl (I 89 (Int.toNat ((I 98 (Int.toNat (((4 * a1) + v4_21)))))))]) (h' := gr_h I J) (C := (((((((True ∧ True) ∧ True) ∧ True) ∧ True) ∧ True) ∧ True) ∧ True)) rfl ⟨⟨⟨⟨⟨⟨⟨trivial, trivial⟩, trivial⟩, trivial⟩, trivial⟩, trivial⟩, trivial⟩, trivial⟩ ?_
            have f25 := (gr_b_98 hI (Int.toNat (((4 * a2) + v4_21))))
            refine gv_run 3 true hD (pc' := 303) (lv' := [(0, .inr (.inr (some 0))), (1, .inl a1), (2, .inl a2), (3, .inl v3_20), (4, .inl v4_21)]) (st' := [.inl (I 98 (Int.toNat (((4 * a2) + v4_21)))), .inr (.inr (some 89)), .inl (I 89 (Int.toNat ((I 98 (Int.toNat (((4 * a1) + v4_21)))))))]) (h' := gr_h I J) (C := (((True ∧ True) ∧ True) ∧ (0 ≤ (((4 * a2) + v4_21)) ∧ (((4 * a2) + v4_21)) < ((36000 : Nat) : Int)))) rfl ⟨⟨⟨trivial, trivial⟩, trivial⟩, ⟨by exact gz_m 53 (by omega), by exact gz_m 54 (by omega)⟩⟩ ?_
            have f26 := (gr_b_89 hI (Int.toNat ((I 98 (Int.toNat (((4 * a2) + v4_21)))))))
            refine gv_run 1 true hD (pc' := 304) (lv' := [(0, .inr (.inr (some 0))), (1, .inl a1), (2, .inl a2), (3, .inl v3_20), (4, .inl v4_21)]) (st' := [.inl (I 89 (Int.toNat ((I 98 (Int.toNat (((4 * a2) + v4_21))))))), .inl (I 89 (Int.toNat ((I 98 (Int.toNat (((4 * a1) + v4_21)))))))]) (h' := gr_h I J) (C := (True ∧ (0 ≤ ((I 98 (Int.toNat (((4 * a2) + v4_21))))) ∧ ((I 98 (Int.toNat (((4 * a2) + v4_21))))) < ((3000 : Nat) : Int)))) rfl ⟨trivial, ⟨by exact gz_m 55 (by omega), by exact gz_m 56 (by omega)⟩⟩ ?_
            obtain ⟨r27, h27, E27, P27⟩ := r_compare (ws0 := ws0) (tb := tb) hws htb ext I J hI ((I 89 (Int.toNat ((I 98 (Int.toNat (((4 * a1) + v4_21)))))))) ((I 89 (Int.toNat ((I 98 (Int.toNat (((4 * a2) + v4_21)))))))) ⟨by exact gz_m 57 (by omega), by exact gz_m 58 (by omega)⟩ ⟨by exact gz_m 59 (by omega), by exact gz_m 60 (by omega)⟩ 
            obtain ⟨rfl, ⟨z27, rfl, q27⟩⟩ := P27
            refine gv_callS hD rfl (As := [.inl (I 89 (Int.toNat ((I 98 (Int.toNat (((4 * a1) + v4_21))))))), .inl (I 89 (Int.toNat ((I 98 (Int.toNat (((4 * a2) + v4_21)))))))]) (st := []) rfl (gr_lS hws rfl) (Nat.le_of_ble_eq_true rfl) (gz_Ev_mono (d := 1) (by decide) E27) ?_
            show gv_X _ _ (307, [(0, .inr (.inr (some 0))), (1, .inl a1), (2, .inl a2), (3, .inl v3_20), (4, .inl v4_21)], [.inl z27], gr_sh ++ ext, gr_h I J)
            refine gv_run 2 true hD (pc' := 311) (lv' := [(5, .inl z27), (0, .inr (.inr (some 0))), (1, .inl a1), (2, .inl a2), (3, .inl v3_20), (4, .inl v4_21)]) (st' := [.inl z27]) (h' := gr_h I J) (C := ((True ∧ True) ∧ True)) rfl ⟨⟨trivial, trivial⟩, trivial⟩ ?_
            refine gv_if_eq (t := 317) hD rfl rfl ⟨by exact gz_m 61 (by omega), by exact gz_m 62 (by omega)⟩ (fun c28 => ?_) (fun c28 => ?_)
            · refine gv_run 2 true hD (pc' := 266) (lv' := [(4, .inl (v4_21 + 1)), (5, .inl z27), (0, .inr (.inr (some 0))), (1, .inl a1), (2, .inl a2), (3, .inl v3_20)]) (st' := []) (h' := gr_h I J) (C := ((True ∧ True) ∧ True)) rfl ⟨⟨trivial, trivial⟩, trivial⟩ ?_
              refine gv_pick [2, 3, 4, 5, 0] rfl ?_
              exact ih266 (v4_21 + 1) (by exact gz_m 63 (by omega)) (by exact gz_m 64 (by omega))
            · refine gv_run 1 true hD (pc' := 316) (lv' := [(5, .inl z27), (0, .inr (.inr (some 0))), (1, .inl a1), (2, .inl a2), (3, .inl v3_20), (4, .inl v4_21)]) (st' := [.inl z27]) (h' := gr_h I J) (C := (True ∧ True)) rfl ⟨trivial, trivial⟩ ?_
              exact gv_iret hD rfl ⟨rfl, ⟨_, rfl, by exact gz_m 65 (by omega)⟩⟩
      refine gv_run 2 true hD (pc' := 185) (lv' := [(0, .inr (.inr (some 0))), (1, .inl a1), (2, .inl a2), (3, .inl v3_20), (4, .inl v4_20)]) (st' := [.inl v3_20, .inl v4_20]) (h' := gr_h I J) (C := ((True ∧ True) ∧ True)) rfl ⟨⟨trivial, trivial⟩, trivial⟩ ?_
      refine gv_icmp_ge (t := 263) hD rfl rfl ⟨⟨by exact gz_m 66 (by omega), by exact gz_m 67 (by omega)⟩, ⟨by exact gz_m 68 (by omega), by exact gz_m 69 (by omega)⟩⟩ (fun c29 => ?_) (fun c29 => ?_)
      · refine gv_run 2 true hD (pc' := 266) (lv' := [(4, .inl 0), (0, .inr (.inr (some 0))), (1, .inl a1), (2, .inl a2), (3, .inl v3_20)]) (st' := []) (h' := gr_h I J) (C := ((True ∧ True) ∧ True)) rfl ⟨⟨trivial, trivial⟩, trivial⟩ ?_
        refine gv_pick [1, 2, 3, 4, 0] rfl ?_
        exact L266 _ 0 (Nat.lt_succ_self _) (by exact gz_m 70 (by omega))
      · refine gv_run 7 true hD (pc' := 199) (lv' := [(0, .inr (.inr (some 0))), (1, .inl a1), (2, .inl a2), (3, .inl v3_20), (4, .inl v4_20)]) (st' := [.inl (4 * a1), .inr (.inr (some 98)), .inr (.inr (some 88))]) (h' := gr_h I J) (C := (((((((True ∧ True) ∧ True) ∧ True) ∧ True) ∧ True) ∧ True) ∧ True)) rfl ⟨⟨⟨⟨⟨⟨⟨trivial, trivial⟩, trivial⟩, trivial⟩, trivial⟩, trivial⟩, trivial⟩, trivial⟩ ?_
        have f30 := (gr_b_98 hI (Int.toNat (((4 * a1) + v4_20))))
        refine gv_run 3 true hD (pc' := 203) (lv' := [(0, .inr (.inr (some 0))), (1, .inl a1), (2, .inl a2), (3, .inl v3_20), (4, .inl v4_20)]) (st' := [.inl (I 98 (Int.toNat (((4 * a1) + v4_20)))), .inr (.inr (some 88))]) (h' := gr_h I J) (C := (((True ∧ True) ∧ True) ∧ (0 ≤ (((4 * a1) + v4_20)) ∧ (((4 * a1) + v4_20)) < ((36000 : Nat) : Int)))) rfl ⟨⟨⟨trivial, trivial⟩, trivial⟩, ⟨by exact gz_m 71 (by omega), by exact gz_m 72 (by omega)⟩⟩ ?_
        have f31 := (gr_b_88 hI (Int.toNat ((I 98 (Int.toNat (((4 * a1) + v4_20)))))))
        refine gv_run 1 true hD (pc' := 204) (lv' := [(0, .inr (.inr (some 0))), (1, .inl a1), (2, .inl a2), (3, .inl v3_20), (4, .inl v4_20)]) (st' := [.inl (I 88 (Int.toNat ((I 98 (Int.toNat (((4 * a1) + v4_20)))))))]) (h' := gr_h I J) (C := (True ∧ (0 ≤ ((I 98 (Int.toNat (((4 * a1) + v4_20))))) ∧ ((I 98 (Int.toNat (((4 * a1) + v4_20))))) < ((3000 : Nat) : Int)))) rfl ⟨trivial, ⟨by exact gz_m 73 (by omega), by exact gz_m 74 (by omega)⟩⟩ ?_
        refine gv_run 7 true hD (pc' := 215) (lv' := [(0, .inr (.inr (some 0))), (1, .inl a1), (2, .inl a2), (3, .inl v3_20), (4, .inl v4_20)]) (st' := [.inl (4 * a2), .inr (.inr (some 98)), .inr (.inr (some 88)), .inl (I 88 (Int.toNat ((I 98 (Int.toNat (((4 * a1) + v4_20)))))))]) (h' := gr_h I J) (C := (((((((True ∧ True) ∧ True) ∧ True) ∧ True) ∧ True) ∧ True) ∧ True)) rfl ⟨⟨⟨⟨⟨⟨⟨trivial, trivial⟩, trivial⟩, trivial⟩, trivial⟩, trivial⟩, trivial⟩, trivial⟩ ?_
        have f32 := (gr_b_98 hI (Int.toNat (((4 * a2) + v4_20))))
        refine gv_run 3 true hD (pc' := 219) (lv' := [(0, .inr (.inr (some 0))), (1, .inl a1), (2, .inl a2), (3, .inl v3_20), (4, .inl v4_20)]) (st' := [.inl (I 98 (Int.toNat (((4 * a2) + v4_20)))), .inr (.inr (some 88)), .inl (I 88 (Int.toNat ((I 98 (Int.toNat (((4 * a1) + v4_20)))))))]) (h' := gr_h I J) (C := (((True ∧ True) ∧ True) ∧ (0 ≤ (((4 * a2) + v4_20)) ∧ (((4 * a2) + v4_20)) < ((36000 : Nat) : Int)))) rfl ⟨⟨⟨trivial, trivial⟩, trivial⟩, ⟨by exact gz_m 75 (by omega), by exact gz_m 76 (by omega)⟩⟩ ?_
        have f33 := (gr_b_88 hI (Int.toNat ((I 98 (Int.toNat (((4 * a2) + v4_20)))))))
        refine gv_run 1 true hD (pc' := 220) (lv' := [(0, .inr (.inr (some 0))), (1, .inl a1), (2, .inl a2), (3, .inl v3_20), (4, .inl v4_20)]) (st' := [.inl (I 88 (Int.toNat ((I 98 (Int.toNat (((4 * a2) + v4_20))))))), .inl (I 88 (Int.toNat ((I 98 (Int.toNat (((4 * a1) + v4_20)))))))]) (h' := gr_h I J) (C := (True ∧ (0 ≤ ((I 98 (Int.toNat (((4 * a2) + v4_20))))) ∧ ((I 98 (Int.toNat (((4 * a2) + v4_20))))) < ((3000 : Nat) : Int)))) rfl ⟨trivial, ⟨by exact gz_m 77 (by omega), by exact gz_m 78 (by omega)⟩⟩ ?_
        refine gv_icmp_eq (t := 257) hD rfl rfl ⟨⟨by exact gz_m 79 (by omega), by exact gz_m 80 (by omega)⟩, ⟨by exact gz_m 81 (by omega), by exact gz_m 82 (by omega)⟩⟩ (fun c34 => ?_) (fun c34 => ?_)
        · refine gv_run 2 true hD (pc' := 182) (lv' := [(4, .inl (v4_20 + 1)), (0, .inr (.inr (some 0))), (1, .inl a1), (2, .inl a2), (3, .inl v3_20)]) (st' := []) (h' := gr_h I J) (C := ((True ∧ True) ∧ True)) rfl ⟨⟨trivial, trivial⟩, trivial⟩ ?_
          refine gv_pick [1, 2, 3, 4, 0] rfl ?_
          exact ih182 v3_20 (v4_20 + 1) (by exact gz_m 83 (by omega)) (by exact gz_m 84 (by omega))
        · refine gv_run 7 true hD (pc' := 234) (lv' := [(0, .inr (.inr (some 0))), (1, .inl a1), (2, .inl a2), (3, .inl v3_20), (4, .inl v4_20)]) (st' := [.inl (4 * a1), .inr (.inr (some 98)), .inr (.inr (some 88))]) (h' := gr_h I J) (C := (((((((True ∧ True) ∧ True) ∧ True) ∧ True) ∧ True) ∧ True) ∧ True)) rfl ⟨⟨⟨⟨⟨⟨⟨trivial, trivial⟩, trivial⟩, trivial⟩, trivial⟩, trivial⟩, trivial⟩, trivial⟩ ?_
          have f35 := (gr_b_98 hI (Int.toNat (((4 * a1) + v4_20))))
          refine gv_run 3 true hD (pc' := 238) (lv' := [(0, .inr (.inr (some 0))), (1, .inl a1), (2, .inl a2), (3, .inl v3_20), (4, .inl v4_20)]) (st' := [.inl (I 98 (Int.toNat (((4 * a1) + v4_20)))), .inr (.inr (some 88))]) (h' := gr_h I J) (C := (((True ∧ True) ∧ True) ∧ (0 ≤ (((4 * a1) + v4_20)) ∧ (((4 * a1) + v4_20)) < ((36000 : Nat) : Int)))) rfl ⟨⟨⟨trivial, trivial⟩, trivial⟩, ⟨by exact gz_m 85 (by omega), by exact gz_m 86 (by omega)⟩⟩ ?_
          have f36 := (gr_b_88 hI (Int.toNat ((I 98 (Int.toNat (((4 * a1) + v4_20)))))))
          refine gv_run 1 true hD (pc' := 239) (lv' := [(0, .inr (.inr (some 0))), (1, .inl a1), (2, .inl a2), (3, .inl v3_20), (4, .inl v4_20)]) (st' := [.inl (I 88 (Int.toNat ((I 98 (Int.toNat (((4 * a1) + v4_20)))))))]) (h' := gr_h I J) (C := (True ∧ (0 ≤ ((I 98 (Int.toNat (((4 * a1) + v4_20))))) ∧ ((I 98 (Int.toNat (((4 * a1) + v4_20))))) < ((3000 : Nat) : Int)))) rfl ⟨trivial, ⟨by exact gz_m 87 (by omega), by exact gz_m 88 (by omega)⟩⟩ ?_
          refine gv_run 7 true hD (pc' := 250) (lv' := [(0, .inr (.inr (some 0))), (1, .inl a1), (2, .inl a2), (3, .inl v3_20), (4, .inl v4_20)]) (st' := [.inl (4 * a2), .inr (.inr (some 98)), .inr (.inr (some 88)), .inl (I 88 (Int.toNat ((I 98 (Int.toNat (((4 * a1) + v4_20)))))))]) (h' := gr_h I J) (C := (((((((True ∧ True) ∧ True) ∧ True) ∧ True) ∧ True) ∧ True) ∧ True)) rfl ⟨⟨⟨⟨⟨⟨⟨trivial, trivial⟩, trivial⟩, trivial⟩, trivial⟩, trivial⟩, trivial⟩, trivial⟩ ?_
          have f37 := (gr_b_98 hI (Int.toNat (((4 * a2) + v4_20))))
          refine gv_run 3 true hD (pc' := 254) (lv' := [(0, .inr (.inr (some 0))), (1, .inl a1), (2, .inl a2), (3, .inl v3_20), (4, .inl v4_20)]) (st' := [.inl (I 98 (Int.toNat (((4 * a2) + v4_20)))), .inr (.inr (some 88)), .inl (I 88 (Int.toNat ((I 98 (Int.toNat (((4 * a1) + v4_20)))))))]) (h' := gr_h I J) (C := (((True ∧ True) ∧ True) ∧ (0 ≤ (((4 * a2) + v4_20)) ∧ (((4 * a2) + v4_20)) < ((36000 : Nat) : Int)))) rfl ⟨⟨⟨trivial, trivial⟩, trivial⟩, ⟨by exact gz_m 89 (by omega), by exact gz_m 90 (by omega)⟩⟩ ?_
          have f38 := (gr_b_88 hI (Int.toNat ((I 98 (Int.toNat (((4 * a2) + v4_20)))))))
          refine gv_run 1 true hD (pc' := 255) (lv' := [(0, .inr (.inr (some 0))), (1, .inl a1), (2, .inl a2), (3, .inl v3_20), (4, .inl v4_20)]) (st' := [.inl (I 88 (Int.toNat ((I 98 (Int.toNat (((4 * a2) + v4_20))))))), .inl (I 88 (Int.toNat ((I 98 (Int.toNat (((4 * a1) + v4_20)))))))]) (h' := gr_h I J) (C := (True ∧ (0 ≤ ((I 98 (Int.toNat (((4 * a2) + v4_20))))) ∧ ((I 98 (Int.toNat (((4 * a2) + v4_20))))) < ((3000 : Nat) : Int)))) rfl ⟨trivial, ⟨by exact gz_m 91 (by omega), by exact gz_m 92 (by omega)⟩⟩ ?_
          refine gv_run 1 true hD (pc' := 256) (lv' := [(0, .inr (.inr (some 0))), (1, .inl a1), (2, .inl a2), (3, .inl v3_20), (4, .inl v4_20)]) (st' := [.inl ((I 88 (Int.toNat ((I 98 (Int.toNat (((4 * a1) + v4_20))))))) - (I 88 (Int.toNat ((I 98 (Int.toNat (((4 * a2) + v4_20))))))))]) (h' := gr_h I J) (C := (True ∧ True)) rfl ⟨trivial, trivial⟩ ?_
          exact gv_iret hD rfl ⟨rfl, ⟨_, rfl, by exact gz_m 93 (by omega)⟩⟩
  have f39 := (gr_b_97 hI (Int.toNat a1))
  refine gv_run 4 true hD (pc' := 6) (lv' := [(0, .inr (.inr (some 0))), (1, .inl a1), (2, .inl a2)]) (st' := [.inl (I 97 (Int.toNat a1))]) (h' := gr_h I J) (C := ((((True ∧ True) ∧ True) ∧ True) ∧ (0 ≤ a1 ∧ a1 < ((9000 : Nat) : Int)))) rfl ⟨⟨⟨⟨trivial, trivial⟩, trivial⟩, trivial⟩, ⟨by exact gz_m 94 (by omega), by exact gz_m 95 (by omega)⟩⟩ ?_
  refine gv_if_lt (t := 18) hD rfl rfl ⟨by exact gz_m 96 (by omega), by exact gz_m 97 (by omega)⟩ (fun c40 => ?_) (fun c40 => ?_)
  · exact L18 (by exact gz_m 98 (by omega))
  · have f41 := (gr_b_97 hI (Int.toNat a2))
    refine gv_run 4 true hD (pc' := 15) (lv' := [(0, .inr (.inr (some 0))), (1, .inl a1), (2, .inl a2)]) (st' := [.inl (I 97 (Int.toNat a2))]) (h' := gr_h I J) (C := ((((True ∧ True) ∧ True) ∧ True) ∧ (0 ≤ a2 ∧ a2 < ((9000 : Nat) : Int)))) rfl ⟨⟨⟨⟨trivial, trivial⟩, trivial⟩, trivial⟩, ⟨by exact gz_m 99 (by omega), by exact gz_m 100 (by omega)⟩⟩ ?_
    refine gv_if_ge (t := 109) hD rfl rfl ⟨by exact gz_m 101 (by omega), by exact gz_m 102 (by omega)⟩ (fun c42 => ?_) (fun c42 => ?_)
    · have f43 := (gr_b_95 hI (Int.toNat a1))
      refine gv_run 4 true hD (pc' := 115) (lv' := [(0, .inr (.inr (some 0))), (1, .inl a1), (2, .inl a2)]) (st' := [.inl (I 95 (Int.toNat a1))]) (h' := gr_h I J) (C := ((((True ∧ True) ∧ True) ∧ True) ∧ (0 ≤ a1 ∧ a1 < ((9000 : Nat) : Int)))) rfl ⟨⟨⟨⟨trivial, trivial⟩, trivial⟩, trivial⟩, ⟨by exact gz_m 103 (by omega), by exact gz_m 104 (by omega)⟩⟩ ?_
      have f44 := (gr_b_95 hI (Int.toNat a2))
      refine gv_run 4 true hD (pc' := 121) (lv' := [(0, .inr (.inr (some 0))), (1, .inl a1), (2, .inl a2)]) (st' := [.inl (I 95 (Int.toNat a2)), .inl (I 95 (Int.toNat a1))]) (h' := gr_h I J) (C := ((((True ∧ True) ∧ True) ∧ True) ∧ (0 ≤ a2 ∧ a2 < ((9000 : Nat) : Int)))) rfl ⟨⟨⟨⟨trivial, trivial⟩, trivial⟩, trivial⟩, ⟨by exact gz_m 105 (by omega), by exact gz_m 106 (by omega)⟩⟩ ?_
      refine gv_icmp_eq (t := 138) hD rfl rfl ⟨⟨by exact gz_m 107 (by omega), by exact gz_m 108 (by omega)⟩, ⟨by exact gz_m 109 (by omega), by exact gz_m 110 (by omega)⟩⟩ (fun c45 => ?_) (fun c45 => ?_)
      · have f46 := (gr_b_96 hI (Int.toNat a1))
        refine gv_run 4 true hD (pc' := 144) (lv' := [(0, .inr (.inr (some 0))), (1, .inl a1), (2, .inl a2)]) (st' := [.inl (I 96 (Int.toNat a1))]) (h' := gr_h I J) (C := ((((True ∧ True) ∧ True) ∧ True) ∧ (0 ≤ a1 ∧ a1 < ((9000 : Nat) : Int)))) rfl ⟨⟨⟨⟨trivial, trivial⟩, trivial⟩, trivial⟩, ⟨by exact gz_m 111 (by omega), by exact gz_m 112 (by omega)⟩⟩ ?_
        have f47 := (gr_b_96 hI (Int.toNat a2))
        refine gv_run 4 true hD (pc' := 150) (lv' := [(0, .inr (.inr (some 0))), (1, .inl a1), (2, .inl a2)]) (st' := [.inl (I 96 (Int.toNat a2)), .inl (I 96 (Int.toNat a1))]) (h' := gr_h I J) (C := ((((True ∧ True) ∧ True) ∧ True) ∧ (0 ≤ a2 ∧ a2 < ((9000 : Nat) : Int)))) rfl ⟨⟨⟨⟨trivial, trivial⟩, trivial⟩, trivial⟩, ⟨by exact gz_m 113 (by omega), by exact gz_m 114 (by omega)⟩⟩ ?_
        refine gv_icmp_eq (t := 167) hD rfl rfl ⟨⟨by exact gz_m 115 (by omega), by exact gz_m 116 (by omega)⟩, ⟨by exact gz_m 117 (by omega), by exact gz_m 118 (by omega)⟩⟩ (fun c48 => ?_) (fun c48 => ?_)
        · have f49 := (gr_b_95 hI (Int.toNat a1))
          refine gv_run 6 true hD (pc' := 177) (lv' := [(0, .inr (.inr (some 0))), (1, .inl a1), (2, .inl a2)]) (st' := [.inl (I 95 (Int.toNat a1)), .inr (.inr (some 6))]) (h' := gr_h I J) (C := ((((((True ∧ True) ∧ True) ∧ True) ∧ True) ∧ True) ∧ (0 ≤ a1 ∧ a1 < ((9000 : Nat) : Int)))) rfl ⟨⟨⟨⟨⟨⟨trivial, trivial⟩, trivial⟩, trivial⟩, trivial⟩, trivial⟩, ⟨by exact gz_m 119 (by omega), by exact gz_m 120 (by omega)⟩⟩ ?_
          have f50 := (gr_b_6 hI (Int.toNat ((I 95 (Int.toNat a1)))))
          refine gv_run 1 true hD (pc' := 178) (lv' := [(0, .inr (.inr (some 0))), (1, .inl a1), (2, .inl a2)]) (st' := [.inl (I 6 (Int.toNat ((I 95 (Int.toNat a1)))))]) (h' := gr_h I J) (C := (True ∧ (0 ≤ ((I 95 (Int.toNat a1))) ∧ ((I 95 (Int.toNat a1))) < ((96 : Nat) : Int)))) rfl ⟨trivial, ⟨by exact gz_m 121 (by omega), by exact gz_m 122 (by omega)⟩⟩ ?_
          refine gv_run 3 true hD (pc' := 182) (lv' := [(4, .inl 0), (3, .inl (I 6 (Int.toNat ((I 95 (Int.toNat a1)))))), (0, .inr (.inr (some 0))), (1, .inl a1), (2, .inl a2)]) (st' := []) (h' := gr_h I J) (C := (((True ∧ True) ∧ True) ∧ True)) rfl ⟨⟨⟨trivial, trivial⟩, trivial⟩, trivial⟩ ?_
          refine gv_pick [2, 3, 4, 1, 0] rfl ?_
          exact L182 _ ((I 6 (Int.toNat ((I 95 (Int.toNat a1)))))) 0 (Nat.lt_succ_self _) (by exact gz_m 123 (by omega))
        · have f51 := (gr_b_96 hI (Int.toNat a1))
          refine gv_run 4 true hD (pc' := 159) (lv' := [(0, .inr (.inr (some 0))), (1, .inl a1), (2, .inl a2)]) (st' := [.inl (I 96 (Int.toNat a1))]) (h' := gr_h I J) (C := ((((True ∧ True) ∧ True) ∧ True) ∧ (0 ≤ a1 ∧ a1 < ((9000 : Nat) : Int)))) rfl ⟨⟨⟨⟨trivial, trivial⟩, trivial⟩, trivial⟩, ⟨by exact gz_m 124 (by omega), by exact gz_m 125 (by omega)⟩⟩ ?_
          have f52 := (gr_b_96 hI (Int.toNat a2))
          refine gv_run 4 true hD (pc' := 165) (lv' := [(0, .inr (.inr (some 0))), (1, .inl a1), (2, .inl a2)]) (st' := [.inl (I 96 (Int.toNat a2)), .inl (I 96 (Int.toNat a1))]) (h' := gr_h I J) (C := ((((True ∧ True) ∧ True) ∧ True) ∧ (0 ≤ a2 ∧ a2 < ((9000 : Nat) : Int)))) rfl ⟨⟨⟨⟨trivial, trivial⟩, trivial⟩, trivial⟩, ⟨by exact gz_m 126 (by omega), by exact gz_m 127 (by omega)⟩⟩ ?_
          refine gv_run 1 true hD (pc' := 166) (lv' := [(0, .inr (.inr (some 0))), (1, .inl a1), (2, .inl a2)]) (st' := [.inl ((I 96 (Int.toNat a1)) - (I 96 (Int.toNat a2)))]) (h' := gr_h I J) (C := (True ∧ True)) rfl ⟨trivial, trivial⟩ ?_
          exact gv_iret hD rfl ⟨rfl, ⟨_, rfl, by exact gz_m 128 (by omega)⟩⟩
      · have f53 := (gr_b_95 hI (Int.toNat a1))
        refine gv_run 4 true hD (pc' := 130) (lv' := [(0, .inr (.inr (some 0))), (1, .inl a1), (2, .inl a2)]) (st' := [.inl (I 95 (Int.toNat a1))]) (h' := gr_h I J) (C := ((((True ∧ True) ∧ True) ∧ True) ∧ (0 ≤ a1 ∧ a1 < ((9000 : Nat) : Int)))) rfl ⟨⟨⟨⟨trivial, trivial⟩, trivial⟩, trivial⟩, ⟨by exact gz_m 129 (by omega), by exact gz_m 130 (by omega)⟩⟩ ?_
        have f54 := (gr_b_95 hI (Int.toNat a2))
        refine gv_run 4 true hD (pc' := 136) (lv' := [(0, .inr (.inr (some 0))), (1, .inl a1), (2, .inl a2)]) (st' := [.inl (I 95 (Int.toNat a2)), .inl (I 95 (Int.toNat a1))]) (h' := gr_h I J) (C := ((((True ∧ True) ∧ True) ∧ True) ∧ (0 ≤ a2 ∧ a2 < ((9000 : Nat) : Int)))) rfl ⟨⟨⟨⟨trivial, trivial⟩, trivial⟩, trivial⟩, ⟨by exact gz_m 131 (by omega), by exact gz_m 132 (by omega)⟩⟩ ?_
        refine gv_run 1 true hD (pc' := 137) (lv' := [(0, .inr (.inr (some 0))), (1, .inl a1), (2, .inl a2)]) (st' := [.inl ((I 95 (Int.toNat a1)) - (I 95 (Int.toNat a2)))]) (h' := gr_h I J) (C := (True ∧ True)) rfl ⟨trivial, trivial⟩ ?_
        exact gv_iret hD rfl ⟨rfl, ⟨_, rfl, by exact gz_m 133 (by omega)⟩⟩
    · exact L18 (by exact gz_m 134 (by omega))
