set_option maxHeartbeats 8000000 in
set_option maxRecDepth 100000 in
theorem r_find_1_p {ws0 : List Cond} {tb : String → gz_T} (hws : ∀ w ∈ gr_ws, w ∈ ws0) (htb : tb RX13 = gr_T) (ext : gz_Sh) (I : gr_I) (J : gr_J) (hI : gr_Inv I) (a2 : Int) (a3 : Int) (a4 : Int64) (ha2 : 0 ≤ a2 ∧ a2 ≤ 8) (ha3 : 0 ≤ a3 ∧ a3 ≤ 8) (x0 : a2 + a3 ≤ 8) : ∃ r h', gz_Ev ws0 tb 1 (yX13_find, cX13_find, 6, (some .int)) [.inr (.inr (some 1)), .inl a2, .inl a3, .inr (.inl a4)] (gr_sh ++ ext) (gr_h I J) r (gr_sh ++ ext) h' 0 0 ∧ (h' = gr_h I J ∧ (∃ z : Int, r = some (.inl z) ∧ (-1) ≤ z ∧ z ≤ 7 ∧ (z < a3) ∧ (z = gs_find (fun i => J 1 (Int.toNat (a2 + i))) a3 a4))) := by
  have hD : gv_D (gr_E ws0 tb 0 (yX13_find, cX13_find, 6, (some .int)) kX13_find) := gq_of oX13_find
  refine gr_ev (d := 0) (l := kX13_find) (Po := fun r h' => (h' = gr_h I J ∧ (∃ z : Int, r = some (.inl z) ∧ (-1) ≤ z ∧ z ≤ 7 ∧ (z < a3) ∧ (z = gs_find (fun i => J 1 (Int.toNat (a2 + i))) a3 a4)))) htb rfl (Nat.le_of_ble_eq_true rfl) ?_
  have L3 : ∀ (n : Nat) (v5_1 : Int), (9 - v5_1).toNat < n → ((0 ≤ a2 ∧ a2 ≤ 8) ∧ (0 ≤ a3 ∧ a3 ≤ 8) ∧ (0 ≤ v5_1 ∧ v5_1 ≤ 8) ∧ (a2 + a3 ≤ 8)) → (gs_find (fun i => J 1 (Int.toNat (a2 + i))) a3 a4 = gs_fd (fun i => J 1 (Int.toNat (a2 + i))) a4 (Int.toNat (a3 - v5_1)) v5_1) → gv_X (gr_E ws0 tb 0 (yX13_find, cX13_find, 6, (some .int)) kX13_find) (gv_Q cX13_find (some .int) (gr_sh ++ ext) (fun r h' => (h' = gr_h I J ∧ (∃ z : Int, r = some (.inl z) ∧ (-1) ≤ z ∧ z ≤ 7 ∧ (z < a3) ∧ (z = gs_find (fun i => J 1 (Int.toNat (a2 + i))) a3 a4))))) (3, [(0, .inr (.inr (some 1))), (1, .inl a2), (2, .inl a3), (3, .inr (.inl a4)), (5, .inl v5_1)], [], gr_sh ++ ext, gr_h I J) := by
    intro n
    induction n with
    | zero => intro v5_1 hn; exact gz_m 0 (by omega)
    | succ n ih3 =>
      intro v5_1 hn m_1 e1_1
      obtain ⟨ha2_1, ha3_1, hv5_1, e0_1⟩ := m_1
      refine gv_run 2 true hD (pc' := 6) (lv' := [(0, .inr (.inr (some 1))), (1, .inl a2), (2, .inl a3), (3, .inr (.inl a4)), (5, .inl v5_1)]) (st' := [.inl a3, .inl v5_1]) (h' := gr_h I J) (C := ((True ∧ True) ∧ True)) rfl ⟨⟨trivial, trivial⟩, trivial⟩ ?_
      refine gv_icmp_ge (t := 29) hD rfl rfl ⟨⟨by exact gz_m 1 (by omega), by exact gz_m 2 (by omega)⟩, ⟨by exact gz_m 3 (by omega), by exact gz_m 4 (by omega)⟩⟩ (fun c2 => ?_) (fun c2 => ?_)
      · refine gv_run 1 true hD (pc' := 30) (lv' := [(0, .inr (.inr (some 1))), (1, .inl a2), (2, .inl a3), (3, .inr (.inl a4)), (5, .inl v5_1)]) (st' := [.inl (-1)]) (h' := gr_h I J) (C := (True ∧ True)) rfl ⟨trivial, trivial⟩ ?_
        exact gv_iret hD rfl ⟨rfl, ⟨_, rfl, by exact gz_m 5 (by omega), by exact gz_m 6 (by omega), by exact gz_m 7 (by omega), (e1_1.trans (gs_fd_e (by exact gz_m 8 (by omega)))).symm⟩⟩
      · refine gv_run 5 true hD (pc' := 15) (lv' := [(0, .inr (.inr (some 1))), (1, .inl a2), (2, .inl a3), (3, .inr (.inl a4)), (5, .inl v5_1)]) (st' := [.inr (.inl (J 1 (Int.toNat ((a2 + v5_1)))))]) (h' := gr_h I J) (C := (((((True ∧ True) ∧ True) ∧ True) ∧ True) ∧ (0 ≤ (a2 + v5_1) ∧ (a2 + v5_1) < ((8 : Nat) : Int)))) rfl ⟨⟨⟨⟨⟨trivial, trivial⟩, trivial⟩, trivial⟩, trivial⟩, ⟨by exact gz_m 9 (by omega), by exact gz_m 10 (by omega)⟩⟩ ?_
        have f3 := gw_cmp ((J 1 (Int.toNat ((a2 + v5_1))))) (a4)
        refine gv_run 2 true hD (pc' := 17) (lv' := [(0, .inr (.inr (some 1))), (1, .inl a2), (2, .inl a3), (3, .inr (.inl a4)), (5, .inl v5_1)]) (st' := [.inl ((lg_cmp ((J 1 (Int.toNat ((a2 + v5_1))))) (a4)).toInt)]) (h' := gr_h I J) (C := ((True ∧ True) ∧ True)) rfl ⟨⟨trivial, trivial⟩, trivial⟩ ?_
        refine gv_if_ne (t := 23) hD rfl rfl ⟨by exact gz_m 11 (by omega), by exact gz_m 12 (by omega)⟩ (fun c4 => ?_) (fun c4 => ?_)
        · have j4 := gs_cmpn (a := (J 1 (Int.toNat ((a2 + v5_1))))) (b := a4) (by exact gz_m 13 (by omega))
          refine gv_run 2 true hD (pc' := 3) (lv' := [(5, .inl (v5_1 + 1)), (0, .inr (.inr (some 1))), (1, .inl a2), (2, .inl a3), (3, .inr (.inl a4))]) (st' := []) (h' := gr_h I J) (C := ((True ∧ True) ∧ True)) rfl ⟨⟨trivial, trivial⟩, trivial⟩ ?_
          refine gv_pick [1, 2, 3, 4, 0] rfl ?_
          exact ih3 (v5_1 + 1) (by exact gz_m 14 (by omega)) (by exact gz_m 15 (by omega)) (e1_1.trans (gs_fd_s (f := (fun i => J 1 (Int.toNat (a2 + i)))) (by exact gz_m 16 (by omega)) j4))
        · have j4 := gs_cmp0 (a := (J 1 (Int.toNat ((a2 + v5_1))))) (b := a4) (by exact gz_m 17 (by omega))
          refine gv_run 1 true hD (pc' := 22) (lv' := [(0, .inr (.inr (some 1))), (1, .inl a2), (2, .inl a3), (3, .inr (.inl a4)), (5, .inl v5_1)]) (st' := [.inl v5_1]) (h' := gr_h I J) (C := (True ∧ True)) rfl ⟨trivial, trivial⟩ ?_
          exact gv_iret hD rfl ⟨rfl, ⟨_, rfl, by exact gz_m 18 (by omega), by exact gz_m 19 (by omega), by exact gz_m 20 (by omega), (e1_1.trans (gs_fd_f (f := (fun i => J 1 (Int.toNat (a2 + i)))) (by exact gz_m 21 (by omega)) j4)).symm⟩⟩
  refine gv_run 2 true hD (pc' := 3) (lv' := [(5, .inl 0), (0, .inr (.inr (some 1))), (1, .inl a2), (2, .inl a3), (3, .inr (.inl a4))]) (st' := []) (h' := gr_h I J) (C := ((True ∧ True) ∧ True)) rfl ⟨⟨trivial, trivial⟩, trivial⟩ ?_
  refine gv_pick [1, 2, 3, 4, 0] rfl ?_
  exact L3 _ 0 (Nat.lt_succ_self _) (by exact gz_m 22 (by omega)) (by show gs_fd (fun i => J 1 (Int.toNat (a2 + i))) a4 (Int.toNat a3) 0 = _; rw [show a3 - 0 = a3 from by exact gz_m 23 (by omega)])
set_option maxHeartbeats 8000000 in
set_option maxRecDepth 100000 in
theorem r_find_2_p {ws0 : List Cond} {tb : String → gz_T} (hws : ∀ w ∈ gr_ws, w ∈ ws0) (htb : tb RX13 = gr_T) (ext : gz_Sh) (I : gr_I) (J : gr_J) (hI : gr_Inv I) (a2 : Int) (a3 : Int) (a4 : Int64) (ha2 : 0 ≤ a2 ∧ a2 ≤ 32) (ha3 : 0 ≤ a3 ∧ a3 ≤ 32) (x0 : a2 + a3 ≤ 32) : ∃ r h', gz_Ev ws0 tb 1 (yX13_find, cX13_find, 6, (some .int)) [.inr (.inr (some 2)), .inl a2, .inl a3, .inr (.inl a4)] (gr_sh ++ ext) (gr_h I J) r (gr_sh ++ ext) h' 0 0 ∧ (h' = gr_h I J ∧ (∃ z : Int, r = some (.inl z) ∧ (-1) ≤ z ∧ z ≤ 31 ∧ (z < a3) ∧ (z = gs_find (fun i => J 2 (Int.toNat (a2 + i))) a3 a4))) := by
  have hD : gv_D (gr_E ws0 tb 0 (yX13_find, cX13_find, 6, (some .int)) kX13_find) := gq_of oX13_find
  refine gr_ev (d := 0) (l := kX13_find) (Po := fun r h' => (h' = gr_h I J ∧ (∃ z : Int, r = some (.inl z) ∧ (-1) ≤ z ∧ z ≤ 31 ∧ (z < a3) ∧ (z = gs_find (fun i => J 2 (Int.toNat (a2 + i))) a3 a4)))) htb rfl (Nat.le_of_ble_eq_true rfl) ?_
  have L3 : ∀ (n : Nat) (v5_1 : Int), (33 - v5_1).toNat < n → ((0 ≤ a2 ∧ a2 ≤ 32) ∧ (0 ≤ a3 ∧ a3 ≤ 32) ∧ (0 ≤ v5_1 ∧ v5_1 ≤ 32) ∧ (a2 + a3 ≤ 32)) → (gs_find (fun i => J 2 (Int.toNat (a2 + i))) a3 a4 = gs_fd (fun i => J 2 (Int.toNat (a2 + i))) a4 (Int.toNat (a3 - v5_1)) v5_1) → gv_X (gr_E ws0 tb 0 (yX13_find, cX13_find, 6, (some .int)) kX13_find) (gv_Q cX13_find (some .int) (gr_sh ++ ext) (fun r h' => (h' = gr_h I J ∧ (∃ z : Int, r = some (.inl z) ∧ (-1) ≤ z ∧ z ≤ 31 ∧ (z < a3) ∧ (z = gs_find (fun i => J 2 (Int.toNat (a2 + i))) a3 a4))))) (3, [(0, .inr (.inr (some 2))), (1, .inl a2), (2, .inl a3), (3, .inr (.inl a4)), (5, .inl v5_1)], [], gr_sh ++ ext, gr_h I J) := by
    intro n
    induction n with
    | zero => intro v5_1 hn; exact gz_m 0 (by omega)
    | succ n ih3 =>
      intro v5_1 hn m_1 e1_1
      obtain ⟨ha2_1, ha3_1, hv5_1, e0_1⟩ := m_1
      refine gv_run 2 true hD (pc' := 6) (lv' := [(0, .inr (.inr (some 2))), (1, .inl a2), (2, .inl a3), (3, .inr (.inl a4)), (5, .inl v5_1)]) (st' := [.inl a3, .inl v5_1]) (h' := gr_h I J) (C := ((True ∧ True) ∧ True)) rfl ⟨⟨trivial, trivial⟩, trivial⟩ ?_
      refine gv_icmp_ge (t := 29) hD rfl rfl ⟨⟨by exact gz_m 1 (by omega), by exact gz_m 2 (by omega)⟩, ⟨by exact gz_m 3 (by omega), by exact gz_m 4 (by omega)⟩⟩ (fun c2 => ?_) (fun c2 => ?_)
      · refine gv_run 1 true hD (pc' := 30) (lv' := [(0, .inr (.inr (some 2))), (1, .inl a2), (2, .inl a3), (3, .inr (.inl a4)), (5, .inl v5_1)]) (st' := [.inl (-1)]) (h' := gr_h I J) (C := (True ∧ True)) rfl ⟨trivial, trivial⟩ ?_
        exact gv_iret hD rfl ⟨rfl, ⟨_, rfl, by exact gz_m 5 (by omega), by exact gz_m 6 (by omega), by exact gz_m 7 (by omega), (e1_1.trans (gs_fd_e (by exact gz_m 8 (by omega)))).symm⟩⟩
      · refine gv_run 5 true hD (pc' := 15) (lv' := [(0, .inr (.inr (some 2))), (1, .inl a2), (2, .inl a3), (3, .inr (.inl a4)), (5, .inl v5_1)]) (st' := [.inr (.inl (J 2 (Int.toNat ((a2 + v5_1)))))]) (h' := gr_h I J) (C := (((((True ∧ True) ∧ True) ∧ True) ∧ True) ∧ (0 ≤ (a2 + v5_1) ∧ (a2 + v5_1) < ((32 : Nat) : Int)))) rfl ⟨⟨⟨⟨⟨trivial, trivial⟩, trivial⟩, trivial⟩, trivial⟩, ⟨by exact gz_m 9 (by omega), by exact gz_m 10 (by omega)⟩⟩ ?_
        have f3 := gw_cmp ((J 2 (Int.toNat ((a2 + v5_1))))) (a4)
        refine gv_run 2 true hD (pc' := 17) (lv' := [(0, .inr (.inr (some 2))), (1, .inl a2), (2, .inl a3), (3, .inr (.inl a4)), (5, .inl v5_1)]) (st' := [.inl ((lg_cmp ((J 2 (Int.toNat ((a2 + v5_1))))) (a4)).toInt)]) (h' := gr_h I J) (C := ((True ∧ True) ∧ True)) rfl ⟨⟨trivial, trivial⟩, trivial⟩ ?_
        refine gv_if_ne (t := 23) hD rfl rfl ⟨by exact gz_m 11 (by omega), by exact gz_m 12 (by omega)⟩ (fun c4 => ?_) (fun c4 => ?_)
        · have j4 := gs_cmpn (a := (J 2 (Int.toNat ((a2 + v5_1))))) (b := a4) (by exact gz_m 13 (by omega))
          refine gv_run 2 true hD (pc' := 3) (lv' := [(5, .inl (v5_1 + 1)), (0, .inr (.inr (some 2))), (1, .inl a2), (2, .inl a3), (3, .inr (.inl a4))]) (st' := []) (h' := gr_h I J) (C := ((True ∧ True) ∧ True)) rfl ⟨⟨trivial, trivial⟩, trivial⟩ ?_
          refine gv_pick [1, 2, 3, 4, 0] rfl ?_
          exact ih3 (v5_1 + 1) (by exact gz_m 14 (by omega)) (by exact gz_m 15 (by omega)) (e1_1.trans (gs_fd_s (f := (fun i => J 2 (Int.toNat (a2 + i)))) (by exact gz_m 16 (by omega)) j4))
        · have j4 := gs_cmp0 (a := (J 2 (Int.toNat ((a2 + v5_1))))) (b := a4) (by exact gz_m 17 (by omega))
          refine gv_run 1 true hD (pc' := 22) (lv' := [(0, .inr (.inr (some 2))), (1, .inl a2), (2, .inl a3), (3, .inr (.inl a4)), (5, .inl v5_1)]) (st' := [.inl v5_1]) (h' := gr_h I J) (C := (True ∧ True)) rfl ⟨trivial, trivial⟩ ?_
          exact gv_iret hD rfl ⟨rfl, ⟨_, rfl, by exact gz_m 18 (by omega), by exact gz_m 19 (by omega), by exact gz_m 20 (by omega), (e1_1.trans (gs_fd_f (f := (fun i => J 2 (Int.toNat (a2 + i)))) (by exact gz_m 21 (by omega)) j4)).symm⟩⟩
  refine gv_run 2 true hD (pc' := 3) (lv' := [(5, .inl 0), (0, .inr (.inr (some 2))), (1, .inl a2), (2, .inl a3), (3, .inr (.inl a4))]) (st' := []) (h' := gr_h I J) (C := ((True ∧ True) ∧ True)) rfl ⟨⟨trivial, trivial⟩, trivial⟩ ?_
  refine gv_pick [1, 2, 3, 4, 0] rfl ?_
  exact L3 _ 0 (Nat.lt_succ_self _) (by exact gz_m 22 (by omega)) (by show gs_fd (fun i => J 2 (Int.toNat (a2 + i))) a4 (Int.toNat a3) 0 = _; rw [show a3 - 0 = a3 from by exact gz_m 23 (by omega)])
set_option maxHeartbeats 8000000 in
set_option maxRecDepth 100000 in
theorem r_find_3_p {ws0 : List Cond} {tb : String → gz_T} (hws : ∀ w ∈ gr_ws, w ∈ ws0) (htb : tb RX13 = gr_T) (ext : gz_Sh) (I : gr_I) (J : gr_J) (hI : gr_Inv I) (a2 : Int) (a3 : Int) (a4 : Int64) (ha2 : 0 ≤ a2 ∧ a2 ≤ 96) (ha3 : 0 ≤ a3 ∧ a3 ≤ 96) (x0 : a2 + a3 ≤ 96) : ∃ r h', gz_Ev ws0 tb 1 (yX13_find, cX13_find, 6, (some .int)) [.inr (.inr (some 3)), .inl a2, .inl a3, .inr (.inl a4)] (gr_sh ++ ext) (gr_h I J) r (gr_sh ++ ext) h' 0 0 ∧ (h' = gr_h I J ∧ (∃ z : Int, r = some (.inl z) ∧ (-1) ≤ z ∧ z ≤ 95 ∧ (z < a3) ∧ (z = gs_find (fun i => J 3 (Int.toNat (a2 + i))) a3 a4))) := by
  have hD : gv_D (gr_E ws0 tb 0 (yX13_find, cX13_find, 6, (some .int)) kX13_find) := gq_of oX13_find
  refine gr_ev (d := 0) (l := kX13_find) (Po := fun r h' => (h' = gr_h I J ∧ (∃ z : Int, r = some (.inl z) ∧ (-1) ≤ z ∧ z ≤ 95 ∧ (z < a3) ∧ (z = gs_find (fun i => J 3 (Int.toNat (a2 + i))) a3 a4)))) htb rfl (Nat.le_of_ble_eq_true rfl) ?_
  have L3 : ∀ (n : Nat) (v5_1 : Int), (97 - v5_1).toNat < n → ((0 ≤ a2 ∧ a2 ≤ 96) ∧ (0 ≤ a3 ∧ a3 ≤ 96) ∧ (0 ≤ v5_1 ∧ v5_1 ≤ 96) ∧ (a2 + a3 ≤ 96)) → (gs_find (fun i => J 3 (Int.toNat (a2 + i))) a3 a4 = gs_fd (fun i => J 3 (Int.toNat (a2 + i))) a4 (Int.toNat (a3 - v5_1)) v5_1) → gv_X (gr_E ws0 tb 0 (yX13_find, cX13_find, 6, (some .int)) kX13_find) (gv_Q cX13_find (some .int) (gr_sh ++ ext) (fun r h' => (h' = gr_h I J ∧ (∃ z : Int, r = some (.inl z) ∧ (-1) ≤ z ∧ z ≤ 95 ∧ (z < a3) ∧ (z = gs_find (fun i => J 3 (Int.toNat (a2 + i))) a3 a4))))) (3, [(0, .inr (.inr (some 3))), (1, .inl a2), (2, .inl a3), (3, .inr (.inl a4)), (5, .inl v5_1)], [], gr_sh ++ ext, gr_h I J) := by
    intro n
    induction n with
    | zero => intro v5_1 hn; exact gz_m 0 (by omega)
    | succ n ih3 =>
      intro v5_1 hn m_1 e1_1
      obtain ⟨ha2_1, ha3_1, hv5_1, e0_1⟩ := m_1
      refine gv_run 2 true hD (pc' := 6) (lv' := [(0, .inr (.inr (some 3))), (1, .inl a2), (2, .inl a3), (3, .inr (.inl a4)), (5, .inl v5_1)]) (st' := [.inl a3, .inl v5_1]) (h' := gr_h I J) (C := ((True ∧ True) ∧ True)) rfl ⟨⟨trivial, trivial⟩, trivial⟩ ?_
      refine gv_icmp_ge (t := 29) hD rfl rfl ⟨⟨by exact gz_m 1 (by omega), by exact gz_m 2 (by omega)⟩, ⟨by exact gz_m 3 (by omega), by exact gz_m 4 (by omega)⟩⟩ (fun c2 => ?_) (fun c2 => ?_)
      · refine gv_run 1 true hD (pc' := 30) (lv' := [(0, .inr (.inr (some 3))), (1, .inl a2), (2, .inl a3), (3, .inr (.inl a4)), (5, .inl v5_1)]) (st' := [.inl (-1)]) (h' := gr_h I J) (C := (True ∧ True)) rfl ⟨trivial, trivial⟩ ?_
        exact gv_iret hD rfl ⟨rfl, ⟨_, rfl, by exact gz_m 5 (by omega), by exact gz_m 6 (by omega), by exact gz_m 7 (by omega), (e1_1.trans (gs_fd_e (by exact gz_m 8 (by omega)))).symm⟩⟩
      · refine gv_run 5 true hD (pc' := 15) (lv' := [(0, .inr (.inr (some 3))), (1, .inl a2), (2, .inl a3), (3, .inr (.inl a4)), (5, .inl v5_1)]) (st' := [.inr (.inl (J 3 (Int.toNat ((a2 + v5_1)))))]) (h' := gr_h I J) (C := (((((True ∧ True) ∧ True) ∧ True) ∧ True) ∧ (0 ≤ (a2 + v5_1) ∧ (a2 + v5_1) < ((96 : Nat) : Int)))) rfl ⟨⟨⟨⟨⟨trivial, trivial⟩, trivial⟩, trivial⟩, trivial⟩, ⟨by exact gz_m 9 (by omega), by exact gz_m 10 (by omega)⟩⟩ ?_
        have f3 := gw_cmp ((J 3 (Int.toNat ((a2 + v5_1))))) (a4)
        refine gv_run 2 true hD (pc' := 17) (lv' := [(0, .inr (.inr (some 3))), (1, .inl a2), (2, .inl a3), (3, .inr (.inl a4)), (5, .inl v5_1)]) (st' := [.inl ((lg_cmp ((J 3 (Int.toNat ((a2 + v5_1))))) (a4)).toInt)]) (h' := gr_h I J) (C := ((True ∧ True) ∧ True)) rfl ⟨⟨trivial, trivial⟩, trivial⟩ ?_
        refine gv_if_ne (t := 23) hD rfl rfl ⟨by exact gz_m 11 (by omega), by exact gz_m 12 (by omega)⟩ (fun c4 => ?_) (fun c4 => ?_)
        · have j4 := gs_cmpn (a := (J 3 (Int.toNat ((a2 + v5_1))))) (b := a4) (by exact gz_m 13 (by omega))
          refine gv_run 2 true hD (pc' := 3) (lv' := [(5, .inl (v5_1 + 1)), (0, .inr (.inr (some 3))), (1, .inl a2), (2, .inl a3), (3, .inr (.inl a4))]) (st' := []) (h' := gr_h I J) (C := ((True ∧ True) ∧ True)) rfl ⟨⟨trivial, trivial⟩, trivial⟩ ?_
          refine gv_pick [1, 2, 3, 4, 0] rfl ?_
          exact ih3 (v5_1 + 1) (by exact gz_m 14 (by omega)) (by exact gz_m 15 (by omega)) (e1_1.trans (gs_fd_s (f := (fun i => J 3 (Int.toNat (a2 + i)))) (by exact gz_m 16 (by omega)) j4))
        · have j4 := gs_cmp0 (a := (J 3 (Int.toNat ((a2 + v5_1))))) (b := a4) (by exact gz_m 17 (by omega))
          refine gv_run 1 true hD (pc' := 22) (lv' := [(0, .inr (.inr (some 3))), (1, .inl a2), (2, .inl a3), (3, .inr (.inl a4)), (5, .inl v5_1)]) (st' := [.inl v5_1]) (h' := gr_h I J) (C := (True ∧ True)) rfl ⟨trivial, trivial⟩ ?_
          exact gv_iret hD rfl ⟨rfl, ⟨_, rfl, by exact gz_m 18 (by omega), by exact gz_m 19 (by omega), by exact gz_m 20 (by omega), (e1_1.trans (gs_fd_f (f := (fun i => J 3 (Int.toNat (a2 + i)))) (by exact gz_m 21 (by omega)) j4)).symm⟩⟩
  refine gv_run 2 true hD (pc' := 3) (lv' := [(5, .inl 0), (0, .inr (.inr (some 3))), (1, .inl a2), (2, .inl a3), (3, .inr (.inl a4))]) (st' := []) (h' := gr_h I J) (C := ((True ∧ True) ∧ True)) rfl ⟨⟨trivial, trivial⟩, trivial⟩ ?_
  refine gv_pick [1, 2, 3, 4, 0] rfl ?_
  exact L3 _ 0 (Nat.lt_succ_self _) (by exact gz_m 22 (by omega)) (by show gs_fd (fun i => J 3 (Int.toNat (a2 + i))) a4 (Int.toNat a3) 0 = _; rw [show a3 - 0 = a3 from by exact gz_m 23 (by omega)])
set_option maxHeartbeats 8000000 in
set_option maxRecDepth 100000 in
theorem r_find_4_p {ws0 : List Cond} {tb : String → gz_T} (hws : ∀ w ∈ gr_ws, w ∈ ws0) (htb : tb RX13 = gr_T) (ext : gz_Sh) (I : gr_I) (J : gr_J) (hI : gr_Inv I) (a2 : Int) (a3 : Int) (a4 : Int64) (ha2 : 0 ≤ a2 ∧ a2 ≤ 8) (ha3 : 0 ≤ a3 ∧ a3 ≤ 8) (x0 : a2 + a3 ≤ 8) : ∃ r h', gz_Ev ws0 tb 1 (yX13_find, cX13_find, 6, (some .int)) [.inr (.inr (some 4)), .inl a2, .inl a3, .inr (.inl a4)] (gr_sh ++ ext) (gr_h I J) r (gr_sh ++ ext) h' 0 0 ∧ (h' = gr_h I J ∧ (∃ z : Int, r = some (.inl z) ∧ (-1) ≤ z ∧ z ≤ 7 ∧ (z < a3) ∧ (z = gs_find (fun i => J 4 (Int.toNat (a2 + i))) a3 a4))) := by
  have hD : gv_D (gr_E ws0 tb 0 (yX13_find, cX13_find, 6, (some .int)) kX13_find) := gq_of oX13_find
  refine gr_ev (d := 0) (l := kX13_find) (Po := fun r h' => (h' = gr_h I J ∧ (∃ z : Int, r = some (.inl z) ∧ (-1) ≤ z ∧ z ≤ 7 ∧ (z < a3) ∧ (z = gs_find (fun i => J 4 (Int.toNat (a2 + i))) a3 a4)))) htb rfl (Nat.le_of_ble_eq_true rfl) ?_
  have L3 : ∀ (n : Nat) (v5_1 : Int), (9 - v5_1).toNat < n → ((0 ≤ a2 ∧ a2 ≤ 8) ∧ (0 ≤ a3 ∧ a3 ≤ 8) ∧ (0 ≤ v5_1 ∧ v5_1 ≤ 8) ∧ (a2 + a3 ≤ 8)) → (gs_find (fun i => J 4 (Int.toNat (a2 + i))) a3 a4 = gs_fd (fun i => J 4 (Int.toNat (a2 + i))) a4 (Int.toNat (a3 - v5_1)) v5_1) → gv_X (gr_E ws0 tb 0 (yX13_find, cX13_find, 6, (some .int)) kX13_find) (gv_Q cX13_find (some .int) (gr_sh ++ ext) (fun r h' => (h' = gr_h I J ∧ (∃ z : Int, r = some (.inl z) ∧ (-1) ≤ z ∧ z ≤ 7 ∧ (z < a3) ∧ (z = gs_find (fun i => J 4 (Int.toNat (a2 + i))) a3 a4))))) (3, [(0, .inr (.inr (some 4))), (1, .inl a2), (2, .inl a3), (3, .inr (.inl a4)), (5, .inl v5_1)], [], gr_sh ++ ext, gr_h I J) := by
    intro n
    induction n with
    | zero => intro v5_1 hn; exact gz_m 0 (by omega)
    | succ n ih3 =>
      intro v5_1 hn m_1 e1_1
      obtain ⟨ha2_1, ha3_1, hv5_1, e0_1⟩ := m_1
      refine gv_run 2 true hD (pc' := 6) (lv' := [(0, .inr (.inr (some 4))), (1, .inl a2), (2, .inl a3), (3, .inr (.inl a4)), (5, .inl v5_1)]) (st' := [.inl a3, .inl v5_1]) (h' := gr_h I J) (C := ((True ∧ True) ∧ True)) rfl ⟨⟨trivial, trivial⟩, trivial⟩ ?_
      refine gv_icmp_ge (t := 29) hD rfl rfl ⟨⟨by exact gz_m 1 (by omega), by exact gz_m 2 (by omega)⟩, ⟨by exact gz_m 3 (by omega), by exact gz_m 4 (by omega)⟩⟩ (fun c2 => ?_) (fun c2 => ?_)
      · refine gv_run 1 true hD (pc' := 30) (lv' := [(0, .inr (.inr (some 4))), (1, .inl a2), (2, .inl a3), (3, .inr (.inl a4)), (5, .inl v5_1)]) (st' := [.inl (-1)]) (h' := gr_h I J) (C := (True ∧ True)) rfl ⟨trivial, trivial⟩ ?_
        exact gv_iret hD rfl ⟨rfl, ⟨_, rfl, by exact gz_m 5 (by omega), by exact gz_m 6 (by omega), by exact gz_m 7 (by omega), (e1_1.trans (gs_fd_e (by exact gz_m 8 (by omega)))).symm⟩⟩
      · refine gv_run 5 true hD (pc' := 15) (lv' := [(0, .inr (.inr (some 4))), (1, .inl a2), (2, .inl a3), (3, .inr (.inl a4)), (5, .inl v5_1)]) (st' := [.inr (.inl (J 4 (Int.toNat ((a2 + v5_1)))))]) (h' := gr_h I J) (C := (((((True ∧ True) ∧ True) ∧ True) ∧ True) ∧ (0 ≤ (a2 + v5_1) ∧ (a2 + v5_1) < ((8 : Nat) : Int)))) rfl ⟨⟨⟨⟨⟨trivial, trivial⟩, trivial⟩, trivial⟩, trivial⟩, ⟨by exact gz_m 9 (by omega), by exact gz_m 10 (by omega)⟩⟩ ?_
        have f3 := gw_cmp ((J 4 (Int.toNat ((a2 + v5_1))))) (a4)
        refine gv_run 2 true hD (pc' := 17) (lv' := [(0, .inr (.inr (some 4))), (1, .inl a2), (2, .inl a3), (3, .inr (.inl a4)), (5, .inl v5_1)]) (st' := [.inl ((lg_cmp ((J 4 (Int.toNat ((a2 + v5_1))))) (a4)).toInt)]) (h' := gr_h I J) (C := ((True ∧ True) ∧ True)) rfl ⟨⟨trivial, trivial⟩, trivial⟩ ?_
        refine gv_if_ne (t := 23) hD rfl rfl ⟨by exact gz_m 11 (by omega), by exact gz_m 12 (by omega)⟩ (fun c4 => ?_) (fun c4 => ?_)
        · have j4 := gs_cmpn (a := (J 4 (Int.toNat ((a2 + v5_1))))) (b := a4) (by exact gz_m 13 (by omega))
          refine gv_run 2 true hD (pc' := 3) (lv' := [(5, .inl (v5_1 + 1)), (0, .inr (.inr (some 4))), (1, .inl a2), (2, .inl a3), (3, .inr (.inl a4))]) (st' := []) (h' := gr_h I J) (C := ((True ∧ True) ∧ True)) rfl ⟨⟨trivial, trivial⟩, trivial⟩ ?_
          refine gv_pick [1, 2, 3, 4, 0] rfl ?_
          exact ih3 (v5_1 + 1) (by exact gz_m 14 (by omega)) (by exact gz_m 15 (by omega)) (e1_1.trans (gs_fd_s (f := (fun i => J 4 (Int.toNat (a2 + i)))) (by exact gz_m 16 (by omega)) j4))
        · have j4 := gs_cmp0 (a := (J 4 (Int.toNat ((a2 + v5_1))))) (b := a4) (by exact gz_m 17 (by omega))
          refine gv_run 1 true hD (pc' := 22) (lv' := [(0, .inr (.inr (some 4))), (1, .inl a2), (2, .inl a3), (3, .inr (.inl a4)), (5, .inl v5_1)]) (st' := [.inl v5_1]) (h' := gr_h I J) (C := (True ∧ True)) rfl ⟨trivial, trivial⟩ ?_
          exact gv_iret hD rfl ⟨rfl, ⟨_, rfl, by exact gz_m 18 (by omega), by exact gz_m 19 (by omega), by exact gz_m 20 (by omega), (e1_1.trans (gs_fd_f (f := (fun i => J 4 (Int.toNat (a2 + i)))) (by exact gz_m 21 (by omega)) j4)).symm⟩⟩
  refine gv_run 2 true hD (pc' := 3) (lv' := [(5, .inl 0), (0, .inr (.inr (some 4))), (1, .inl a2), (2, .inl a3), (3, .inr (.inl a4))]) (st' := []) (h' := gr_h I J) (C := ((True ∧ True) ∧ True)) rfl ⟨⟨trivial, trivial⟩, trivial⟩ ?_
  refine gv_pick [1, 2, 3, 4, 0] rfl ?_
  exact L3 _ 0 (Nat.lt_succ_self _) (by exact gz_m 22 (by omega)) (by show gs_fd (fun i => J 4 (Int.toNat (a2 + i))) a4 (Int.toNat a3) 0 = _; rw [show a3 - 0 = a3 from by exact gz_m 23 (by omega)])
set_option maxHeartbeats 8000000 in
set_option maxRecDepth 100000 in
theorem r_find_20_p {ws0 : List Cond} {tb : String → gz_T} (hws : ∀ w ∈ gr_ws, w ∈ ws0) (htb : tb RX13 = gr_T) (ext : gz_Sh) (I : gr_I) (J : gr_J) (hI : gr_Inv I) (a2 : Int) (a3 : Int) (a4 : Int64) (ha2 : 0 ≤ a2 ∧ a2 ≤ 64) (ha3 : 0 ≤ a3 ∧ a3 ≤ 64) (x0 : a2 + a3 ≤ 64) : ∃ r h', gz_Ev ws0 tb 1 (yX13_find, cX13_find, 6, (some .int)) [.inr (.inr (some 20)), .inl a2, .inl a3, .inr (.inl a4)] (gr_sh ++ ext) (gr_h I J) r (gr_sh ++ ext) h' 0 0 ∧ (h' = gr_h I J ∧ (∃ z : Int, r = some (.inl z) ∧ (-1) ≤ z ∧ z ≤ 63 ∧ (z < a3) ∧ (z = gs_find (fun i => J 20 (Int.toNat (a2 + i))) a3 a4))) := by
  have hD : gv_D (gr_E ws0 tb 0 (yX13_find, cX13_find, 6, (some .int)) kX13_find) := gq_of oX13_find
  refine gr_ev (d := 0) (l := kX13_find) (Po := fun r h' => (h' = gr_h I J ∧ (∃ z : Int, r = some (.inl z) ∧ (-1) ≤ z ∧ z ≤ 63 ∧ (z < a3) ∧ (z = gs_find (fun i => J 20 (Int.toNat (a2 + i))) a3 a4)))) htb rfl (Nat.le_of_ble_eq_true rfl) ?_
  have L3 : ∀ (n : Nat) (v5_1 : Int), (65 - v5_1).toNat < n → ((0 ≤ a2 ∧ a2 ≤ 64) ∧ (0 ≤ a3 ∧ a3 ≤ 64) ∧ (0 ≤ v5_1 ∧ v5_1 ≤ 64) ∧ (a2 + a3 ≤ 64)) → (gs_find (fun i => J 20 (Int.toNat (a2 + i))) a3 a4 = gs_fd (fun i => J 20 (Int.toNat (a2 + i))) a4 (Int.toNat (a3 - v5_1)) v5_1) → gv_X (gr_E ws0 tb 0 (yX13_find, cX13_find, 6, (some .int)) kX13_find) (gv_Q cX13_find (some .int) (gr_sh ++ ext) (fun r h' => (h' = gr_h I J ∧ (∃ z : Int, r = some (.inl z) ∧ (-1) ≤ z ∧ z ≤ 63 ∧ (z < a3) ∧ (z = gs_find (fun i => J 20 (Int.toNat (a2 + i))) a3 a4))))) (3, [(0, .inr (.inr (some 20))), (1, .inl a2), (2, .inl a3), (3, .inr (.inl a4)), (5, .inl v5_1)], [], gr_sh ++ ext, gr_h I J) := by
    intro n
    induction n with
    | zero => intro v5_1 hn; exact gz_m 0 (by omega)
    | succ n ih3 =>
      intro v5_1 hn m_1 e1_1
      obtain ⟨ha2_1, ha3_1, hv5_1, e0_1⟩ := m_1
      refine gv_run 2 true hD (pc' := 6) (lv' := [(0, .inr (.inr (some 20))), (1, .inl a2), (2, .inl a3), (3, .inr (.inl a4)), (5, .inl v5_1)]) (st' := [.inl a3, .inl v5_1]) (h' := gr_h I J) (C := ((True ∧ True) ∧ True)) rfl ⟨⟨trivial, trivial⟩, trivial⟩ ?_
      refine gv_icmp_ge (t := 29) hD rfl rfl ⟨⟨by exact gz_m 1 (by omega), by exact gz_m 2 (by omega)⟩, ⟨by exact gz_m 3 (by omega), by exact gz_m 4 (by omega)⟩⟩ (fun c2 => ?_) (fun c2 => ?_)
      · refine gv_run 1 true hD (pc' := 30) (lv' := [(0, .inr (.inr (some 20))), (1, .inl a2), (2, .inl a3), (3, .inr (.inl a4)), (5, .inl v5_1)]) (st' := [.inl (-1)]) (h' := gr_h I J) (C := (True ∧ True)) rfl ⟨trivial, trivial⟩ ?_
        exact gv_iret hD rfl ⟨rfl, ⟨_, rfl, by exact gz_m 5 (by omega), by exact gz_m 6 (by omega), by exact gz_m 7 (by omega), (e1_1.trans (gs_fd_e (by exact gz_m 8 (by omega)))).symm⟩⟩
      · refine gv_run 5 true hD (pc' := 15) (lv' := [(0, .inr (.inr (some 20))), (1, .inl a2), (2, .inl a3), (3, .inr (.inl a4)), (5, .inl v5_1)]) (st' := [.inr (.inl (J 20 (Int.toNat ((a2 + v5_1)))))]) (h' := gr_h I J) (C := (((((True ∧ True) ∧ True) ∧ True) ∧ True) ∧ (0 ≤ (a2 + v5_1) ∧ (a2 + v5_1) < ((64 : Nat) : Int)))) rfl ⟨⟨⟨⟨⟨trivial, trivial⟩, trivial⟩, trivial⟩, trivial⟩, ⟨by exact gz_m 9 (by omega), by exact gz_m 10 (by omega)⟩⟩ ?_
        have f3 := gw_cmp ((J 20 (Int.toNat ((a2 + v5_1))))) (a4)
        refine gv_run 2 true hD (pc' := 17) (lv' := [(0, .inr (.inr (some 20))), (1, .inl a2), (2, .inl a3), (3, .inr (.inl a4)), (5, .inl v5_1)]) (st' := [.inl ((lg_cmp ((J 20 (Int.toNat ((a2 + v5_1))))) (a4)).toInt)]) (h' := gr_h I J) (C := ((True ∧ True) ∧ True)) rfl ⟨⟨trivial, trivial⟩, trivial⟩ ?_
        refine gv_if_ne (t := 23) hD rfl rfl ⟨by exact gz_m 11 (by omega), by exact gz_m 12 (by omega)⟩ (fun c4 => ?_) (fun c4 => ?_)
        · have j4 := gs_cmpn (a := (J 20 (Int.toNat ((a2 + v5_1))))) (b := a4) (by exact gz_m 13 (by omega))
          refine gv_run 2 true hD (pc' := 3) (lv' := [(5, .inl (v5_1 + 1)), (0, .inr (.inr (some 20))), (1, .inl a2), (2, .inl a3), (3, .inr (.inl a4))]) (st' := []) (h' := gr_h I J) (C := ((True ∧ True) ∧ True)) rfl ⟨⟨trivial, trivial⟩, trivial⟩ ?_
          refine gv_pick [1, 2, 3, 4, 0] rfl ?_
          exact ih3 (v5_1 + 1) (by exact gz_m 14 (by omega)) (by exact gz_m 15 (by omega)) (e1_1.trans (gs_fd_s (f := (fun i => J 20 (Int.toNat (a2 + i)))) (by exact gz_m 16 (by omega)) j4))
        · have j4 := gs_cmp0 (a := (J 20 (Int.toNat ((a2 + v5_1))))) (b := a4) (by exact gz_m 17 (by omega))
          refine gv_run 1 true hD (pc' := 22) (lv' := [(0, .inr (.inr (some 20))), (1, .inl a2), (2, .inl a3), (3, .inr (.inl a4)), (5, .inl v5_1)]) (st' := [.inl v5_1]) (h' := gr_h I J) (C := (True ∧ True)) rfl ⟨trivial, trivial⟩ ?_
          exact gv_iret hD rfl ⟨rfl, ⟨_, rfl, by exact gz_m 18 (by omega), by exact gz_m 19 (by omega), by exact gz_m 20 (by omega), (e1_1.trans (gs_fd_f (f := (fun i => J 20 (Int.toNat (a2 + i)))) (by exact gz_m 21 (by omega)) j4)).symm⟩⟩
  refine gv_run 2 true hD (pc' := 3) (lv' := [(5, .inl 0), (0, .inr (.inr (some 20))), (1, .inl a2), (2, .inl a3), (3, .inr (.inl a4))]) (st' := []) (h' := gr_h I J) (C := ((True ∧ True) ∧ True)) rfl ⟨⟨trivial, trivial⟩, trivial⟩ ?_
  refine gv_pick [1, 2, 3, 4, 0] rfl ?_
  exact L3 _ 0 (Nat.lt_succ_self _) (by exact gz_m 22 (by omega)) (by show gs_fd (fun i => J 20 (Int.toNat (a2 + i))) a4 (Int.toNat a3) 0 = _; rw [show a3 - 0 = a3 from by exact gz_m 23 (by omega)])
set_option maxHeartbeats 8000000 in
set_option maxRecDepth 100000 in
theorem r_find_21_p {ws0 : List Cond} {tb : String → gz_T} (hws : ∀ w ∈ gr_ws, w ∈ ws0) (htb : tb RX13 = gr_T) (ext : gz_Sh) (I : gr_I) (J : gr_J) (hI : gr_Inv I) (a2 : Int) (a3 : Int) (a4 : Int64) (ha2 : 0 ≤ a2 ∧ a2 ≤ 384) (ha3 : 0 ≤ a3 ∧ a3 ≤ 384) (x0 : a2 + a3 ≤ 384) : ∃ r h', gz_Ev ws0 tb 1 (yX13_find, cX13_find, 6, (some .int)) [.inr (.inr (some 21)), .inl a2, .inl a3, .inr (.inl a4)] (gr_sh ++ ext) (gr_h I J) r (gr_sh ++ ext) h' 0 0 ∧ (h' = gr_h I J ∧ (∃ z : Int, r = some (.inl z) ∧ (-1) ≤ z ∧ z ≤ 383 ∧ (z < a3) ∧ (z = gs_find (fun i => J 21 (Int.toNat (a2 + i))) a3 a4))) := by
  have hD : gv_D (gr_E ws0 tb 0 (yX13_find, cX13_find, 6, (some .int)) kX13_find) := gq_of oX13_find
  refine gr_ev (d := 0) (l := kX13_find) (Po := fun r h' => (h' = gr_h I J ∧ (∃ z : Int, r = some (.inl z) ∧ (-1) ≤ z ∧ z ≤ 383 ∧ (z < a3) ∧ (z = gs_find (fun i => J 21 (Int.toNat (a2 + i))) a3 a4)))) htb rfl (Nat.le_of_ble_eq_true rfl) ?_
  have L3 : ∀ (n : Nat) (v5_1 : Int), (385 - v5_1).toNat < n → ((0 ≤ a2 ∧ a2 ≤ 384) ∧ (0 ≤ a3 ∧ a3 ≤ 384) ∧ (0 ≤ v5_1 ∧ v5_1 ≤ 384) ∧ (a2 + a3 ≤ 384)) → (gs_find (fun i => J 21 (Int.toNat (a2 + i))) a3 a4 = gs_fd (fun i => J 21 (Int.toNat (a2 + i))) a4 (Int.toNat (a3 - v5_1)) v5_1) → gv_X (gr_E ws0 tb 0 (yX13_find, cX13_find, 6, (some .int)) kX13_find) (gv_Q cX13_find (some .int) (gr_sh ++ ext) (fun r h' => (h' = gr_h I J ∧ (∃ z : Int, r = some (.inl z) ∧ (-1) ≤ z ∧ z ≤ 383 ∧ (z < a3) ∧ (z = gs_find (fun i => J 21 (Int.toNat (a2 + i))) a3 a4))))) (3, [(0, .inr (.inr (some 21))), (1, .inl a2), (2, .inl a3), (3, .inr (.inl a4)), (5, .inl v5_1)], [], gr_sh ++ ext, gr_h I J) := by
    intro n
    induction n with
    | zero => intro v5_1 hn; exact gz_m 0 (by omega)
    | succ n ih3 =>
      intro v5_1 hn m_1 e1_1
      obtain ⟨ha2_1, ha3_1, hv5_1, e0_1⟩ := m_1
      refine gv_run 2 true hD (pc' := 6) (lv' := [(0, .inr (.inr (some 21))), (1, .inl a2), (2, .inl a3), (3, .inr (.inl a4)), (5, .inl v5_1)]) (st' := [.inl a3, .inl v5_1]) (h' := gr_h I J) (C := ((True ∧ True) ∧ True)) rfl ⟨⟨trivial, trivial⟩, trivial⟩ ?_
      refine gv_icmp_ge (t := 29) hD rfl rfl ⟨⟨by exact gz_m 1 (by omega), by exact gz_m 2 (by omega)⟩, ⟨by exact gz_m 3 (by omega), by exact gz_m 4 (by omega)⟩⟩ (fun c2 => ?_) (fun c2 => ?_)
      · refine gv_run 1 true hD (pc' := 30) (lv' := [(0, .inr (.inr (some 21))), (1, .inl a2), (2, .inl a3), (3, .inr (.inl a4)), (5, .inl v5_1)]) (st' := [.inl (-1)]) (h' := gr_h I J) (C := (True ∧ True)) rfl ⟨trivial, trivial⟩ ?_
        exact gv_iret hD rfl ⟨rfl, ⟨_, rfl, by exact gz_m 5 (by omega), by exact gz_m 6 (by omega), by exact gz_m 7 (by omega), (e1_1.trans (gs_fd_e (by exact gz_m 8 (by omega)))).symm⟩⟩
      · refine gv_run 5 true hD (pc' := 15) (lv' := [(0, .inr (.inr (some 21))), (1, .inl a2), (2, .inl a3), (3, .inr (.inl a4)), (5, .inl v5_1)]) (st' := [.inr (.inl (J 21 (Int.toNat ((a2 + v5_1)))))]) (h' := gr_h I J) (C := (((((True ∧ True) ∧ True) ∧ True) ∧ True) ∧ (0 ≤ (a2 + v5_1) ∧ (a2 + v5_1) < ((384 : Nat) : Int)))) rfl ⟨⟨⟨⟨⟨trivial, trivial⟩, trivial⟩, trivial⟩, trivial⟩, ⟨by exact gz_m 9 (by omega), by exact gz_m 10 (by omega)⟩⟩ ?_
        have f3 := gw_cmp ((J 21 (Int.toNat ((a2 + v5_1))))) (a4)
        refine gv_run 2 true hD (pc' := 17) (lv' := [(0, .inr (.inr (some 21))), (1, .inl a2), (2, .inl a3), (3, .inr (.inl a4)), (5, .inl v5_1)]) (st' := [.inl ((lg_cmp ((J 21 (Int.toNat ((a2 + v5_1))))) (a4)).toInt)]) (h' := gr_h I J) (C := ((True ∧ True) ∧ True)) rfl ⟨⟨trivial, trivial⟩, trivial⟩ ?_
        refine gv_if_ne (t := 23) hD rfl rfl ⟨by exact gz_m 11 (by omega), by exact gz_m 12 (by omega)⟩ (fun c4 => ?_) (fun c4 => ?_)
        · have j4 := gs_cmpn (a := (J 21 (Int.toNat ((a2 + v5_1))))) (b := a4) (by exact gz_m 13 (by omega))
          refine gv_run 2 true hD (pc' := 3) (lv' := [(5, .inl (v5_1 + 1)), (0, .inr (.inr (some 21))), (1, .inl a2), (2, .inl a3), (3, .inr (.inl a4))]) (st' := []) (h' := gr_h I J) (C := ((True ∧ True) ∧ True)) rfl ⟨⟨trivial, trivial⟩, trivial⟩ ?_
          refine gv_pick [1, 2, 3, 4, 0] rfl ?_
          exact ih3 (v5_1 + 1) (by exact gz_m 14 (by omega)) (by exact gz_m 15 (by omega)) (e1_1.trans (gs_fd_s (f := (fun i => J 21 (Int.toNat (a2 + i)))) (by exact gz_m 16 (by omega)) j4))
        · have j4 := gs_cmp0 (a := (J 21 (Int.toNat ((a2 + v5_1))))) (b := a4) (by exact gz_m 17 (by omega))
          refine gv_run 1 true hD (pc' := 22) (lv' := [(0, .inr (.inr (some 21))), (1, .inl a2), (2, .inl a3), (3, .inr (.inl a4)), (5, .inl v5_1)]) (st' := [.inl v5_1]) (h' := gr_h I J) (C := (True ∧ True)) rfl ⟨trivial, trivial⟩ ?_
          exact gv_iret hD rfl ⟨rfl, ⟨_, rfl, by exact gz_m 18 (by omega), by exact gz_m 19 (by omega), by exact gz_m 20 (by omega), (e1_1.trans (gs_fd_f (f := (fun i => J 21 (Int.toNat (a2 + i)))) (by exact gz_m 21 (by omega)) j4)).symm⟩⟩
  refine gv_run 2 true hD (pc' := 3) (lv' := [(5, .inl 0), (0, .inr (.inr (some 21))), (1, .inl a2), (2, .inl a3), (3, .inr (.inl a4))]) (st' := []) (h' := gr_h I J) (C := ((True ∧ True) ∧ True)) rfl ⟨⟨trivial, trivial⟩, trivial⟩ ?_
  refine gv_pick [1, 2, 3, 4, 0] rfl ?_
  exact L3 _ 0 (Nat.lt_succ_self _) (by exact gz_m 22 (by omega)) (by show gs_fd (fun i => J 21 (Int.toNat (a2 + i))) a4 (Int.toNat a3) 0 = _; rw [show a3 - 0 = a3 from by exact gz_m 23 (by omega)])
set_option maxHeartbeats 8000000 in
set_option maxRecDepth 100000 in
theorem r_find_22_p {ws0 : List Cond} {tb : String → gz_T} (hws : ∀ w ∈ gr_ws, w ∈ ws0) (htb : tb RX13 = gr_T) (ext : gz_Sh) (I : gr_I) (J : gr_J) (hI : gr_Inv I) (a2 : Int) (a3 : Int) (a4 : Int64) (ha2 : 0 ≤ a2 ∧ a2 ≤ 128) (ha3 : 0 ≤ a3 ∧ a3 ≤ 128) (x0 : a2 + a3 ≤ 128) : ∃ r h', gz_Ev ws0 tb 1 (yX13_find, cX13_find, 6, (some .int)) [.inr (.inr (some 22)), .inl a2, .inl a3, .inr (.inl a4)] (gr_sh ++ ext) (gr_h I J) r (gr_sh ++ ext) h' 0 0 ∧ (h' = gr_h I J ∧ (∃ z : Int, r = some (.inl z) ∧ (-1) ≤ z ∧ z ≤ 127 ∧ (z < a3) ∧ (z = gs_find (fun i => J 22 (Int.toNat (a2 + i))) a3 a4))) := by
  have hD : gv_D (gr_E ws0 tb 0 (yX13_find, cX13_find, 6, (some .int)) kX13_find) := gq_of oX13_find
  refine gr_ev (d := 0) (l := kX13_find) (Po := fun r h' => (h' = gr_h I J ∧ (∃ z : Int, r = some (.inl z) ∧ (-1) ≤ z ∧ z ≤ 127 ∧ (z < a3) ∧ (z = gs_find (fun i => J 22 (Int.toNat (a2 + i))) a3 a4)))) htb rfl (Nat.le_of_ble_eq_true rfl) ?_
  have L3 : ∀ (n : Nat) (v5_1 : Int), (129 - v5_1).toNat < n → ((0 ≤ a2 ∧ a2 ≤ 128) ∧ (0 ≤ a3 ∧ a3 ≤ 128) ∧ (0 ≤ v5_1 ∧ v5_1 ≤ 128) ∧ (a2 + a3 ≤ 128)) → (gs_find (fun i => J 22 (Int.toNat (a2 + i))) a3 a4 = gs_fd (fun i => J 22 (Int.toNat (a2 + i))) a4 (Int.toNat (a3 - v5_1)) v5_1) → gv_X (gr_E ws0 tb 0 (yX13_find, cX13_find, 6, (some .int)) kX13_find) (gv_Q cX13_find (some .int) (gr_sh ++ ext) (fun r h' => (h' = gr_h I J ∧ (∃ z : Int, r = some (.inl z) ∧ (-1) ≤ z ∧ z ≤ 127 ∧ (z < a3) ∧ (z = gs_find (fun i => J 22 (Int.toNat (a2 + i))) a3 a4))))) (3, [(0, .inr (.inr (some 22))), (1, .inl a2), (2, .inl a3), (3, .inr (.inl a4)), (5, .inl v5_1)], [], gr_sh ++ ext, gr_h I J) := by
    intro n
    induction n with
    | zero => intro v5_1 hn; exact gz_m 0 (by omega)
    | succ n ih3 =>
      intro v5_1 hn m_1 e1_1
      obtain ⟨ha2_1, ha3_1, hv5_1, e0_1⟩ := m_1
      refine gv_run 2 true hD (pc' := 6) (lv' := [(0, .inr (.inr (some 22))), (1, .inl a2), (2, .inl a3), (3, .inr (.inl a4)), (5, .inl v5_1)]) (st' := [.inl a3, .inl v5_1]) (h' := gr_h I J) (C := ((True ∧ True) ∧ True)) rfl ⟨⟨trivial, trivial⟩, trivial⟩ ?_
      refine gv_icmp_ge (t := 29) hD rfl rfl ⟨⟨by exact gz_m 1 (by omega), by exact gz_m 2 (by omega)⟩, ⟨by exact gz_m 3 (by omega), by exact gz_m 4 (by omega)⟩⟩ (fun c2 => ?_) (fun c2 => ?_)
      · refine gv_run 1 true hD (pc' := 30) (lv' := [(0, .inr (.inr (some 22))), (1, .inl a2), (2, .inl a3), (3, .inr (.inl a4)), (5, .inl v5_1)]) (st' := [.inl (-1)]) (h' := gr_h I J) (C := (True ∧ True)) rfl ⟨trivial, trivial⟩ ?_
        exact gv_iret hD rfl ⟨rfl, ⟨_, rfl, by exact gz_m 5 (by omega), by exact gz_m 6 (by omega), by exact gz_m 7 (by omega), (e1_1.trans (gs_fd_e (by exact gz_m 8 (by omega)))).symm⟩⟩
      · refine gv_run 5 true hD (pc' := 15) (lv' := [(0, .inr (.inr (some 22))), (1, .inl a2), (2, .inl a3), (3, .inr (.inl a4)), (5, .inl v5_1)]) (st' := [.inr (.inl (J 22 (Int.toNat ((a2 + v5_1)))))]) (h' := gr_h I J) (C := (((((True ∧ True) ∧ True) ∧ True) ∧ True) ∧ (0 ≤ (a2 + v5_1) ∧ (a2 + v5_1) < ((128 : Nat) : Int)))) rfl ⟨⟨⟨⟨⟨trivial, trivial⟩, trivial⟩, trivial⟩, trivial⟩, ⟨by exact gz_m 9 (by omega), by exact gz_m 10 (by omega)⟩⟩ ?_
        have f3 := gw_cmp ((J 22 (Int.toNat ((a2 + v5_1))))) (a4)
        refine gv_run 2 true hD (pc' := 17) (lv' := [(0, .inr (.inr (some 22))), (1, .inl a2), (2, .inl a3), (3, .inr (.inl a4)), (5, .inl v5_1)]) (st' := [.inl ((lg_cmp ((J 22 (Int.toNat ((a2 + v5_1))))) (a4)).toInt)]) (h' := gr_h I J) (C := ((True ∧ True) ∧ True)) rfl ⟨⟨trivial, trivial⟩, trivial⟩ ?_
        refine gv_if_ne (t := 23) hD rfl rfl ⟨by exact gz_m 11 (by omega), by exact gz_m 12 (by omega)⟩ (fun c4 => ?_) (fun c4 => ?_)
        · have j4 := gs_cmpn (a := (J 22 (Int.toNat ((a2 + v5_1))))) (b := a4) (by exact gz_m 13 (by omega))
          refine gv_run 2 true hD (pc' := 3) (lv' := [(5, .inl (v5_1 + 1)), (0, .inr (.inr (some 22))), (1, .inl a2), (2, .inl a3), (3, .inr (.inl a4))]) (st' := []) (h' := gr_h I J) (C := ((True ∧ True) ∧ True)) rfl ⟨⟨trivial, trivial⟩, trivial⟩ ?_
          refine gv_pick [1, 2, 3, 4, 0] rfl ?_
          exact ih3 (v5_1 + 1) (by exact gz_m 14 (by omega)) (by exact gz_m 15 (by omega)) (e1_1.trans (gs_fd_s (f := (fun i => J 22 (Int.toNat (a2 + i)))) (by exact gz_m 16 (by omega)) j4))
        · have j4 := gs_cmp0 (a := (J 22 (Int.toNat ((a2 + v5_1))))) (b := a4) (by exact gz_m 17 (by omega))
          refine gv_run 1 true hD (pc' := 22) (lv' := [(0, .inr (.inr (some 22))), (1, .inl a2), (2, .inl a3), (3, .inr (.inl a4)), (5, .inl v5_1)]) (st' := [.inl v5_1]) (h' := gr_h I J) (C := (True ∧ True)) rfl ⟨trivial, trivial⟩ ?_
          exact gv_iret hD rfl ⟨rfl, ⟨_, rfl, by exact gz_m 18 (by omega), by exact gz_m 19 (by omega), by exact gz_m 20 (by omega), (e1_1.trans (gs_fd_f (f := (fun i => J 22 (Int.toNat (a2 + i)))) (by exact gz_m 21 (by omega)) j4)).symm⟩⟩
  refine gv_run 2 true hD (pc' := 3) (lv' := [(5, .inl 0), (0, .inr (.inr (some 22))), (1, .inl a2), (2, .inl a3), (3, .inr (.inl a4))]) (st' := []) (h' := gr_h I J) (C := ((True ∧ True) ∧ True)) rfl ⟨⟨trivial, trivial⟩, trivial⟩ ?_
  refine gv_pick [1, 2, 3, 4, 0] rfl ?_
  exact L3 _ 0 (Nat.lt_succ_self _) (by exact gz_m 22 (by omega)) (by show gs_fd (fun i => J 22 (Int.toNat (a2 + i))) a4 (Int.toNat a3) 0 = _; rw [show a3 - 0 = a3 from by exact gz_m 23 (by omega)])
set_option maxHeartbeats 8000000 in
set_option maxRecDepth 100000 in
theorem r_find_23_p {ws0 : List Cond} {tb : String → gz_T} (hws : ∀ w ∈ gr_ws, w ∈ ws0) (htb : tb RX13 = gr_T) (ext : gz_Sh) (I : gr_I) (J : gr_J) (hI : gr_Inv I) (a2 : Int) (a3 : Int) (a4 : Int64) (ha2 : 0 ≤ a2 ∧ a2 ≤ 192) (ha3 : 0 ≤ a3 ∧ a3 ≤ 192) (x0 : a2 + a3 ≤ 192) : ∃ r h', gz_Ev ws0 tb 1 (yX13_find, cX13_find, 6, (some .int)) [.inr (.inr (some 23)), .inl a2, .inl a3, .inr (.inl a4)] (gr_sh ++ ext) (gr_h I J) r (gr_sh ++ ext) h' 0 0 ∧ (h' = gr_h I J ∧ (∃ z : Int, r = some (.inl z) ∧ (-1) ≤ z ∧ z ≤ 191 ∧ (z < a3) ∧ (z = gs_find (fun i => J 23 (Int.toNat (a2 + i))) a3 a4))) := by
  have hD : gv_D (gr_E ws0 tb 0 (yX13_find, cX13_find, 6, (some .int)) kX13_find) := gq_of oX13_find
  refine gr_ev (d := 0) (l := kX13_find) (Po := fun r h' => (h' = gr_h I J ∧ (∃ z : Int, r = some (.inl z) ∧ (-1) ≤ z ∧ z ≤ 191 ∧ (z < a3) ∧ (z = gs_find (fun i => J 23 (Int.toNat (a2 + i))) a3 a4)))) htb rfl (Nat.le_of_ble_eq_true rfl) ?_
  have L3 : ∀ (n : Nat) (v5_1 : Int), (193 - v5_1).toNat < n → ((0 ≤ a2 ∧ a2 ≤ 192) ∧ (0 ≤ a3 ∧ a3 ≤ 192) ∧ (0 ≤ v5_1 ∧ v5_1 ≤ 192) ∧ (a2 + a3 ≤ 192)) → (gs_find (fun i => J 23 (Int.toNat (a2 + i))) a3 a4 = gs_fd (fun i => J 23 (Int.toNat (a2 + i))) a4 (Int.toNat (a3 - v5_1)) v5_1) → gv_X (gr_E ws0 tb 0 (yX13_find, cX13_find, 6, (some .int)) kX13_find) (gv_Q cX13_find (some .int) (gr_sh ++ ext) (fun r h' => (h' = gr_h I J ∧ (∃ z : Int, r = some (.inl z) ∧ (-1) ≤ z ∧ z ≤ 191 ∧ (z < a3) ∧ (z = gs_find (fun i => J 23 (Int.toNat (a2 + i))) a3 a4))))) (3, [(0, .inr (.inr (some 23))), (1, .inl a2), (2, .inl a3), (3, .inr (.inl a4)), (5, .inl v5_1)], [], gr_sh ++ ext, gr_h I J) := by
    intro n
    induction n with
    | zero => intro v5_1 hn; exact gz_m 0 (by omega)
    | succ n ih3 =>
      intro v5_1 hn m_1 e1_1
      obtain ⟨ha2_1, ha3_1, hv5_1, e0_1⟩ := m_1
      refine gv_run 2 true hD (pc' := 6) (lv' := [(0, .inr (.inr (some 23))), (1, .inl a2), (2, .inl a3), (3, .inr (.inl a4)), (5, .inl v5_1)]) (st' := [.inl a3, .inl v5_1]) (h' := gr_h I J) (C := ((True ∧ True) ∧ True)) rfl ⟨⟨trivial, trivial⟩, trivial⟩ ?_
      refine gv_icmp_ge (t := 29) hD rfl rfl ⟨⟨by exact gz_m 1 (by omega), by exact gz_m 2 (by omega)⟩, ⟨by exact gz_m 3 (by omega), by exact gz_m 4 (by omega)⟩⟩ (fun c2 => ?_) (fun c2 => ?_)
      · refine gv_run 1 true hD (pc' := 30) (lv' := [(0, .inr (.inr (some 23))), (1, .inl a2), (2, .inl a3), (3, .inr (.inl a4)), (5, .inl v5_1)]) (st' := [.inl (-1)]) (h' := gr_h I J) (C := (True ∧ True)) rfl ⟨trivial, trivial⟩ ?_
        exact gv_iret hD rfl ⟨rfl, ⟨_, rfl, by exact gz_m 5 (by omega), by exact gz_m 6 (by omega), by exact gz_m 7 (by omega), (e1_1.trans (gs_fd_e (by exact gz_m 8 (by omega)))).symm⟩⟩
      · refine gv_run 5 true hD (pc' := 15) (lv' := [(0, .inr (.inr (some 23))), (1, .inl a2), (2, .inl a3), (3, .inr (.inl a4)), (5, .inl v5_1)]) (st' := [.inr (.inl (J 23 (Int.toNat ((a2 + v5_1)))))]) (h' := gr_h I J) (C := (((((True ∧ True) ∧ True) ∧ True) ∧ True) ∧ (0 ≤ (a2 + v5_1) ∧ (a2 + v5_1) < ((192 : Nat) : Int)))) rfl ⟨⟨⟨⟨⟨trivial, trivial⟩, trivial⟩, trivial⟩, trivial⟩, ⟨by exact gz_m 9 (by omega), by exact gz_m 10 (by omega)⟩⟩ ?_
        have f3 := gw_cmp ((J 23 (Int.toNat ((a2 + v5_1))))) (a4)
        refine gv_run 2 true hD (pc' := 17) (lv' := [(0, .inr (.inr (some 23))), (1, .inl a2), (2, .inl a3), (3, .inr (.inl a4)), (5, .inl v5_1)]) (st' := [.inl ((lg_cmp ((J 23 (Int.toNat ((a2 + v5_1))))) (a4)).toInt)]) (h' := gr_h I J) (C := ((True ∧ True) ∧ True)) rfl ⟨⟨trivial, trivial⟩, trivial⟩ ?_
        refine gv_if_ne (t := 23) hD rfl rfl ⟨by exact gz_m 11 (by omega), by exact gz_m 12 (by omega)⟩ (fun c4 => ?_) (fun c4 => ?_)
        · have j4 := gs_cmpn (a := (J 23 (Int.toNat ((a2 + v5_1))))) (b := a4) (by exact gz_m 13 (by omega))
          refine gv_run 2 true hD (pc' := 3) (lv' := [(5, .inl (v5_1 + 1)), (0, .inr (.inr (some 23))), (1, .inl a2), (2, .inl a3), (3, .inr (.inl a4))]) (st' := []) (h' := gr_h I J) (C := ((True ∧ True) ∧ True)) rfl ⟨⟨trivial, trivial⟩, trivial⟩ ?_
          refine gv_pick [1, 2, 3, 4, 0] rfl ?_
          exact ih3 (v5_1 + 1) (by exact gz_m 14 (by omega)) (by exact gz_m 15 (by omega)) (e1_1.trans (gs_fd_s (f := (fun i => J 23 (Int.toNat (a2 + i)))) (by exact gz_m 16 (by omega)) j4))
        · have j4 := gs_cmp0 (a := (J 23 (Int.toNat ((a2 + v5_1))))) (b := a4) (by exact gz_m 17 (by omega))
          refine gv_run 1 true hD (pc' := 22) (lv' := [(0, .inr (.inr (some 23))), (1, .inl a2), (2, .inl a3), (3, .inr (.inl a4)), (5, .inl v5_1)]) (st' := [.inl v5_1]) (h' := gr_h I J) (C := (True ∧ True)) rfl ⟨trivial, trivial⟩ ?_
          exact gv_iret hD rfl ⟨rfl, ⟨_, rfl, by exact gz_m 18 (by omega), by exact gz_m 19 (by omega), by exact gz_m 20 (by omega), (e1_1.trans (gs_fd_f (f := (fun i => J 23 (Int.toNat (a2 + i)))) (by exact gz_m 21 (by omega)) j4)).symm⟩⟩
  refine gv_run 2 true hD (pc' := 3) (lv' := [(5, .inl 0), (0, .inr (.inr (some 23))), (1, .inl a2), (2, .inl a3), (3, .inr (.inl a4))]) (st' := []) (h' := gr_h I J) (C := ((True ∧ True) ∧ True)) rfl ⟨⟨trivial, trivial⟩, trivial⟩ ?_
  refine gv_pick [1, 2, 3, 4, 0] rfl ?_
  exact L3 _ 0 (Nat.lt_succ_self _) (by exact gz_m 22 (by omega)) (by show gs_fd (fun i => J 23 (Int.toNat (a2 + i))) a4 (Int.toNat a3) 0 = _; rw [show a3 - 0 = a3 from by exact gz_m 23 (by omega)])
set_option maxHeartbeats 8000000 in
set_option maxRecDepth 100000 in
theorem r_find_62_p {ws0 : List Cond} {tb : String → gz_T} (hws : ∀ w ∈ gr_ws, w ∈ ws0) (htb : tb RX13 = gr_T) (ext : gz_Sh) (I : gr_I) (J : gr_J) (hI : gr_Inv I) (a2 : Int) (a3 : Int) (a4 : Int64) (ha2 : 0 ≤ a2 ∧ a2 ≤ 6) (ha3 : 0 ≤ a3 ∧ a3 ≤ 6) (x0 : a2 + a3 ≤ 6) : ∃ r h', gz_Ev ws0 tb 1 (yX13_find, cX13_find, 6, (some .int)) [.inr (.inr (some 62)), .inl a2, .inl a3, .inr (.inl a4)] (gr_sh ++ ext) (gr_h I J) r (gr_sh ++ ext) h' 0 0 ∧ (h' = gr_h I J ∧ (∃ z : Int, r = some (.inl z) ∧ (-1) ≤ z ∧ z ≤ 5 ∧ (z < a3) ∧ (z = gs_find (fun i => J 62 (Int.toNat (a2 + i))) a3 a4))) := by
  have hD : gv_D (gr_E ws0 tb 0 (yX13_find, cX13_find, 6, (some .int)) kX13_find) := gq_of oX13_find
  refine gr_ev (d := 0) (l := kX13_find) (Po := fun r h' => (h' = gr_h I J ∧ (∃ z : Int, r = some (.inl z) ∧ (-1) ≤ z ∧ z ≤ 5 ∧ (z < a3) ∧ (z = gs_find (fun i => J 62 (Int.toNat (a2 + i))) a3 a4)))) htb rfl (Nat.le_of_ble_eq_true rfl) ?_
  have L3 : ∀ (n : Nat) (v5_1 : Int), (7 - v5_1).toNat < n → ((0 ≤ a2 ∧ a2 ≤ 6) ∧ (0 ≤ a3 ∧ a3 ≤ 6) ∧ (0 ≤ v5_1 ∧ v5_1 ≤ 6) ∧ (a2 + a3 ≤ 6)) → (gs_find (fun i => J 62 (Int.toNat (a2 + i))) a3 a4 = gs_fd (fun i => J 62 (Int.toNat (a2 + i))) a4 (Int.toNat (a3 - v5_1)) v5_1) → gv_X (gr_E ws0 tb 0 (yX13_find, cX13_find, 6, (some .int)) kX13_find) (gv_Q cX13_find (some .int) (gr_sh ++ ext) (fun r h' => (h' = gr_h I J ∧ (∃ z : Int, r = some (.inl z) ∧ (-1) ≤ z ∧ z ≤ 5 ∧ (z < a3) ∧ (z = gs_find (fun i => J 62 (Int.toNat (a2 + i))) a3 a4))))) (3, [(0, .inr (.inr (some 62))), (1, .inl a2), (2, .inl a3), (3, .inr (.inl a4)), (5, .inl v5_1)], [], gr_sh ++ ext, gr_h I J) := by
    intro n
    induction n with
    | zero => intro v5_1 hn; exact gz_m 0 (by omega)
    | succ n ih3 =>
      intro v5_1 hn m_1 e1_1
      obtain ⟨ha2_1, ha3_1, hv5_1, e0_1⟩ := m_1
      refine gv_run 2 true hD (pc' := 6) (lv' := [(0, .inr (.inr (some 62))), (1, .inl a2), (2, .inl a3), (3, .inr (.inl a4)), (5, .inl v5_1)]) (st' := [.inl a3, .inl v5_1]) (h' := gr_h I J) (C := ((True ∧ True) ∧ True)) rfl ⟨⟨trivial, trivial⟩, trivial⟩ ?_
      refine gv_icmp_ge (t := 29) hD rfl rfl ⟨⟨by exact gz_m 1 (by omega), by exact gz_m 2 (by omega)⟩, ⟨by exact gz_m 3 (by omega), by exact gz_m 4 (by omega)⟩⟩ (fun c2 => ?_) (fun c2 => ?_)
      · refine gv_run 1 true hD (pc' := 30) (lv' := [(0, .inr (.inr (some 62))), (1, .inl a2), (2, .inl a3), (3, .inr (.inl a4)), (5, .inl v5_1)]) (st' := [.inl (-1)]) (h' := gr_h I J) (C := (True ∧ True)) rfl ⟨trivial, trivial⟩ ?_
        exact gv_iret hD rfl ⟨rfl, ⟨_, rfl, by exact gz_m 5 (by omega), by exact gz_m 6 (by omega), by exact gz_m 7 (by omega), (e1_1.trans (gs_fd_e (by exact gz_m 8 (by omega)))).symm⟩⟩
      · refine gv_run 5 true hD (pc' := 15) (lv' := [(0, .inr (.inr (some 62))), (1, .inl a2), (2, .inl a3), (3, .inr (.inl a4)), (5, .inl v5_1)]) (st' := [.inr (.inl (J 62 (Int.toNat ((a2 + v5_1)))))]) (h' := gr_h I J) (C := (((((True ∧ True) ∧ True) ∧ True) ∧ True) ∧ (0 ≤ (a2 + v5_1) ∧ (a2 + v5_1) < ((6 : Nat) : Int)))) rfl ⟨⟨⟨⟨⟨trivial, trivial⟩, trivial⟩, trivial⟩, trivial⟩, ⟨by exact gz_m 9 (by omega), by exact gz_m 10 (by omega)⟩⟩ ?_
        have f3 := gw_cmp ((J 62 (Int.toNat ((a2 + v5_1))))) (a4)
        refine gv_run 2 true hD (pc' := 17) (lv' := [(0, .inr (.inr (some 62))), (1, .inl a2), (2, .inl a3), (3, .inr (.inl a4)), (5, .inl v5_1)]) (st' := [.inl ((lg_cmp ((J 62 (Int.toNat ((a2 + v5_1))))) (a4)).toInt)]) (h' := gr_h I J) (C := ((True ∧ True) ∧ True)) rfl ⟨⟨trivial, trivial⟩, trivial⟩ ?_
        refine gv_if_ne (t := 23) hD rfl rfl ⟨by exact gz_m 11 (by omega), by exact gz_m 12 (by omega)⟩ (fun c4 => ?_) (fun c4 => ?_)
        · have j4 := gs_cmpn (a := (J 62 (Int.toNat ((a2 + v5_1))))) (b := a4) (by exact gz_m 13 (by omega))
          refine gv_run 2 true hD (pc' := 3) (lv' := [(5, .inl (v5_1 + 1)), (0, .inr (.inr (some 62))), (1, .inl a2), (2, .inl a3), (3, .inr (.inl a4))]) (st' := []) (h' := gr_h I J) (C := ((True ∧ True) ∧ True)) rfl ⟨⟨trivial, trivial⟩, trivial⟩ ?_
          refine gv_pick [1, 2, 3, 4, 0] rfl ?_
          exact ih3 (v5_1 + 1) (by exact gz_m 14 (by omega)) (by exact gz_m 15 (by omega)) (e1_1.trans (gs_fd_s (f := (fun i => J 62 (Int.toNat (a2 + i)))) (by exact gz_m 16 (by omega)) j4))
        · have j4 := gs_cmp0 (a := (J 62 (Int.toNat ((a2 + v5_1))))) (b := a4) (by exact gz_m 17 (by omega))
          refine gv_run 1 true hD (pc' := 22) (lv' := [(0, .inr (.inr (some 62))), (1, .inl a2), (2, .inl a3), (3, .inr (.inl a4)), (5, .inl v5_1)]) (st' := [.inl v5_1]) (h' := gr_h I J) (C := (True ∧ True)) rfl ⟨trivial, trivial⟩ ?_
          exact gv_iret hD rfl ⟨rfl, ⟨_, rfl, by exact gz_m 18 (by omega), by exact gz_m 19 (by omega), by exact gz_m 20 (by omega), (e1_1.trans (gs_fd_f (f := (fun i => J 62 (Int.toNat (a2 + i)))) (by exact gz_m 21 (by omega)) j4)).symm⟩⟩
  refine gv_run 2 true hD (pc' := 3) (lv' := [(5, .inl 0), (0, .inr (.inr (some 62))), (1, .inl a2), (2, .inl a3), (3, .inr (.inl a4))]) (st' := []) (h' := gr_h I J) (C := ((True ∧ True) ∧ True)) rfl ⟨⟨trivial, trivial⟩, trivial⟩ ?_
  refine gv_pick [1, 2, 3, 4, 0] rfl ?_
  exact L3 _ 0 (Nat.lt_succ_self _) (by exact gz_m 22 (by omega)) (by show gs_fd (fun i => J 62 (Int.toNat (a2 + i))) a4 (Int.toNat a3) 0 = _; rw [show a3 - 0 = a3 from by exact gz_m 23 (by omega)])
