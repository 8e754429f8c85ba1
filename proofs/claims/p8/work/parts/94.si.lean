set_option maxHeartbeats 8000000 in
set_option maxRecDepth 100000 in
theorem r_isFact_p {ws0 : List Cond} {tb : String → gz_T} (hws : ∀ w ∈ gr_ws, w ∈ ws0) (htb : tb RX13 = gr_T) (ext : gz_Sh) (I : gr_I) (J : gr_J) (hI : gr_Inv I) (a1 : Int64) (a2 : Int) (a3 : Int) (ha2 : (-2147483648) ≤ a2 ∧ a2 ≤ 2147483647) (ha3 : (-2147483648) ≤ a3 ∧ a3 ≤ 2147483647)  : ∃ r h', gz_Ev ws0 tb 1 (yX13_isFact, cX13_isFact, 6, (some .boolean)) [.inr (.inr (some 0)), .inr (.inl a1), .inl a2, .inl a3] (gr_sh ++ ext) (gr_h I J) r (gr_sh ++ ext) h' 0 0 ∧ (h' = gr_h I J ∧ (∃ z : Int, r = some (.inl z) ∧ 0 ≤ z ∧ z ≤ 1 ∧ (z = gs_isf I J a1 a2 a3))) := by
  have hD : gv_D (gr_E ws0 tb 0 (yX13_isFact, cX13_isFact, 6, (some .boolean)) kX13_isFact) := gq_of oX13_isFact
  refine gr_ev (d := 0) (l := kX13_isFact) (Po := fun r h' => (h' = gr_h I J ∧ (∃ z : Int, r = some (.inl z) ∧ 0 ≤ z ∧ z ≤ 1 ∧ (z = gs_isf I J a1 a2 a3)))) htb rfl (Nat.le_of_ble_eq_true rfl) ?_
  have f1 := (gr_b_0_5 hI)
  have L3 : ∀ (n : Nat) (v5_2 : Int), (65 - v5_2).toNat < n → (((-2147483648) ≤ a2 ∧ a2 ≤ 2147483647) ∧ ((-2147483648) ≤ a3 ∧ a3 ≤ 2147483647) ∧ (0 ≤ v5_2 ∧ v5_2 ≤ 64)) → (gs_isf I J a1 a2 a3 = gs_ifd I J a1 a2 a3 (Int.toNat (I 0 5 - v5_2)) v5_2) → gv_X (gr_E ws0 tb 0 (yX13_isFact, cX13_isFact, 6, (some .boolean)) kX13_isFact) (gv_Q cX13_isFact (some .boolean) (gr_sh ++ ext) (fun r h' => (h' = gr_h I J ∧ (∃ z : Int, r = some (.inl z) ∧ 0 ≤ z ∧ z ≤ 1 ∧ (z = gs_isf I J a1 a2 a3))))) (3, [(0, .inr (.inr (some 0))), (1, .inr (.inl a1)), (3, .inl a2), (4, .inl a3), (5, .inl v5_2)], [], gr_sh ++ ext, gr_h I J) := by
    intro n
    induction n with
    | zero => intro v5_2 hn; exact gz_m 0 (by omega)
    | succ n ih3 =>
      intro v5_2 hn m_2 e0_2
      obtain ⟨ha2_2, ha3_2, hv5_2⟩ := m_2
      have f3 := (gr_b_0_5 hI)
      have f4 := (gr_b_0_5 hI)
      refine gv_run 3 true hD (pc' := 9) (lv' := [(0, .inr (.inr (some 0))), (1, .inr (.inl a1)), (3, .inl a2), (4, .inl a3), (5, .inl v5_2)]) (st' := [.inl (I 0 5), .inl v5_2]) (h' := gr_h I J) (C := (((True ∧ True) ∧ True) ∧ True)) rfl ⟨⟨⟨trivial, trivial⟩, trivial⟩, trivial⟩ ?_
      refine gv_icmp_ge (t := 55) hD rfl rfl ⟨⟨by exact gz_m 1 (by omega), by exact gz_m 2 (by omega)⟩, ⟨by exact gz_m 3 (by omega), by exact gz_m 4 (by omega)⟩⟩ (fun c5 => ?_) (fun c5 => ?_)
      · refine gv_run 1 true hD (pc' := 56) (lv' := [(0, .inr (.inr (some 0))), (1, .inr (.inl a1)), (3, .inl a2), (4, .inl a3), (5, .inl v5_2)]) (st' := [.inl 0]) (h' := gr_h I J) (C := (True ∧ True)) rfl ⟨trivial, trivial⟩ ?_
        exact gv_zret hD rfl (by exact gz_m 5 (by omega)) ⟨rfl, ⟨_, rfl, by exact gz_m 6 (by omega), by exact gz_m 7 (by omega), (e0_2.trans (gs_ifd_e (by exact gz_m 8 (by omega)))).symm⟩⟩
      · refine gv_run 4 true hD (pc' := 19) (lv' := [(0, .inr (.inr (some 0))), (1, .inr (.inl a1)), (3, .inl a2), (4, .inl a3), (5, .inl v5_2)]) (st' := [.inr (.inl (J 5 (Int.toNat v5_2)))]) (h' := gr_h I J) (C := ((((True ∧ True) ∧ True) ∧ True) ∧ (0 ≤ v5_2 ∧ v5_2 < ((64 : Nat) : Int)))) rfl ⟨⟨⟨⟨trivial, trivial⟩, trivial⟩, trivial⟩, ⟨by exact gz_m 9 (by omega), by exact gz_m 10 (by omega)⟩⟩ ?_
        have f6 := gw_cmp ((J 5 (Int.toNat v5_2))) (a1)
        refine gv_run 2 true hD (pc' := 21) (lv' := [(0, .inr (.inr (some 0))), (1, .inr (.inl a1)), (3, .inl a2), (4, .inl a3), (5, .inl v5_2)]) (st' := [.inl ((lg_cmp ((J 5 (Int.toNat v5_2))) (a1)).toInt)]) (h' := gr_h I J) (C := ((True ∧ True) ∧ True)) rfl ⟨⟨trivial, trivial⟩, trivial⟩ ?_
        refine gv_if_ne (t := 49) hD rfl rfl ⟨by exact gz_m 11 (by omega), by exact gz_m 12 (by omega)⟩ (fun c7 => ?_) (fun c7 => ?_)
        · have j7 := gs_cmpn (a := (J 5 (Int.toNat v5_2))) (b := a1) (by exact gz_m 13 (by omega))
          refine gv_run 2 true hD (pc' := 3) (lv' := [(5, .inl (v5_2 + 1)), (0, .inr (.inr (some 0))), (1, .inr (.inl a1)), (3, .inl a2), (4, .inl a3)]) (st' := []) (h' := gr_h I J) (C := ((True ∧ True) ∧ True)) rfl ⟨⟨trivial, trivial⟩, trivial⟩ ?_
          refine gv_pick [1, 2, 3, 4, 0] rfl ?_
          exact ih3 (v5_2 + 1) (by exact gz_m 14 (by omega)) (by exact gz_m 15 (by omega)) (e0_2.trans (gs_ifd_s (by exact gz_m 16 (by omega)) (fun h => j7 h.1)))
        · have j7 := gs_cmp0 (a := (J 5 (Int.toNat v5_2))) (b := a1) (by exact gz_m 17 (by omega))
          have f8 := (gr_b_11 hI (Int.toNat v5_2))
          refine gv_run 4 true hD (pc' := 31) (lv' := [(0, .inr (.inr (some 0))), (1, .inr (.inl a1)), (3, .inl a2), (4, .inl a3), (5, .inl v5_2)]) (st' := [.inl (I 11 (Int.toNat v5_2))]) (h' := gr_h I J) (C := ((((True ∧ True) ∧ True) ∧ True) ∧ (0 ≤ v5_2 ∧ v5_2 < ((64 : Nat) : Int)))) rfl ⟨⟨⟨⟨trivial, trivial⟩, trivial⟩, trivial⟩, ⟨by exact gz_m 18 (by omega), by exact gz_m 19 (by omega)⟩⟩ ?_
          refine gv_run 1 true hD (pc' := 32) (lv' := [(0, .inr (.inr (some 0))), (1, .inr (.inl a1)), (3, .inl a2), (4, .inl a3), (5, .inl v5_2)]) (st' := [.inl a2, .inl (I 11 (Int.toNat v5_2))]) (h' := gr_h I J) (C := (True ∧ True)) rfl ⟨trivial, trivial⟩ ?_
          refine gv_icmp_ne (t := 49) hD rfl rfl ⟨⟨by exact gz_m 20 (by omega), by exact gz_m 21 (by omega)⟩, ⟨by exact gz_m 22 (by omega), by exact gz_m 23 (by omega)⟩⟩ (fun c9 => ?_) (fun c9 => ?_)
          · refine gv_run 2 true hD (pc' := 3) (lv' := [(5, .inl (v5_2 + 1)), (0, .inr (.inr (some 0))), (1, .inr (.inl a1)), (3, .inl a2), (4, .inl a3)]) (st' := []) (h' := gr_h I J) (C := ((True ∧ True) ∧ True)) rfl ⟨⟨trivial, trivial⟩, trivial⟩ ?_
            refine gv_pick [1, 2, 3, 4, 0] rfl ?_
            exact ih3 (v5_2 + 1) (by exact gz_m 24 (by omega)) (by exact gz_m 25 (by omega)) (e0_2.trans (gs_ifd_s (by exact gz_m 26 (by omega)) (fun h => by have h9 := h.2; exact gz_m 27 (by omega))))
          · have f10 := (gr_b_12 hI (Int.toNat v5_2))
            refine gv_run 4 true hD (pc' := 42) (lv' := [(0, .inr (.inr (some 0))), (1, .inr (.inl a1)), (3, .inl a2), (4, .inl a3), (5, .inl v5_2)]) (st' := [.inl (I 12 (Int.toNat v5_2))]) (h' := gr_h I J) (C := ((((True ∧ True) ∧ True) ∧ True) ∧ (0 ≤ v5_2 ∧ v5_2 < ((64 : Nat) : Int)))) rfl ⟨⟨⟨⟨trivial, trivial⟩, trivial⟩, trivial⟩, ⟨by exact gz_m 28 (by omega), by exact gz_m 29 (by omega)⟩⟩ ?_
            refine gv_run 1 true hD (pc' := 44) (lv' := [(0, .inr (.inr (some 0))), (1, .inr (.inl a1)), (3, .inl a2), (4, .inl a3), (5, .inl v5_2)]) (st' := [.inl a3, .inl (I 12 (Int.toNat v5_2))]) (h' := gr_h I J) (C := (True ∧ True)) rfl ⟨trivial, trivial⟩ ?_
            refine gv_icmp_ne (t := 49) hD rfl rfl ⟨⟨by exact gz_m 30 (by omega), by exact gz_m 31 (by omega)⟩, ⟨by exact gz_m 32 (by omega), by exact gz_m 33 (by omega)⟩⟩ (fun c11 => ?_) (fun c11 => ?_)
            · refine gv_run 2 true hD (pc' := 3) (lv' := [(5, .inl (v5_2 + 1)), (0, .inr (.inr (some 0))), (1, .inr (.inl a1)), (3, .inl a2), (4, .inl a3)]) (st' := []) (h' := gr_h I J) (C := ((True ∧ True) ∧ True)) rfl ⟨⟨trivial, trivial⟩, trivial⟩ ?_
              refine gv_pick [1, 2, 3, 4, 0] rfl ?_
              exact ih3 (v5_2 + 1) (by exact gz_m 34 (by omega)) (by exact gz_m 35 (by omega)) (e0_2.trans (gs_ifd_s (by exact gz_m 36 (by omega)) (fun h => by have h9 := h.2; exact gz_m 37 (by omega))))
            · refine gv_run 1 true hD (pc' := 48) (lv' := [(0, .inr (.inr (some 0))), (1, .inr (.inl a1)), (3, .inl a2), (4, .inl a3), (5, .inl v5_2)]) (st' := [.inl 1]) (h' := gr_h I J) (C := (True ∧ True)) rfl ⟨trivial, trivial⟩ ?_
              exact gv_zret hD rfl (by exact gz_m 38 (by omega)) ⟨rfl, ⟨_, rfl, by exact gz_m 39 (by omega), by exact gz_m 40 (by omega), (e0_2.trans (gs_ifd_f (by exact gz_m 41 (by omega)) ⟨j7, by exact gz_m 42 (by omega), by exact gz_m 43 (by omega)⟩)).symm⟩⟩
  refine gv_run 2 true hD (pc' := 3) (lv' := [(5, .inl 0), (0, .inr (.inr (some 0))), (1, .inr (.inl a1)), (3, .inl a2), (4, .inl a3)]) (st' := []) (h' := gr_h I J) (C := ((True ∧ True) ∧ True)) rfl ⟨⟨trivial, trivial⟩, trivial⟩ ?_
  refine gv_pick [1, 2, 3, 4, 0] rfl ?_
  exact L3 _ 0 (Nat.lt_succ_self _) (by exact gz_m 44 (by omega)) (by show gs_ifd I J a1 a2 a3 (Int.toNat (I 0 5)) 0 = _; rw [show I 0 5 - 0 = I 0 5 from by exact gz_m 45 (by omega)])
