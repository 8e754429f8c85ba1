set_option maxHeartbeats 8000000 in
set_option maxRecDepth 100000 in
theorem r_thingOf {ws0 : List Cond} {tb : String → gz_T} (hws : ∀ w ∈ gr_ws, w ∈ ws0) (htb : tb RX13 = gr_T) (ext : gz_Sh) (I : gr_I) (J : gr_J) (hI : gr_Inv I) (a1 : Int) (ha1 : 0 ≤ a1 ∧ a1 ≤ 1299) (x0 : I 134 (a1).toNat = 1 → 0 ≤ I 135 (a1).toNat ∧ I 135 (a1).toNat < I 0 220) : ∃ r h', gz_Ev ws0 tb 2 (yX13_thingOf, cX13_thingOf, 2, (some .int)) [.inr (.inr (some 0)), .inl a1] (gr_sh ++ ext) (gr_h I J) r (gr_sh ++ ext) h' 0 0 ∧ (h' = gr_h I J ∧ (∃ z : Int, r = some (.inl z) ∧ (-2147483648) ≤ z ∧ z ≤ 2147483647)) := by
  have hD : gv_D (gr_E ws0 tb 1 (yX13_thingOf, cX13_thingOf, 2, (some .int)) kX13_thingOf) := gq_of oX13_thingOf
  refine gr_ev (d := 1) (l := kX13_thingOf) (Po := fun r h' => (h' = gr_h I J ∧ (∃ z : Int, r = some (.inl z) ∧ (-2147483648) ≤ z ∧ z ≤ 2147483647))) htb rfl (Nat.le_of_ble_eq_true rfl) ?_
  have f1 := (gr_b_0_220 hI)
  have f2 := (gr_b_0_4 hI)
  have L61 : ∀ (s0_3 : Int), (((-2147483648) ≤ s0_3 ∧ s0_3 ≤ 2147483647)) → gv_X (gr_E ws0 tb 1 (yX13_thingOf, cX13_thingOf, 2, (some .int)) kX13_thingOf) (gv_Q cX13_thingOf (some .int) (gr_sh ++ ext) (fun r h' => (h' = gr_h I J ∧ (∃ z : Int, r = some (.inl z) ∧ (-2147483648) ≤ z ∧ z ≤ 2147483647)))) (61, [], [.inl s0_3], gr_sh ++ ext, gr_h I J) := by
    intro s0_3 m_3
    have hs0_3 := m_3
    have f4 := (gr_b_0_220 hI)
    have f5 := (gr_b_0_4 hI)
    exact gv_iret hD rfl ⟨rfl, ⟨_, rfl, by exact gz_m 0 (by omega)⟩⟩
  have f6 := (gr_b_134 hI (Int.toNat a1))
  refine gv_run 4 true hD (pc' := 6) (lv' := [(0, .inr (.inr (some 0))), (1, .inl a1)]) (st' := [.inl (I 134 (Int.toNat a1))]) (h' := gr_h I J) (C := ((((True ∧ True) ∧ True) ∧ True) ∧ (0 ≤ a1 ∧ a1 < ((2000 : Nat) : Int)))) rfl ⟨⟨⟨⟨trivial, trivial⟩, trivial⟩, trivial⟩, ⟨by exact gz_m 1 (by omega), by exact gz_m 2 (by omega)⟩⟩ ?_
  refine gv_run 1 true hD (pc' := 7) (lv' := [(0, .inr (.inr (some 0))), (1, .inl a1)]) (st' := [.inl 2, .inl (I 134 (Int.toNat a1))]) (h' := gr_h I J) (C := (True ∧ True)) rfl ⟨trivial, trivial⟩ ?_
  refine gv_icmp_ne (t := 29) hD rfl rfl ⟨⟨by exact gz_m 3 (by omega), by exact gz_m 4 (by omega)⟩, ⟨by exact gz_m 5 (by omega), by exact gz_m 6 (by omega)⟩⟩ (fun c7 => ?_) (fun c7 => ?_)
  · have f8 := (gr_b_134 hI (Int.toNat a1))
    refine gv_run 4 true hD (pc' := 35) (lv' := [(0, .inr (.inr (some 0))), (1, .inl a1)]) (st' := [.inl (I 134 (Int.toNat a1))]) (h' := gr_h I J) (C := ((((True ∧ True) ∧ True) ∧ True) ∧ (0 ≤ a1 ∧ a1 < ((2000 : Nat) : Int)))) rfl ⟨⟨⟨⟨trivial, trivial⟩, trivial⟩, trivial⟩, ⟨by exact gz_m 7 (by omega), by exact gz_m 8 (by omega)⟩⟩ ?_
    refine gv_run 1 true hD (pc' := 36) (lv' := [(0, .inr (.inr (some 0))), (1, .inl a1)]) (st' := [.inl 1, .inl (I 134 (Int.toNat a1))]) (h' := gr_h I J) (C := (True ∧ True)) rfl ⟨trivial, trivial⟩ ?_
    refine gv_icmp_ne (t := 60) hD rfl rfl ⟨⟨by exact gz_m 9 (by omega), by exact gz_m 10 (by omega)⟩, ⟨by exact gz_m 11 (by omega), by exact gz_m 12 (by omega)⟩⟩ (fun c9 => ?_) (fun c9 => ?_)
    · refine gv_run 1 true hD (pc' := 61) (lv' := [(0, .inr (.inr (some 0))), (1, .inl a1)]) (st' := [.inl (-1)]) (h' := gr_h I J) (C := (True ∧ True)) rfl ⟨trivial, trivial⟩ ?_
      refine gv_pick [] rfl ?_
      exact L61 (-1) (by exact gz_m 13 (by omega))
    · have f10 := (gr_b_0_220 hI)
      refine gv_run 7 true hD (pc' := 50) (lv' := [(0, .inr (.inr (some 0))), (1, .inl a1)]) (st' := [.inr (.inr (some 0)), .inl ((I 0 220) - 1), .inr (.inr (some 138))]) (h' := gr_h I J) (C := (((((((True ∧ True) ∧ True) ∧ True) ∧ True) ∧ True) ∧ True) ∧ True)) rfl ⟨⟨⟨⟨⟨⟨⟨trivial, trivial⟩, trivial⟩, trivial⟩, trivial⟩, trivial⟩, trivial⟩, trivial⟩ ?_
      have f11 := (gr_b_135 hI (Int.toNat a1))
      refine gv_run 3 true hD (pc' := 55) (lv' := [(0, .inr (.inr (some 0))), (1, .inl a1)]) (st' := [.inl (I 135 (Int.toNat a1)), .inl ((I 0 220) - 1), .inr (.inr (some 138))]) (h' := gr_h I J) (C := (((True ∧ True) ∧ True) ∧ (0 ≤ a1 ∧ a1 < ((2000 : Nat) : Int)))) rfl ⟨⟨⟨trivial, trivial⟩, trivial⟩, ⟨by exact gz_m 14 (by omega), by exact gz_m 15 (by omega)⟩⟩ ?_
      have f12 := (gr_b_138 hI (Int.toNat ((((I 0 220) - 1) - (I 135 (Int.toNat a1))))))
      refine gv_run 2 true hD (pc' := 57) (lv' := [(0, .inr (.inr (some 0))), (1, .inl a1)]) (st' := [.inl (I 138 (Int.toNat ((((I 0 220) - 1) - (I 135 (Int.toNat a1))))))]) (h' := gr_h I J) (C := ((True ∧ True) ∧ (0 ≤ ((((I 0 220) - 1) - (I 135 (Int.toNat a1)))) ∧ ((((I 0 220) - 1) - (I 135 (Int.toNat a1)))) < ((400 : Nat) : Int)))) rfl ⟨⟨trivial, trivial⟩, ⟨by exact gz_m 16 (by omega), by exact gz_m 17 (by omega)⟩⟩ ?_
      refine gv_run 1 true hD (pc' := 61) (lv' := [(0, .inr (.inr (some 0))), (1, .inl a1)]) (st' := [.inl (I 138 (Int.toNat ((((I 0 220) - 1) - (I 135 (Int.toNat a1))))))]) (h' := gr_h I J) (C := (True ∧ True)) rfl ⟨trivial, trivial⟩ ?_
      refine gv_pick [] rfl ?_
      exact L61 ((I 138 (Int.toNat ((((I 0 220) - 1) - (I 135 (Int.toNat a1))))))) (by exact gz_m 18 (by omega))
  · have f13 := (gr_b_0_4 hI)
    refine gv_run 7 true hD (pc' := 23) (lv' := [(0, .inr (.inr (some 0))), (1, .inl a1)]) (st' := [.inr (.inr (some 137)), .inl (I 0 4), .inl 0, .inr (.inr (some 4))]) (h' := gr_h I J) (C := (((((((True ∧ True) ∧ True) ∧ True) ∧ True) ∧ True) ∧ True) ∧ True)) rfl ⟨⟨⟨⟨⟨⟨⟨trivial, trivial⟩, trivial⟩, trivial⟩, trivial⟩, trivial⟩, trivial⟩, trivial⟩ ?_
    refine gv_run 2 true hD (pc' := 25) (lv' := [(0, .inr (.inr (some 0))), (1, .inl a1)]) (st' := [.inr (.inl (J 137 (Int.toNat a1))), .inl (I 0 4), .inl 0, .inr (.inr (some 4))]) (h' := gr_h I J) (C := ((True ∧ True) ∧ (0 ≤ a1 ∧ a1 < ((2000 : Nat) : Int)))) rfl ⟨⟨trivial, trivial⟩, ⟨by exact gz_m 19 (by omega), by exact gz_m 20 (by omega)⟩⟩ ?_
    obtain ⟨r14, h14, E14, P14⟩ := r_find_4 (ws0 := ws0) (tb := tb) hws htb ext I J hI 0 (I 0 4) ((J 137 (Int.toNat a1))) ⟨by exact gz_m 21 (by omega), by exact gz_m 22 (by omega)⟩ ⟨by exact gz_m 23 (by omega), by exact gz_m 24 (by omega)⟩ (by exact gz_m 25 (by omega))
    obtain ⟨rfl, ⟨z14, rfl, q14⟩⟩ := P14
    refine gv_callS hD rfl (As := [.inr (.inr (some 4)), .inl 0, .inl (I 0 4), .inr (.inl (J 137 (Int.toNat a1)))]) (st := []) rfl (gr_lS hws rfl) (Nat.le_of_ble_eq_true rfl) (gz_Ev_mono (d := 1) (by decide) E14) ?_
    show gv_X _ _ (28, [(0, .inr (.inr (some 0))), (1, .inl a1)], [.inl z14], gr_sh ++ ext, gr_h I J)
    exact gv_iret hD rfl ⟨rfl, ⟨_, rfl, by exact gz_m 26 (by omega)⟩⟩
