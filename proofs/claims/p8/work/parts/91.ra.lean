set_option maxHeartbeats 8000000 in
set_option maxRecDepth 100000 in
theorem r_bad {ws0 : List Cond} {tb : String → gz_T} (hws : ∀ w ∈ gr_ws, w ∈ ws0) (htb : tb RX13 = gr_T) (ext : gz_Sh) (I : gr_I) (J : gr_J) (hI : gr_Inv I)    : ∃ r h', gz_Ev ws0 tb 1 (yX13_bad, cX13_bad, 1, (some .int)) [.inr (.inr (some 0))] (gr_sh ++ ext) (gr_h I J) r (gr_sh ++ ext) h' 0 0 ∧ (∃ (I' : gr_I) (J' : gr_J), h' = gr_h I' J' ∧ gr_Inv I' ∧ gr_fr [0] [] I I' ∧ gr_fj [0] [] J J' ∧ (∃ z : Int, r = some (.inl z) ∧ 0 ≤ z ∧ z ≤ 0)) := by
  have FI : gr_fr [0] [] I I := fun _ _ _ => rfl
  have FJ : gr_fj [0] [] J J := fun _ _ _ => rfl
  have hD : gv_D (gr_E ws0 tb 0 (yX13_bad, cX13_bad, 1, (some .int)) kX13_bad) := gq_of oX13_bad
  refine gr_ev (d := 0) (l := kX13_bad) (Po := fun r h' => (∃ (I' : gr_I) (J' : gr_J), h' = gr_h I' J' ∧ gr_Inv I' ∧ gr_fr [0] [] I I' ∧ gr_fj [0] [] J J' ∧ (∃ z : Int, r = some (.inl z) ∧ 0 ≤ z ∧ z ≤ 0))) htb rfl (Nat.le_of_ble_eq_true rfl) ?_
  refine gv_run 3 true hD (pc' := 5) (lv' := [(0, .inr (.inr (some 0)))]) (st' := []) (h' := gz_up (gr_h I J) 0 0 (.inl 1)) (C := (((True ∧ True) ∧ True) ∧ True)) rfl ⟨⟨⟨trivial, trivial⟩, trivial⟩, trivial⟩ ?_
  refine gr_st hI FI rfl rfl ⟨⟨by show 0 ≤ _; exact gz_m 0 (by omega), by show _ ≤ 2; exact gz_m 1 (by omega)⟩, trivial⟩ (fun I1 hI1 FI1 q2 p2 => ?_)
  refine gv_run 1 true hD (pc' := 6) (lv' := [(0, .inr (.inr (some 0)))]) (st' := [.inl 0]) (h' := gr_h I1 J) (C := (True ∧ True)) rfl ⟨trivial, trivial⟩ ?_
  exact gv_iret hD rfl ⟨I1, J, rfl, hI1, FI1, FJ, ⟨_, rfl, by exact gz_m 2 (by omega)⟩⟩
set_option maxHeartbeats 8000000 in
set_option maxRecDepth 100000 in
theorem r_low {ws0 : List Cond} {tb : String → gz_T} (hws : ∀ w ∈ gr_ws, w ∈ ws0) (htb : tb RX13 = gr_T) (ext : gz_Sh) (I : gr_I) (J : gr_J) (hI : gr_Inv I) (a1 : Int) (ha1 : 0 ≤ a1 ∧ a1 ≤ 1001)  : ∃ r h', gz_Ev ws0 tb 1 (yX13_low, cX13_low, 2, (some .boolean)) [.inr (.inr (some 0)), .inl a1] (gr_sh ++ ext) (gr_h I J) r (gr_sh ++ ext) h' 0 0 ∧ (h' = gr_h I J ∧ (∃ z : Int, r = some (.inl z) ∧ 0 ≤ z ∧ z ≤ 1 ∧ ((z = 1 ∧ a1 < I 0 69 ∧ 97 ≤ I 57 (Int.toNat a1) ∧ I 57 (Int.toNat a1) ≤ 122) ∨ (z = 0 ∧ (I 0 69 ≤ a1 ∨ I 57 (Int.toNat a1) < 97 ∨ 122 < I 57 (Int.toNat a1)))))) := by
  have hD : gv_D (gr_E ws0 tb 0 (yX13_low, cX13_low, 2, (some .boolean)) kX13_low) := gq_of oX13_low
  refine gr_ev (d := 0) (l := kX13_low) (Po := fun r h' => (h' = gr_h I J ∧ (∃ z : Int, r = some (.inl z) ∧ 0 ≤ z ∧ z ≤ 1 ∧ ((z = 1 ∧ a1 < I 0 69 ∧ 97 ≤ I 57 (Int.toNat a1) ∧ I 57 (Int.toNat a1) ≤ 122) ∨ (z = 0 ∧ (I 0 69 ≤ a1 ∨ I 57 (Int.toNat a1) < 97 ∨ 122 < I 57 (Int.toNat a1))))))) htb rfl (Nat.le_of_ble_eq_true rfl) ?_
  have L35 : ∀ (s0_1 : Int), ((0 ≤ s0_1 ∧ s0_1 ≤ 1) ∧ ((s0_1 = 1 ∧ a1 < I 0 69 ∧ 97 ≤ I 57 (Int.toNat a1) ∧ I 57 (Int.toNat a1) ≤ 122) ∨ (s0_1 = 0 ∧ (I 0 69 ≤ a1 ∨ I 57 (Int.toNat a1) < 97 ∨ 122 < I 57 (Int.toNat a1))))) → gv_X (gr_E ws0 tb 0 (yX13_low, cX13_low, 2, (some .boolean)) kX13_low) (gv_Q cX13_low (some .boolean) (gr_sh ++ ext) (fun r h' => (h' = gr_h I J ∧ (∃ z : Int, r = some (.inl z) ∧ 0 ≤ z ∧ z ≤ 1 ∧ ((z = 1 ∧ a1 < I 0 69 ∧ 97 ≤ I 57 (Int.toNat a1) ∧ I 57 (Int.toNat a1) ≤ 122) ∨ (z = 0 ∧ (I 0 69 ≤ a1 ∨ I 57 (Int.toNat a1) < 97 ∨ 122 < I 57 (Int.toNat a1)))))))) (35, [], [.inl s0_1], gr_sh ++ ext, gr_h I J) := by
    intro s0_1 m_1
    obtain ⟨hs0_1, e0_1⟩ := m_1
    exact gv_zret hD rfl (by exact gz_m 0 (by omega)) ⟨rfl, ⟨_, rfl, by exact gz_m 1 (by omega)⟩⟩
  have L34 : ((I 0 69 ≤ a1 ∨ I 57 (Int.toNat a1) < 97 ∨ 122 < I 57 (Int.toNat a1))) → gv_X (gr_E ws0 tb 0 (yX13_low, cX13_low, 2, (some .boolean)) kX13_low) (gv_Q cX13_low (some .boolean) (gr_sh ++ ext) (fun r h' => (h' = gr_h I J ∧ (∃ z : Int, r = some (.inl z) ∧ 0 ≤ z ∧ z ≤ 1 ∧ ((z = 1 ∧ a1 < I 0 69 ∧ 97 ≤ I 57 (Int.toNat a1) ∧ I 57 (Int.toNat a1) ≤ 122) ∨ (z = 0 ∧ (I 0 69 ≤ a1 ∨ I 57 (Int.toNat a1) < 97 ∨ 122 < I 57 (Int.toNat a1)))))))) (34, [], [], gr_sh ++ ext, gr_h I J) := by
    intro m_2
    have e0_2 := m_2
    refine gv_run 1 true hD (pc' := 35) (lv' := []) (st' := [.inl 0]) (h' := gr_h I J) (C := (True ∧ True)) rfl ⟨trivial, trivial⟩ ?_
    exact L35 0 (by exact gz_m 2 (by omega))
  have f3 := (gr_b_0_69 hI)
  refine gv_run 3 true hD (pc' := 5) (lv' := [(0, .inr (.inr (some 0))), (1, .inl a1)]) (st' := [.inl (I 0 69), .inl a1]) (h' := gr_h I J) (C := (((True ∧ True) ∧ True) ∧ True)) rfl ⟨⟨⟨trivial, trivial⟩, trivial⟩, trivial⟩ ?_
  refine gv_icmp_ge (t := 34) hD rfl rfl ⟨⟨by exact gz_m 3 (by omega), by exact gz_m 4 (by omega)⟩, ⟨by exact gz_m 5 (by omega), by exact gz_m 6 (by omega)⟩⟩ (fun c4 => ?_) (fun c4 => ?_)
  · refine gv_pick [] rfl ?_
    exact L34 (by exact gz_m 7 (by omega))
  · have f5 := (gr_b_57 hI (Int.toNat a1))
    refine gv_run 4 true hD (pc' := 14) (lv' := [(0, .inr (.inr (some 0))), (1, .inl a1)]) (st' := [.inl (I 57 (Int.toNat a1))]) (h' := gr_h I J) (C := ((((True ∧ True) ∧ True) ∧ True) ∧ (0 ≤ a1 ∧ a1 < ((1000 : Nat) : Int)))) rfl ⟨⟨⟨⟨trivial, trivial⟩, trivial⟩, trivial⟩, ⟨by exact gz_m 8 (by omega), by exact gz_m 9 (by omega)⟩⟩ ?_
    refine gv_run 1 true hD (pc' := 16) (lv' := [(0, .inr (.inr (some 0))), (1, .inl a1)]) (st' := [.inl 97, .inl (I 57 (Int.toNat a1))]) (h' := gr_h I J) (C := (True ∧ True)) rfl ⟨trivial, trivial⟩ ?_
    refine gv_icmp_lt (t := 34) hD rfl rfl ⟨⟨by exact gz_m 10 (by omega), by exact gz_m 11 (by omega)⟩, ⟨by exact gz_m 12 (by omega), by exact gz_m 13 (by omega)⟩⟩ (fun c6 => ?_) (fun c6 => ?_)
    · refine gv_pick [] rfl ?_
      exact L34 (by exact gz_m 14 (by omega))
    · have f7 := (gr_b_57 hI (Int.toNat a1))
      refine gv_run 4 true hD (pc' := 25) (lv' := [(0, .inr (.inr (some 0))), (1, .inl a1)]) (st' := [.inl (I 57 (Int.toNat a1))]) (h' := gr_h I J) (C := ((((True ∧ True) ∧ True) ∧ True) ∧ (0 ≤ a1 ∧ a1 < ((1000 : Nat) : Int)))) rfl ⟨⟨⟨⟨trivial, trivial⟩, trivial⟩, trivial⟩, ⟨by exact gz_m 15 (by omega), by exact gz_m 16 (by omega)⟩⟩ ?_
      refine gv_run 1 true hD (pc' := 27) (lv' := [(0, .inr (.inr (some 0))), (1, .inl a1)]) (st' := [.inl 122, .inl (I 57 (Int.toNat a1))]) (h' := gr_h I J) (C := (True ∧ True)) rfl ⟨trivial, trivial⟩ ?_
      refine gv_icmp_gt (t := 34) hD rfl rfl ⟨⟨by exact gz_m 17 (by omega), by exact gz_m 18 (by omega)⟩, ⟨by exact gz_m 19 (by omega), by exact gz_m 20 (by omega)⟩⟩ (fun c8 => ?_) (fun c8 => ?_)
      · refine gv_pick [] rfl ?_
        exact L34 (by exact gz_m 21 (by omega))
      · refine gv_run 2 true hD (pc' := 35) (lv' := [(0, .inr (.inr (some 0))), (1, .inl a1)]) (st' := [.inl 1]) (h' := gr_h I J) (C := ((True ∧ True) ∧ True)) rfl ⟨⟨trivial, trivial⟩, trivial⟩ ?_
        refine gv_pick [] rfl ?_
        exact L35 1 (by exact gz_m 22 (by omega))
set_option maxHeartbeats 8000000 in
set_option maxRecDepth 100000 in
theorem r_dig {ws0 : List Cond} {tb : String → gz_T} (hws : ∀ w ∈ gr_ws, w ∈ ws0) (htb : tb RX13 = gr_T) (ext : gz_Sh) (I : gr_I) (J : gr_J) (hI : gr_Inv I) (a1 : Int) (ha1 : 0 ≤ a1 ∧ a1 ≤ 1001)  : ∃ r h', gz_Ev ws0 tb 1 (yX13_dig, cX13_dig, 2, (some .boolean)) [.inr (.inr (some 0)), .inl a1] (gr_sh ++ ext) (gr_h I J) r (gr_sh ++ ext) h' 0 0 ∧ (h' = gr_h I J ∧ (∃ z : Int, r = some (.inl z) ∧ 0 ≤ z ∧ z ≤ 1 ∧ ((z = 1 ∧ a1 < I 0 69 ∧ 48 ≤ I 57 (Int.toNat a1) ∧ I 57 (Int.toNat a1) ≤ 57) ∨ (z = 0 ∧ (I 0 69 ≤ a1 ∨ I 57 (Int.toNat a1) < 48 ∨ 57 < I 57 (Int.toNat a1)))))) := by
  have hD : gv_D (gr_E ws0 tb 0 (yX13_dig, cX13_dig, 2, (some .boolean)) kX13_dig) := gq_of oX13_dig
  refine gr_ev (d := 0) (l := kX13_dig) (Po := fun r h' => (h' = gr_h I J ∧ (∃ z : Int, r = some (.inl z) ∧ 0 ≤ z ∧ z ≤ 1 ∧ ((z = 1 ∧ a1 < I 0 69 ∧ 48 ≤ I 57 (Int.toNat a1) ∧ I 57 (Int.toNat a1) ≤ 57) ∨ (z = 0 ∧ (I 0 69 ≤ a1 ∨ I 57 (Int.toNat a1) < 48 ∨ 57 < I 57 (Int.toNat a1))))))) htb rfl (Nat.le_of_ble_eq_true rfl) ?_
  have L35 : ∀ (s0_1 : Int), ((0 ≤ s0_1 ∧ s0_1 ≤ 1) ∧ ((s0_1 = 1 ∧ a1 < I 0 69 ∧ 48 ≤ I 57 (Int.toNat a1) ∧ I 57 (Int.toNat a1) ≤ 57) ∨ (s0_1 = 0 ∧ (I 0 69 ≤ a1 ∨ I 57 (Int.toNat a1) < 48 ∨ 57 < I 57 (Int.toNat a1))))) → gv_X (gr_E ws0 tb 0 (yX13_dig, cX13_dig, 2, (some .boolean)) kX13_dig) (gv_Q cX13_dig (some .boolean) (gr_sh ++ ext) (fun r h' => (h' = gr_h I J ∧ (∃ z : Int, r = some (.inl z) ∧ 0 ≤ z ∧ z ≤ 1 ∧ ((z = 1 ∧ a1 < I 0 69 ∧ 48 ≤ I 57 (Int.toNat a1) ∧ I 57 (Int.toNat a1) ≤ 57) ∨ (z = 0 ∧ (I 0 69 ≤ a1 ∨ I 57 (Int.toNat a1) < 48 ∨ 57 < I 57 (Int.toNat a1)))))))) (35, [], [.inl s0_1], gr_sh ++ ext, gr_h I J) := by
    intro s0_1 m_1
    obtain ⟨hs0_1, e0_1⟩ := m_1
    exact gv_zret hD rfl (by exact gz_m 0 (by omega)) ⟨rfl, ⟨_, rfl, by exact gz_m 1 (by omega)⟩⟩
  have L34 : ((I 0 69 ≤ a1 ∨ I 57 (Int.toNat a1) < 48 ∨ 57 < I 57 (Int.toNat a1))) → gv_X (gr_E ws0 tb 0 (yX13_dig, cX13_dig, 2, (some .boolean)) kX13_dig) (gv_Q cX13_dig (some .boolean) (gr_sh ++ ext) (fun r h' => (h' = gr_h I J ∧ (∃ z : Int, r = some (.inl z) ∧ 0 ≤ z ∧ z ≤ 1 ∧ ((z = 1 ∧ a1 < I 0 69 ∧ 48 ≤ I 57 (Int.toNat a1) ∧ I 57 (Int.toNat a1) ≤ 57) ∨ (z = 0 ∧ (I 0 69 ≤ a1 ∨ I 57 (Int.toNat a1) < 48 ∨ 57 < I 57 (Int.toNat a1)))))))) (34, [], [], gr_sh ++ ext, gr_h I J) := by
    intro m_2
    have e0_2 := m_2
    refine gv_run 1 true hD (pc' := 35) (lv' := []) (st' := [.inl 0]) (h' := gr_h I J) (C := (True ∧ True)) rfl ⟨trivial, trivial⟩ ?_
    exact L35 0 (by exact gz_m 2 (by omega))
  have f3 := (gr_b_0_69 hI)
  refine gv_run 3 true hD (pc' := 5) (lv' := [(0, .inr (.inr (some 0))), (1, .inl a1)]) (st' := [.inl (I 0 69), .inl a1]) (h' := gr_h I J) (C := (((True ∧ True) ∧ True) ∧ True)) rfl ⟨⟨⟨trivial, trivial⟩, trivial⟩, trivial⟩ ?_
  refine gv_icmp_ge (t := 34) hD rfl rfl ⟨⟨by exact gz_m 3 (by omega), by exact gz_m 4 (by omega)⟩, ⟨by exact gz_m 5 (by omega), by exact gz_m 6 (by omega)⟩⟩ (fun c4 => ?_) (fun c4 => ?_)
  · refine gv_pick [] rfl ?_
    exact L34 (by exact gz_m 7 (by omega))
  · have f5 := (gr_b_57 hI (Int.toNat a1))
    refine gv_run 4 true hD (pc' := 14) (lv' := [(0, .inr (.inr (some 0))), (1, .inl a1)]) (st' := [.inl (I 57 (Int.toNat a1))]) (h' := gr_h I J) (C := ((((True ∧ True) ∧ True) ∧ True) ∧ (0 ≤ a1 ∧ a1 < ((1000 : Nat) : Int)))) rfl ⟨⟨⟨⟨trivial, trivial⟩, trivial⟩, trivial⟩, ⟨by exact gz_m 8 (by omega), by exact gz_m 9 (by omega)⟩⟩ ?_
    refine gv_run 1 true hD (pc' := 16) (lv' := [(0, .inr (.inr (some 0))), (1, .inl a1)]) (st' := [.inl 48, .inl (I 57 (Int.toNat a1))]) (h' := gr_h I J) (C := (True ∧ True)) rfl ⟨trivial, trivial⟩ ?_
    refine gv_icmp_lt (t := 34) hD rfl rfl ⟨⟨by exact gz_m 10 (by omega), by exact gz_m 11 (by omega)⟩, ⟨by exact gz_m 12 (by omega), by exact gz_m 13 (by omega)⟩⟩ (fun c6 => ?_) (fun c6 => ?_)
    · refine gv_pick [] rfl ?_
      exact L34 (by exact gz_m 14 (by omega))
    · have f7 := (gr_b_57 hI (Int.toNat a1))
      refine gv_run 4 true hD (pc' := 25) (lv' := [(0, .inr (.inr (some 0))), (1, .inl a1)]) (st' := [.inl (I 57 (Int.toNat a1))]) (h' := gr_h I J) (C := ((((True ∧ True) ∧ True) ∧ True) ∧ (0 ≤ a1 ∧ a1 < ((1000 : Nat) : Int)))) rfl ⟨⟨⟨⟨trivial, trivial⟩, trivial⟩, trivial⟩, ⟨by exact gz_m 15 (by omega), by exact gz_m 16 (by omega)⟩⟩ ?_
      refine gv_run 1 true hD (pc' := 27) (lv' := [(0, .inr (.inr (some 0))), (1, .inl a1)]) (st' := [.inl 57, .inl (I 57 (Int.toNat a1))]) (h' := gr_h I J) (C := (True ∧ True)) rfl ⟨trivial, trivial⟩ ?_
      refine gv_icmp_gt (t := 34) hD rfl rfl ⟨⟨by exact gz_m 17 (by omega), by exact gz_m 18 (by omega)⟩, ⟨by exact gz_m 19 (by omega), by exact gz_m 20 (by omega)⟩⟩ (fun c8 => ?_) (fun c8 => ?_)
      · refine gv_pick [] rfl ?_
        exact L34 (by exact gz_m 21 (by omega))
      · refine gv_run 2 true hD (pc' := 35) (lv' := [(0, .inr (.inr (some 0))), (1, .inl a1)]) (st' := [.inl 1]) (h' := gr_h I J) (C := ((True ∧ True) ∧ True)) rfl ⟨⟨trivial, trivial⟩, trivial⟩ ?_
        refine gv_pick [] rfl ?_
        exact L35 1 (by exact gz_m 22 (by omega))
set_option maxHeartbeats 8000000 in
set_option maxRecDepth 100000 in
theorem r_outs {ws0 : List Cond} {tb : String → gz_T} (hws : ∀ w ∈ gr_ws, w ∈ ws0) (htb : tb RX13 = gr_T) (ext : gz_Sh) (I : gr_I) (J : gr_J) (hI : gr_Inv I) (a1 : Int) (ha1 : (-2147483648) ≤ a1 ∧ a1 ≤ 2147483647)  : ∃ r h', gz_Ev ws0 tb 1 (yX13_outs, cX13_outs, 2, none) [.inr (.inr (some 0)), .inl a1] (gr_sh ++ ext) (gr_h I J) r (gr_sh ++ ext) h' 0 0 ∧ (∃ (I' : gr_I) (J' : gr_J), h' = gr_h I' J' ∧ gr_Inv I' ∧ gr_fr [70] [58] I I' ∧ gr_fj [70] [58] J J' ∧ r = none) := by
  have FI : gr_fr [70] [58] I I := fun _ _ _ => rfl
  have FJ : gr_fj [70] [58] J J := fun _ _ _ => rfl
  have hD : gv_D (gr_E ws0 tb 0 (yX13_outs, cX13_outs, 2, none) kX13_outs) := gq_of oX13_outs
  refine gr_ev (d := 0) (l := kX13_outs) (Po := fun r h' => (∃ (I' : gr_I) (J' : gr_J), h' = gr_h I' J' ∧ gr_Inv I' ∧ gr_fr [70] [58] I I' ∧ gr_fj [70] [58] J J' ∧ r = none)) htb rfl (Nat.le_of_ble_eq_true rfl) ?_
  have L28 : ∀ (I1 : gr_I) (J2 : gr_J) , gr_Inv I1 → gr_fr [70] [58] I I1 → gr_fj [70] [58] J J2 → gv_X (gr_E ws0 tb 0 (yX13_outs, cX13_outs, 2, none) kX13_outs) (gv_Q cX13_outs none (gr_sh ++ ext) (fun r h' => (∃ (I' : gr_I) (J' : gr_J), h' = gr_h I' J' ∧ gr_Inv I' ∧ gr_fr [70] [58] I I' ∧ gr_fj [70] [58] J J' ∧ r = none))) (28, [], [], gr_sh ++ ext, gr_h I1 J2) := by
    intro I1 J2 hI1 FI1 FJ2
    exact gv_vret hD rfl ⟨I1, J2, rfl, hI1, FI1, FJ2, rfl⟩
  have f4 := (gr_b_0_70 hI)
  refine gv_run 3 true hD (pc' := 7) (lv' := [(0, .inr (.inr (some 0))), (1, .inl a1)]) (st' := [.inl 1000, .inl (I 0 70)]) (h' := gr_h I J) (C := (((True ∧ True) ∧ True) ∧ True)) rfl ⟨⟨⟨trivial, trivial⟩, trivial⟩, trivial⟩ ?_
  refine gv_icmp_ge (t := 28) hD rfl rfl ⟨⟨by exact gz_m 0 (by omega), by exact gz_m 1 (by omega)⟩, ⟨by exact gz_m 2 (by omega), by exact gz_m 3 (by omega)⟩⟩ (fun c5 => ?_) (fun c5 => ?_)
  · refine gv_pick [] rfl ?_
    exact L28 I J hI FI FJ
  · have f6 := (gr_b_0_70 hI)
    refine gv_run 7 true hD (pc' := 21) (lv' := [(0, .inr (.inr (some 0))), (1, .inl a1)]) (st' := [.inl 1, .inl (I 0 70), .inr (.inr (some 0)), .inl (I 0 70), .inr (.inr (some 58))]) (h' := gr_h I J) (C := (((((((True ∧ True) ∧ True) ∧ True) ∧ True) ∧ True) ∧ True) ∧ True)) rfl ⟨⟨⟨⟨⟨⟨⟨trivial, trivial⟩, trivial⟩, trivial⟩, trivial⟩, trivial⟩, trivial⟩, trivial⟩ ?_
    refine gv_run 2 true hD (pc' := 25) (lv' := [(0, .inr (.inr (some 0))), (1, .inl a1)]) (st' := [.inl (I 0 70), .inr (.inr (some 58))]) (h' := gz_up (gr_h I J) 0 70 (.inl (((I 0 70) + 1)))) (C := ((True ∧ True) ∧ True)) rfl ⟨⟨trivial, trivial⟩, trivial⟩ ?_
    refine gr_st hI FI rfl rfl ⟨⟨by show 0 ≤ _; exact gz_m 4 (by omega), by show _ ≤ 1000; exact gz_m 5 (by omega)⟩, trivial⟩ (fun I7 hI7 FI7 q8 p8 => ?_)
    have f9 := gw_i2b (x := a1)
    have f10 := gw_nar_byte (x := (((Int32.ofInt a1).toInt8.toInt32.toInt)))
    refine gv_run 3 true hD (pc' := 28) (lv' := [(0, .inr (.inr (some 0))), (1, .inl a1)]) (st' := []) (h' := gz_up (gr_h I7 J) 58 (Int.toNat ((I 0 70))) (.inl (((vp_nar .byte (Int32.ofInt (((Int32.ofInt a1).toInt8.toInt32.toInt)))).toInt)))) (C := (((True ∧ True) ∧ True) ∧ (0 ≤ (I 0 70) ∧ (I 0 70) < ((1000 : Nat) : Int)))) rfl ⟨⟨⟨trivial, trivial⟩, trivial⟩, ⟨by exact gz_m 6 (by omega), by exact gz_m 7 (by omega)⟩⟩ ?_
    refine gr_st hI7 FI7 rfl rfl ⟨⟨by show (-128) ≤ _; exact gz_m 8 (by omega), by show _ ≤ 127; exact gz_m 9 (by omega)⟩, trivial⟩ (fun I11 hI11 FI11 q12 p12 => ?_)
    refine gv_pick [] rfl ?_
    exact L28 I11 J hI11 FI11 FJ
set_option maxHeartbeats 8000000 in
set_option maxRecDepth 100000 in
theorem r_out {ws0 : List Cond} {tb : String → gz_T} (hws : ∀ w ∈ gr_ws, w ∈ ws0) (htb : tb RX13 = gr_T) (ext : gz_Sh) (I : gr_I) (J : gr_J) (hI : gr_Inv I) (a1 : Int) (ha1 : (-2147483648) ≤ a1 ∧ a1 ≤ 2147483647)  : ∃ r h', gz_Ev ws0 tb 1 (yX13_out, cX13_out, 2, (some .int)) [.inr (.inr (some 0)), .inl a1] (gr_sh ++ ext) (gr_h I J) r (gr_sh ++ ext) h' 0 0 ∧ (∃ (I' : gr_I) (J' : gr_J), h' = gr_h I' J' ∧ gr_Inv I' ∧ gr_fr [0] [] I I' ∧ gr_fj [0] [] J J' ∧ (∃ z : Int, r = some (.inl z) ∧ (-1) ≤ z ∧ z ≤ 255)) := by
  have FI : gr_fr [0] [] I I := fun _ _ _ => rfl
  have FJ : gr_fj [0] [] J J := fun _ _ _ => rfl
  have hD : gv_D (gr_E ws0 tb 0 (yX13_out, cX13_out, 2, (some .int)) kX13_out) := gq_of oX13_out
  refine gr_ev (d := 0) (l := kX13_out) (Po := fun r h' => (∃ (I' : gr_I) (J' : gr_J), h' = gr_h I' J' ∧ gr_Inv I' ∧ gr_fr [0] [] I I' ∧ gr_fj [0] [] J J' ∧ (∃ z : Int, r = some (.inl z) ∧ (-1) ≤ z ∧ z ≤ 255))) htb rfl (Nat.le_of_ble_eq_true rfl) ?_
  have L31 : ∀ (I1 : gr_I) (J2 : gr_J) (s0_3 : Int), gr_Inv I1 → gr_fr [0] [] I I1 → gr_fj [0] [] J J2 → (((-1) ≤ s0_3 ∧ s0_3 ≤ 255)) → gv_X (gr_E ws0 tb 0 (yX13_out, cX13_out, 2, (some .int)) kX13_out) (gv_Q cX13_out (some .int) (gr_sh ++ ext) (fun r h' => (∃ (I' : gr_I) (J' : gr_J), h' = gr_h I' J' ∧ gr_Inv I' ∧ gr_fr [0] [] I I' ∧ gr_fj [0] [] J J' ∧ (∃ z : Int, r = some (.inl z) ∧ (-1) ≤ z ∧ z ≤ 255)))) (31, [], [.inl s0_3], gr_sh ++ ext, gr_h I1 J2) := by
    intro I1 J2 s0_3 hI1 FI1 FJ2 m_3
    have hs0_3 := m_3
    exact gv_iret hD rfl ⟨I1, J2, rfl, hI1, FI1, FJ2, ⟨_, rfl, by exact gz_m 0 (by omega)⟩⟩
  have L17 : ∀ (I4 : gr_I) (J5 : gr_J) , gr_Inv I4 → gr_fr [0] [] I I4 → gr_fj [0] [] J J5 → gv_X (gr_E ws0 tb 0 (yX13_out, cX13_out, 2, (some .int)) kX13_out) (gv_Q cX13_out (some .int) (gr_sh ++ ext) (fun r h' => (∃ (I' : gr_I) (J' : gr_J), h' = gr_h I' J' ∧ gr_Inv I' ∧ gr_fr [0] [] I I' ∧ gr_fj [0] [] J J' ∧ (∃ z : Int, r = some (.inl z) ∧ (-1) ≤ z ∧ z ≤ 255)))) (17, [], [], gr_sh ++ ext, gr_h I4 J5) := by
    intro I4 J5 hI4 FI4 FJ5
    refine gv_run 2 true hD (pc' := 31) (lv' := []) (st' := [.inl (-1)]) (h' := gr_h I4 J5) (C := ((True ∧ True) ∧ True)) rfl ⟨⟨trivial, trivial⟩, trivial⟩ ?_
    exact L31 I4 J5 (-1) hI4 FI4 FJ5 (by exact gz_m 1 (by omega))
  refine gv_run 3 true hD (pc' := 5) (lv' := [(0, .inr (.inr (some 0))), (1, .inl a1)]) (st' := []) (h' := gz_up (gr_h I J) 0 0 (.inl 0)) (C := (((True ∧ True) ∧ True) ∧ True)) rfl ⟨⟨⟨trivial, trivial⟩, trivial⟩, trivial⟩ ?_
  refine gr_st hI FI rfl rfl ⟨⟨by show 0 ≤ _; exact gz_m 2 (by omega), by show _ ≤ 2; exact gz_m 3 (by omega)⟩, trivial⟩ (fun I7 hI7 FI7 q8 p8 => ?_)
  refine gv_run 1 true hD (pc' := 6) (lv' := [(0, .inr (.inr (some 0))), (1, .inl a1)]) (st' := [.inl a1]) (h' := gr_h I7 J) (C := (True ∧ True)) rfl ⟨trivial, trivial⟩ ?_
  refine gv_if_lt (t := 17) hD rfl rfl ⟨by exact gz_m 4 (by omega), by exact gz_m 5 (by omega)⟩ (fun c9 => ?_) (fun c9 => ?_)
  · refine gv_pick [] rfl ?_
    exact L17 I7 J hI7 FI7 FJ
  · have f10 := (gr_b_0_70 hI7)
    refine gv_run 3 true hD (pc' := 14) (lv' := [(0, .inr (.inr (some 0))), (1, .inl a1)]) (st' := [.inl (I7 0 70), .inl a1]) (h' := gr_h I7 J) (C := (((True ∧ True) ∧ True) ∧ True)) rfl ⟨⟨⟨trivial, trivial⟩, trivial⟩, trivial⟩ ?_
    refine gv_icmp_lt (t := 21) hD rfl rfl ⟨⟨by exact gz_m 6 (by omega), by exact gz_m 7 (by omega)⟩, ⟨by exact gz_m 8 (by omega), by exact gz_m 9 (by omega)⟩⟩ (fun c11 => ?_) (fun c11 => ?_)
    · have f12 := (gr_b_58 hI7 (Int.toNat a1))
      refine gv_run 4 true hD (pc' := 27) (lv' := [(0, .inr (.inr (some 0))), (1, .inl a1)]) (st' := [.inl (I7 58 (Int.toNat a1))]) (h' := gr_h I7 J) (C := ((((True ∧ True) ∧ True) ∧ True) ∧ (0 ≤ a1 ∧ a1 < ((1000 : Nat) : Int)))) rfl ⟨⟨⟨⟨trivial, trivial⟩, trivial⟩, trivial⟩, ⟨by exact gz_m 10 (by omega), by exact gz_m 11 (by omega)⟩⟩ ?_
      have f13 := gw_and (x := ((I7 58 (Int.toNat a1)))) (y := 255) ⟨by exact gz_m 12 (by omega), by exact gz_m 13 (by omega)⟩
      refine gv_run 2 true hD (pc' := 31) (lv' := [(0, .inr (.inr (some 0))), (1, .inl a1)]) (st' := [.inl ((Int32.ofInt ((I7 58 (Int.toNat a1))) &&& Int32.ofInt 255).toInt)]) (h' := gr_h I7 J) (C := ((True ∧ True) ∧ True)) rfl ⟨⟨trivial, trivial⟩, trivial⟩ ?_
      refine gv_pick [] rfl ?_
      exact L31 I7 J (((Int32.ofInt ((I7 58 (Int.toNat a1))) &&& Int32.ofInt 255).toInt)) hI7 FI7 FJ (by exact gz_m 14 (by omega))
    · refine gv_pick [] rfl ?_
      exact L17 I7 J hI7 FI7 FJ
set_option maxHeartbeats 8000000 in
set_option maxRecDepth 100000 in
theorem r_noTongue {ws0 : List Cond} {tb : String → gz_T} (hws : ∀ w ∈ gr_ws, w ∈ ws0) (htb : tb RX13 = gr_T) (ext : gz_Sh) (I : gr_I) (J : gr_J) (hI : gr_Inv I) (a1 : Int) (ha1 : (-2147483648) ≤ a1 ∧ a1 ≤ 2147483647)  : ∃ r h', gz_Ev ws0 tb 1 (yX13_noTongue, cX13_noTongue, 2, (some .boolean)) [.inr (.inr (some 0)), .inl a1] (gr_sh ++ ext) (gr_h I J) r (gr_sh ++ ext) h' 0 0 ∧ (∃ (I' : gr_I) (J' : gr_J), h' = gr_h I' J' ∧ gr_Inv I' ∧ gr_fr [0] [] I I' ∧ gr_fj [0] [] J J' ∧ (∃ z : Int, r = some (.inl z) ∧ 0 ≤ z ∧ z ≤ 1 ∧ (z = 0 → 0 ≤ a1 ∧ a1 < I 0 1 ∧ a1 ≤ 7))) := by
  have FI : gr_fr [0] [] I I := fun _ _ _ => rfl
  have FJ : gr_fj [0] [] J J := fun _ _ _ => rfl
  have hD : gv_D (gr_E ws0 tb 0 (yX13_noTongue, cX13_noTongue, 2, (some .boolean)) kX13_noTongue) := gq_of oX13_noTongue
  refine gr_ev (d := 0) (l := kX13_noTongue) (Po := fun r h' => (∃ (I' : gr_I) (J' : gr_J), h' = gr_h I' J' ∧ gr_Inv I' ∧ gr_fr [0] [] I I' ∧ gr_fj [0] [] J J' ∧ (∃ z : Int, r = some (.inl z) ∧ 0 ≤ z ∧ z ≤ 1 ∧ (z = 0 → 0 ≤ a1 ∧ a1 < I 0 1 ∧ a1 ≤ 7)))) htb rfl (Nat.le_of_ble_eq_true rfl) ?_
  have f1 := (gr_b_0_1 hI)
  have L18 : ∀ (s1_2 : Int), ((0 ≤ s1_2 ∧ s1_2 ≤ 1) ∧ (s1_2 = 0 → 0 ≤ a1 ∧ a1 < I 0 1 ∧ a1 ≤ 7)) → gv_X (gr_E ws0 tb 0 (yX13_noTongue, cX13_noTongue, 2, (some .boolean)) kX13_noTongue) (gv_Q cX13_noTongue (some .boolean) (gr_sh ++ ext) (fun r h' => (∃ (I' : gr_I) (J' : gr_J), h' = gr_h I' J' ∧ gr_Inv I' ∧ gr_fr [0] [] I I' ∧ gr_fj [0] [] J J' ∧ (∃ z : Int, r = some (.inl z) ∧ 0 ≤ z ∧ z ≤ 1 ∧ (z = 0 → 0 ≤ a1 ∧ a1 < I 0 1 ∧ a1 ≤ 7))))) (18, [(0, .inr (.inr (some 0)))], [.inl s1_2, .inr (.inr (some 0))], gr_sh ++ ext, gr_h I J) := by
    intro s1_2 m_2
    obtain ⟨hs1_2, e0_2⟩ := m_2
    have f3 := (gr_b_0_1 hI)
    have L33 : ∀ (I4 : gr_I) (J5 : gr_J) (s0_6 : Int), gr_Inv I4 → gr_fr [0] [] I I4 → gr_fj [0] [] J J5 → ((0 ≤ s0_6 ∧ s0_6 ≤ 1) ∧ (s0_6 = 0 → 0 ≤ a1 ∧ a1 < I 0 1 ∧ a1 ≤ 7)) → gv_X (gr_E ws0 tb 0 (yX13_noTongue, cX13_noTongue, 2, (some .boolean)) kX13_noTongue) (gv_Q cX13_noTongue (some .boolean) (gr_sh ++ ext) (fun r h' => (∃ (I' : gr_I) (J' : gr_J), h' = gr_h I' J' ∧ gr_Inv I' ∧ gr_fr [0] [] I I' ∧ gr_fj [0] [] J J' ∧ (∃ z : Int, r = some (.inl z) ∧ 0 ≤ z ∧ z ≤ 1 ∧ (z = 0 → 0 ≤ a1 ∧ a1 < I 0 1 ∧ a1 ≤ 7))))) (33, [], [.inl s0_6], gr_sh ++ ext, gr_h I4 J5) := by
      intro I4 J5 s0_6 hI4 FI4 FJ5 m_6
      clear hs1_2 e0_2 f3
      obtain ⟨hs0_6, e0_6⟩ := m_6
      have f7 := (gr_b_0_1 hI4)
      exact gv_zret hD rfl (by exact gz_m 0 (by omega)) ⟨I4, J5, rfl, hI4, FI4, FJ5, ⟨_, rfl, by exact gz_m 1 (by omega)⟩⟩
    refine gv_run 1 true hD (pc' := 21) (lv' := [(0, .inr (.inr (some 0)))]) (st' := []) (h' := gz_up (gr_h I J) 0 0 (.inl s1_2)) (C := (True ∧ True)) rfl ⟨trivial, trivial⟩ ?_
    refine gr_st hI FI rfl rfl ⟨⟨by show 0 ≤ _; exact gz_m 2 (by omega), by show _ ≤ 2; exact gz_m 3 (by omega)⟩, trivial⟩ (fun I8 hI8 FI8 q9 p9 => ?_)
    have t10 := p9 0 1 (by decide)
    have f11 := (gr_b_0_1 hI8)
    have f12 := (gr_b_0_0 hI8)
    refine gv_run 2 true hD (pc' := 25) (lv' := [(0, .inr (.inr (some 0)))]) (st' := [.inl (I8 0 0)]) (h' := gr_h I8 J) (C := ((True ∧ True) ∧ True)) rfl ⟨⟨trivial, trivial⟩, trivial⟩ ?_
    refine gv_if_eq (t := 32) hD rfl rfl ⟨by exact gz_m 4 (by omega), by exact gz_m 5 (by omega)⟩ (fun c13 => ?_) (fun c13 => ?_)
    · refine gv_run 1 true hD (pc' := 33) (lv' := [(0, .inr (.inr (some 0)))]) (st' := [.inl 0]) (h' := gr_h I8 J) (C := (True ∧ True)) rfl ⟨trivial, trivial⟩ ?_
      refine gv_pick [] rfl ?_
      exact L33 I8 J 0 hI8 FI8 FJ (by exact gz_m 6 (by omega))
    · refine gv_run 2 true hD (pc' := 33) (lv' := [(0, .inr (.inr (some 0)))]) (st' := [.inl 1]) (h' := gr_h I8 J) (C := ((True ∧ True) ∧ True)) rfl ⟨⟨trivial, trivial⟩, trivial⟩ ?_
      refine gv_pick [] rfl ?_
      exact L33 I8 J 1 hI8 FI8 FJ (by exact gz_m 7 (by omega))
  have L13 : gv_X (gr_E ws0 tb 0 (yX13_noTongue, cX13_noTongue, 2, (some .boolean)) kX13_noTongue) (gv_Q cX13_noTongue (some .boolean) (gr_sh ++ ext) (fun r h' => (∃ (I' : gr_I) (J' : gr_J), h' = gr_h I' J' ∧ gr_Inv I' ∧ gr_fr [0] [] I I' ∧ gr_fj [0] [] J J' ∧ (∃ z : Int, r = some (.inl z) ∧ 0 ≤ z ∧ z ≤ 1 ∧ (z = 0 → 0 ≤ a1 ∧ a1 < I 0 1 ∧ a1 ≤ 7))))) (13, [(0, .inr (.inr (some 0)))], [.inr (.inr (some 0))], gr_sh ++ ext, gr_h I J) := by
    have f15 := (gr_b_0_1 hI)
    refine gv_run 2 true hD (pc' := 18) (lv' := [(0, .inr (.inr (some 0)))]) (st' := [.inl 1, .inr (.inr (some 0))]) (h' := gr_h I J) (C := ((True ∧ True) ∧ True)) rfl ⟨⟨trivial, trivial⟩, trivial⟩ ?_
    exact L18 1 (by exact gz_m 8 (by omega))
  refine gv_run 2 true hD (pc' := 2) (lv' := [(0, .inr (.inr (some 0))), (1, .inl a1)]) (st' := [.inl a1, .inr (.inr (some 0))]) (h' := gr_h I J) (C := ((True ∧ True) ∧ True)) rfl ⟨⟨trivial, trivial⟩, trivial⟩ ?_
  refine gv_if_lt (t := 13) hD rfl rfl ⟨by exact gz_m 9 (by omega), by exact gz_m 10 (by omega)⟩ (fun c16 => ?_) (fun c16 => ?_)
  · refine gv_pick [0] rfl ?_
    exact L13 
  · have f17 := (gr_b_0_1 hI)
    refine gv_run 3 true hD (pc' := 10) (lv' := [(0, .inr (.inr (some 0))), (1, .inl a1)]) (st' := [.inl (I 0 1), .inl a1, .inr (.inr (some 0))]) (h' := gr_h I J) (C := (((True ∧ True) ∧ True) ∧ True)) rfl ⟨⟨⟨trivial, trivial⟩, trivial⟩, trivial⟩ ?_
    refine gv_icmp_lt (t := 17) hD rfl rfl ⟨⟨by exact gz_m 11 (by omega), by exact gz_m 12 (by omega)⟩, ⟨by exact gz_m 13 (by omega), by exact gz_m 14 (by omega)⟩⟩ (fun c18 => ?_) (fun c18 => ?_)
    · refine gv_run 1 true hD (pc' := 18) (lv' := [(0, .inr (.inr (some 0))), (1, .inl a1)]) (st' := [.inl 0, .inr (.inr (some 0))]) (h' := gr_h I J) (C := (True ∧ True)) rfl ⟨trivial, trivial⟩ ?_
      refine gv_pick [0] rfl ?_
      exact L18 0 (by exact gz_m 15 (by omega))
    · refine gv_pick [0] rfl ?_
      exact L13 
set_option maxHeartbeats 8000000 in
set_option maxRecDepth 100000 in
theorem r_noPlace {ws0 : List Cond} {tb : String → gz_T} (hws : ∀ w ∈ gr_ws, w ∈ ws0) (htb : tb RX13 = gr_T) (ext : gz_Sh) (I : gr_I) (J : gr_J) (hI : gr_Inv I) (a1 : Int) (ha1 : (-2147483648) ≤ a1 ∧ a1 ≤ 2147483647)  : ∃ r h', gz_Ev ws0 tb 1 (yX13_noPlace, cX13_noPlace, 2, (some .boolean)) [.inr (.inr (some 0)), .inl a1] (gr_sh ++ ext) (gr_h I J) r (gr_sh ++ ext) h' 0 0 ∧ (∃ (I' : gr_I) (J' : gr_J), h' = gr_h I' J' ∧ gr_Inv I' ∧ gr_fr [0] [] I I' ∧ gr_fj [0] [] J J' ∧ (∃ z : Int, r = some (.inl z) ∧ 0 ≤ z ∧ z ≤ 1 ∧ (z = 0 → 0 ≤ a1 ∧ a1 ≤ 7))) := by
  have FI : gr_fr [0] [] I I := fun _ _ _ => rfl
  have FJ : gr_fj [0] [] J J := fun _ _ _ => rfl
  have hD : gv_D (gr_E ws0 tb 0 (yX13_noPlace, cX13_noPlace, 2, (some .boolean)) kX13_noPlace) := gq_of oX13_noPlace
  refine gr_ev (d := 0) (l := kX13_noPlace) (Po := fun r h' => (∃ (I' : gr_I) (J' : gr_J), h' = gr_h I' J' ∧ gr_Inv I' ∧ gr_fr [0] [] I I' ∧ gr_fj [0] [] J J' ∧ (∃ z : Int, r = some (.inl z) ∧ 0 ≤ z ∧ z ≤ 1 ∧ (z = 0 → 0 ≤ a1 ∧ a1 ≤ 7)))) htb rfl (Nat.le_of_ble_eq_true rfl) ?_
  have L16 : ∀ (s1_1 : Int), ((0 ≤ s1_1 ∧ s1_1 ≤ 1) ∧ (s1_1 = 0 → 0 ≤ a1 ∧ a1 ≤ 7)) → gv_X (gr_E ws0 tb 0 (yX13_noPlace, cX13_noPlace, 2, (some .boolean)) kX13_noPlace) (gv_Q cX13_noPlace (some .boolean) (gr_sh ++ ext) (fun r h' => (∃ (I' : gr_I) (J' : gr_J), h' = gr_h I' J' ∧ gr_Inv I' ∧ gr_fr [0] [] I I' ∧ gr_fj [0] [] J J' ∧ (∃ z : Int, r = some (.inl z) ∧ 0 ≤ z ∧ z ≤ 1 ∧ (z = 0 → 0 ≤ a1 ∧ a1 ≤ 7))))) (16, [(0, .inr (.inr (some 0)))], [.inl s1_1, .inr (.inr (some 0))], gr_sh ++ ext, gr_h I J) := by
    intro s1_1 m_1
    obtain ⟨hs1_1, e0_1⟩ := m_1
    have L31 : ∀ (I2 : gr_I) (J3 : gr_J) (s0_4 : Int), gr_Inv I2 → gr_fr [0] [] I I2 → gr_fj [0] [] J J3 → ((0 ≤ s0_4 ∧ s0_4 ≤ 1) ∧ (s0_4 = 0 → 0 ≤ a1 ∧ a1 ≤ 7)) → gv_X (gr_E ws0 tb 0 (yX13_noPlace, cX13_noPlace, 2, (some .boolean)) kX13_noPlace) (gv_Q cX13_noPlace (some .boolean) (gr_sh ++ ext) (fun r h' => (∃ (I' : gr_I) (J' : gr_J), h' = gr_h I' J' ∧ gr_Inv I' ∧ gr_fr [0] [] I I' ∧ gr_fj [0] [] J J' ∧ (∃ z : Int, r = some (.inl z) ∧ 0 ≤ z ∧ z ≤ 1 ∧ (z = 0 → 0 ≤ a1 ∧ a1 ≤ 7))))) (31, [], [.inl s0_4], gr_sh ++ ext, gr_h I2 J3) := by
      intro I2 J3 s0_4 hI2 FI2 FJ3 m_4
      clear hs1_1 e0_1
      obtain ⟨hs0_4, e0_4⟩ := m_4
      exact gv_zret hD rfl (by exact gz_m 0 (by omega)) ⟨I2, J3, rfl, hI2, FI2, FJ3, ⟨_, rfl, by exact gz_m 1 (by omega)⟩⟩
    refine gv_run 1 true hD (pc' := 19) (lv' := [(0, .inr (.inr (some 0)))]) (st' := []) (h' := gz_up (gr_h I J) 0 0 (.inl s1_1)) (C := (True ∧ True)) rfl ⟨trivial, trivial⟩ ?_
    refine gr_st hI FI rfl rfl ⟨⟨by show 0 ≤ _; exact gz_m 2 (by omega), by show _ ≤ 2; exact gz_m 3 (by omega)⟩, trivial⟩ (fun I5 hI5 FI5 q6 p6 => ?_)
    have f7 := (gr_b_0_0 hI5)
    refine gv_run 2 true hD (pc' := 23) (lv' := [(0, .inr (.inr (some 0)))]) (st' := [.inl (I5 0 0)]) (h' := gr_h I5 J) (C := ((True ∧ True) ∧ True)) rfl ⟨⟨trivial, trivial⟩, trivial⟩ ?_
    refine gv_if_eq (t := 30) hD rfl rfl ⟨by exact gz_m 4 (by omega), by exact gz_m 5 (by omega)⟩ (fun c8 => ?_) (fun c8 => ?_)
    · refine gv_run 1 true hD (pc' := 31) (lv' := [(0, .inr (.inr (some 0)))]) (st' := [.inl 0]) (h' := gr_h I5 J) (C := (True ∧ True)) rfl ⟨trivial, trivial⟩ ?_
      refine gv_pick [] rfl ?_
      exact L31 I5 J 0 hI5 FI5 FJ (by exact gz_m 6 (by omega))
    · refine gv_run 2 true hD (pc' := 31) (lv' := [(0, .inr (.inr (some 0)))]) (st' := [.inl 1]) (h' := gr_h I5 J) (C := ((True ∧ True) ∧ True)) rfl ⟨⟨trivial, trivial⟩, trivial⟩ ?_
      refine gv_pick [] rfl ?_
      exact L31 I5 J 1 hI5 FI5 FJ (by exact gz_m 7 (by omega))
  have L11 : gv_X (gr_E ws0 tb 0 (yX13_noPlace, cX13_noPlace, 2, (some .boolean)) kX13_noPlace) (gv_Q cX13_noPlace (some .boolean) (gr_sh ++ ext) (fun r h' => (∃ (I' : gr_I) (J' : gr_J), h' = gr_h I' J' ∧ gr_Inv I' ∧ gr_fr [0] [] I I' ∧ gr_fj [0] [] J J' ∧ (∃ z : Int, r = some (.inl z) ∧ 0 ≤ z ∧ z ≤ 1 ∧ (z = 0 → 0 ≤ a1 ∧ a1 ≤ 7))))) (11, [(0, .inr (.inr (some 0)))], [.inr (.inr (some 0))], gr_sh ++ ext, gr_h I J) := by
    refine gv_run 2 true hD (pc' := 16) (lv' := [(0, .inr (.inr (some 0)))]) (st' := [.inl 1, .inr (.inr (some 0))]) (h' := gr_h I J) (C := ((True ∧ True) ∧ True)) rfl ⟨⟨trivial, trivial⟩, trivial⟩ ?_
    exact L16 1 (by exact gz_m 8 (by omega))
  refine gv_run 2 true hD (pc' := 2) (lv' := [(0, .inr (.inr (some 0))), (1, .inl a1)]) (st' := [.inl a1, .inr (.inr (some 0))]) (h' := gr_h I J) (C := ((True ∧ True) ∧ True)) rfl ⟨⟨trivial, trivial⟩, trivial⟩ ?_
  refine gv_if_lt (t := 11) hD rfl rfl ⟨by exact gz_m 9 (by omega), by exact gz_m 10 (by omega)⟩ (fun c10 => ?_) (fun c10 => ?_)
  · refine gv_pick [0] rfl ?_
    exact L11 
  · refine gv_run 2 true hD (pc' := 8) (lv' := [(0, .inr (.inr (some 0))), (1, .inl a1)]) (st' := [.inl 7, .inl a1, .inr (.inr (some 0))]) (h' := gr_h I J) (C := ((True ∧ True) ∧ True)) rfl ⟨⟨trivial, trivial⟩, trivial⟩ ?_
    refine gv_icmp_le (t := 15) hD rfl rfl ⟨⟨by exact gz_m 11 (by omega), by exact gz_m 12 (by omega)⟩, ⟨by exact gz_m 13 (by omega), by exact gz_m 14 (by omega)⟩⟩ (fun c11 => ?_) (fun c11 => ?_)
    · refine gv_run 1 true hD (pc' := 16) (lv' := [(0, .inr (.inr (some 0))), (1, .inl a1)]) (st' := [.inl 0, .inr (.inr (some 0))]) (h' := gr_h I J) (C := (True ∧ True)) rfl ⟨trivial, trivial⟩ ?_
      refine gv_pick [0] rfl ?_
      exact L16 0 (by exact gz_m 15 (by omega))
    · refine gv_pick [0] rfl ?_
      exact L11 
set_option maxHeartbeats 8000000 in
set_option maxRecDepth 100000 in
theorem r_price {ws0 : List Cond} {tb : String → gz_T} (hws : ∀ w ∈ gr_ws, w ∈ ws0) (htb : tb RX13 = gr_T) (ext : gz_Sh) (I : gr_I) (J : gr_J) (hI : gr_Inv I) (a1 : Int) (ha1 : (-2147483648) ≤ a1 ∧ a1 ≤ 2147483647)  : ∃ r h', gz_Ev ws0 tb 1 (yX13_price, cX13_price, 2, (some .int)) [.inr (.inr (some 0)), .inl a1] (gr_sh ++ ext) (gr_h I J) r (gr_sh ++ ext) h' 0 0 ∧ (∃ (I' : gr_I) (J' : gr_J), h' = gr_h I' J' ∧ gr_Inv I' ∧ gr_fr [0] [] I I' ∧ gr_fj [0] [] J J' ∧ (∃ z : Int, r = some (.inl z) ∧ (-2147483648) ≤ z ∧ z ≤ 2147483647)) := by
  have FI : gr_fr [0] [] I I := fun _ _ _ => rfl
  have FJ : gr_fj [0] [] J J := fun _ _ _ => rfl
  have hD : gv_D (gr_E ws0 tb 0 (yX13_price, cX13_price, 2, (some .int)) kX13_price) := gq_of oX13_price
  refine gr_ev (d := 0) (l := kX13_price) (Po := fun r h' => (∃ (I' : gr_I) (J' : gr_J), h' = gr_h I' J' ∧ gr_Inv I' ∧ gr_fr [0] [] I I' ∧ gr_fj [0] [] J J' ∧ (∃ z : Int, r = some (.inl z) ∧ (-2147483648) ≤ z ∧ z ≤ 2147483647))) htb rfl (Nat.le_of_ble_eq_true rfl) ?_
  have L27 : ∀ (I1 : gr_I) (J2 : gr_J) (s0_3 : Int), gr_Inv I1 → gr_fr [0] [] I I1 → gr_fj [0] [] J J2 → (((-2147483648) ≤ s0_3 ∧ s0_3 ≤ 2147483647)) → gv_X (gr_E ws0 tb 0 (yX13_price, cX13_price, 2, (some .int)) kX13_price) (gv_Q cX13_price (some .int) (gr_sh ++ ext) (fun r h' => (∃ (I' : gr_I) (J' : gr_J), h' = gr_h I' J' ∧ gr_Inv I' ∧ gr_fr [0] [] I I' ∧ gr_fj [0] [] J J' ∧ (∃ z : Int, r = some (.inl z) ∧ (-2147483648) ≤ z ∧ z ≤ 2147483647)))) (27, [], [.inl s0_3], gr_sh ++ ext, gr_h I1 J2) := by
    intro I1 J2 s0_3 hI1 FI1 FJ2 m_3
    have hs0_3 := m_3
    exact gv_iret hD rfl ⟨I1, J2, rfl, hI1, FI1, FJ2, ⟨_, rfl, by exact gz_m 0 (by omega)⟩⟩
  have L17 : ∀ (I4 : gr_I) (J5 : gr_J) , gr_Inv I4 → gr_fr [0] [] I I4 → gr_fj [0] [] J J5 → gv_X (gr_E ws0 tb 0 (yX13_price, cX13_price, 2, (some .int)) kX13_price) (gv_Q cX13_price (some .int) (gr_sh ++ ext) (fun r h' => (∃ (I' : gr_I) (J' : gr_J), h' = gr_h I' J' ∧ gr_Inv I' ∧ gr_fr [0] [] I I' ∧ gr_fj [0] [] J J' ∧ (∃ z : Int, r = some (.inl z) ∧ (-2147483648) ≤ z ∧ z ≤ 2147483647)))) (17, [], [], gr_sh ++ ext, gr_h I4 J5) := by
    intro I4 J5 hI4 FI4 FJ5
    refine gv_run 2 true hD (pc' := 27) (lv' := []) (st' := [.inl (-1)]) (h' := gr_h I4 J5) (C := ((True ∧ True) ∧ True)) rfl ⟨⟨trivial, trivial⟩, trivial⟩ ?_
    exact L27 I4 J5 (-1) hI4 FI4 FJ5 (by exact gz_m 1 (by omega))
  refine gv_run 3 true hD (pc' := 5) (lv' := [(0, .inr (.inr (some 0))), (1, .inl a1)]) (st' := []) (h' := gz_up (gr_h I J) 0 0 (.inl 0)) (C := (((True ∧ True) ∧ True) ∧ True)) rfl ⟨⟨⟨trivial, trivial⟩, trivial⟩, trivial⟩ ?_
  refine gr_st hI FI rfl rfl ⟨⟨by show 0 ≤ _; exact gz_m 2 (by omega), by show _ ≤ 2; exact gz_m 3 (by omega)⟩, trivial⟩ (fun I7 hI7 FI7 q8 p8 => ?_)
  refine gv_run 1 true hD (pc' := 6) (lv' := [(0, .inr (.inr (some 0))), (1, .inl a1)]) (st' := [.inl a1]) (h' := gr_h I7 J) (C := (True ∧ True)) rfl ⟨trivial, trivial⟩ ?_
  refine gv_if_lt (t := 17) hD rfl rfl ⟨by exact gz_m 4 (by omega), by exact gz_m 5 (by omega)⟩ (fun c9 => ?_) (fun c9 => ?_)
  · refine gv_pick [] rfl ?_
    exact L17 I7 J hI7 FI7 FJ
  · have f10 := (gr_b_0_186 hI7)
    refine gv_run 3 true hD (pc' := 14) (lv' := [(0, .inr (.inr (some 0))), (1, .inl a1)]) (st' := [.inl (I7 0 186), .inl a1]) (h' := gr_h I7 J) (C := (((True ∧ True) ∧ True) ∧ True)) rfl ⟨⟨⟨trivial, trivial⟩, trivial⟩, trivial⟩ ?_
    refine gv_icmp_lt (t := 21) hD rfl rfl ⟨⟨by exact gz_m 6 (by omega), by exact gz_m 7 (by omega)⟩, ⟨by exact gz_m 8 (by omega), by exact gz_m 9 (by omega)⟩⟩ (fun c11 => ?_) (fun c11 => ?_)
    · have f12 := (gr_b_112 hI7 (Int.toNat a1))
      refine gv_run 4 true hD (pc' := 27) (lv' := [(0, .inr (.inr (some 0))), (1, .inl a1)]) (st' := [.inl (I7 112 (Int.toNat a1))]) (h' := gr_h I7 J) (C := ((((True ∧ True) ∧ True) ∧ True) ∧ (0 ≤ a1 ∧ a1 < ((16 : Nat) : Int)))) rfl ⟨⟨⟨⟨trivial, trivial⟩, trivial⟩, trivial⟩, ⟨by exact gz_m 10 (by omega), by exact gz_m 11 (by omega)⟩⟩ ?_
      refine gv_pick [] rfl ?_
      exact L27 I7 J ((I7 112 (Int.toNat a1))) hI7 FI7 FJ (by exact gz_m 12 (by omega))
    · refine gv_pick [] rfl ?_
      exact L17 I7 J hI7 FI7 FJ
set_option maxHeartbeats 8000000 in
set_option maxRecDepth 100000 in
theorem r_rule {ws0 : List Cond} {tb : String → gz_T} (hws : ∀ w ∈ gr_ws, w ∈ ws0) (htb : tb RX13 = gr_T) (ext : gz_Sh) (I : gr_I) (J : gr_J) (hI : gr_Inv I)    : ∃ r h', gz_Ev ws0 tb 1 (yX13_rule, cX13_rule, 1, (some .int)) [.inr (.inr (some 0))] (gr_sh ++ ext) (gr_h I J) r (gr_sh ++ ext) h' 0 0 ∧ (∃ (I' : gr_I) (J' : gr_J), h' = gr_h I' J' ∧ gr_Inv I' ∧ gr_fr [0] [] I I' ∧ gr_fj [0] [] J J' ∧ (∃ z : Int, r = some (.inl z) ∧ 0 ≤ z ∧ z ≤ 6)) := by
  have FI : gr_fr [0] [] I I := fun _ _ _ => rfl
  have FJ : gr_fj [0] [] J J := fun _ _ _ => rfl
  have hD : gv_D (gr_E ws0 tb 0 (yX13_rule, cX13_rule, 1, (some .int)) kX13_rule) := gq_of oX13_rule
  refine gr_ev (d := 0) (l := kX13_rule) (Po := fun r h' => (∃ (I' : gr_I) (J' : gr_J), h' = gr_h I' J' ∧ gr_Inv I' ∧ gr_fr [0] [] I I' ∧ gr_fj [0] [] J J' ∧ (∃ z : Int, r = some (.inl z) ∧ 0 ≤ z ∧ z ≤ 6))) htb rfl (Nat.le_of_ble_eq_true rfl) ?_
  refine gv_run 3 true hD (pc' := 5) (lv' := [(0, .inr (.inr (some 0)))]) (st' := []) (h' := gz_up (gr_h I J) 0 0 (.inl 0)) (C := (((True ∧ True) ∧ True) ∧ True)) rfl ⟨⟨⟨trivial, trivial⟩, trivial⟩, trivial⟩ ?_
  refine gr_st hI FI rfl rfl ⟨⟨by show 0 ≤ _; exact gz_m 0 (by omega), by show _ ≤ 2; exact gz_m 1 (by omega)⟩, trivial⟩ (fun I1 hI1 FI1 q2 p2 => ?_)
  have f3 := (gr_b_0_79 hI1)
  refine gv_run 2 true hD (pc' := 9) (lv' := [(0, .inr (.inr (some 0)))]) (st' := [.inl (I1 0 79)]) (h' := gr_h I1 J) (C := ((True ∧ True) ∧ True)) rfl ⟨⟨trivial, trivial⟩, trivial⟩ ?_
  exact gv_iret hD rfl ⟨I1, J, rfl, hI1, FI1, FJ, ⟨_, rfl, by exact gz_m 2 (by omega)⟩⟩
set_option maxHeartbeats 8000000 in
set_option maxRecDepth 100000 in
theorem r_trees {ws0 : List Cond} {tb : String → gz_T} (hws : ∀ w ∈ gr_ws, w ∈ ws0) (htb : tb RX13 = gr_T) (ext : gz_Sh) (I : gr_I) (J : gr_J) (hI : gr_Inv I)    : ∃ r h', gz_Ev ws0 tb 1 (yX13_trees, cX13_trees, 1, (some .long)) [.inr (.inr (some 0))] (gr_sh ++ ext) (gr_h I J) r (gr_sh ++ ext) h' 0 0 ∧ (∃ (I' : gr_I) (J' : gr_J), h' = gr_h I' J' ∧ gr_Inv I' ∧ gr_fr [0] [] I I' ∧ gr_fj [0] [] J J' ∧ (∃ z : Int64, r = some (.inr (.inl z)))) := by
  have FI : gr_fr [0] [] I I := fun _ _ _ => rfl
  have FJ : gr_fj [0] [] J J := fun _ _ _ => rfl
  have hD : gv_D (gr_E ws0 tb 0 (yX13_trees, cX13_trees, 1, (some .long)) kX13_trees) := gq_of oX13_trees
  refine gr_ev (d := 0) (l := kX13_trees) (Po := fun r h' => (∃ (I' : gr_I) (J' : gr_J), h' = gr_h I' J' ∧ gr_Inv I' ∧ gr_fr [0] [] I I' ∧ gr_fj [0] [] J J' ∧ (∃ z : Int64, r = some (.inr (.inl z))))) htb rfl (Nat.le_of_ble_eq_true rfl) ?_
  refine gv_run 3 true hD (pc' := 5) (lv' := [(0, .inr (.inr (some 0)))]) (st' := []) (h' := gz_up (gr_h I J) 0 0 (.inl 0)) (C := (((True ∧ True) ∧ True) ∧ True)) rfl ⟨⟨⟨trivial, trivial⟩, trivial⟩, trivial⟩ ?_
  refine gr_st hI FI rfl rfl ⟨⟨by show 0 ≤ _; omega, by show _ ≤ 2; omega⟩, trivial⟩ (fun I1 hI1 FI1 q2 p2 => ?_)
  refine gv_run 2 true hD (pc' := 9) (lv' := [(0, .inr (.inr (some 0)))]) (st' := [.inr (.inl (J 0 181))]) (h' := gr_h I1 J) (C := ((True ∧ True) ∧ True)) rfl ⟨⟨trivial, trivial⟩, trivial⟩ ?_
  exact gv_lret hD rfl ⟨I1, J, rfl, hI1, FI1, FJ, ⟨_, rfl⟩⟩
set_option maxHeartbeats 8000000 in
set_option maxRecDepth 100000 in
theorem r_cellsOf {ws0 : List Cond} {tb : String → gz_T} (hws : ∀ w ∈ gr_ws, w ∈ ws0) (htb : tb RX13 = gr_T) (ext : gz_Sh) (I : gr_I) (J : gr_J) (hI : gr_Inv I) (a1 : Int) (a2 : Int) (ha1 : 0 ≤ a1 ∧ a1 ≤ 7) (ha2 : 0 ≤ a2 ∧ a2 ≤ 63)  : ∃ r h', gz_Ev ws0 tb 1 (yX13_cellsOf, cX13_cellsOf, 3, (some .int)) [.inr (.inr (some 0)), .inl a1, .inl a2] (gr_sh ++ ext) (gr_h I J) r (gr_sh ++ ext) h' 0 0 ∧ (h' = gr_h I J ∧ (∃ z : Int, r = some (.inl z) ∧ 0 ≤ z ∧ z ≤ 24)) := by
  have hD : gv_D (gr_E ws0 tb 0 (yX13_cellsOf, cX13_cellsOf, 3, (some .int)) kX13_cellsOf) := gq_of oX13_cellsOf
  refine gr_ev (d := 0) (l := kX13_cellsOf) (Po := fun r h' => (h' = gr_h I J ∧ (∃ z : Int, r = some (.inl z) ∧ 0 ≤ z ∧ z ≤ 24))) htb rfl (Nat.le_of_ble_eq_true rfl) ?_
  refine gv_run 7 true hD (pc' := 12) (lv' := [(0, .inr (.inr (some 0))), (1, .inl a1), (2, .inl a2)]) (st' := [.inr (.inr (some 37)), .inl (24 * a1), .inr (.inr (some 31))]) (h' := gr_h I J) (C := (((((((True ∧ True) ∧ True) ∧ True) ∧ True) ∧ True) ∧ True) ∧ True)) rfl ⟨⟨⟨⟨⟨⟨⟨trivial, trivial⟩, trivial⟩, trivial⟩, trivial⟩, trivial⟩, trivial⟩, trivial⟩ ?_
  have f1 := (gr_b_37 hI (Int.toNat (((64 * a1) + a2))))
  refine gv_run 6 true hD (pc' := 19) (lv' := [(0, .inr (.inr (some 0))), (1, .inl a1), (2, .inl a2)]) (st' := [.inl (I 37 (Int.toNat (((64 * a1) + a2)))), .inl (24 * a1), .inr (.inr (some 31))]) (h' := gr_h I J) (C := ((((((True ∧ True) ∧ True) ∧ True) ∧ True) ∧ True) ∧ (0 ≤ (((64 * a1) + a2)) ∧ (((64 * a1) + a2)) < ((512 : Nat) : Int)))) rfl ⟨⟨⟨⟨⟨⟨trivial, trivial⟩, trivial⟩, trivial⟩, trivial⟩, trivial⟩, ⟨by exact gz_m 0 (by omega), by exact gz_m 1 (by omega)⟩⟩ ?_
  have f2 := (gr_b_31 hI (Int.toNat (((24 * a1) + (I 37 (Int.toNat (((64 * a1) + a2))))))))
  refine gv_run 2 true hD (pc' := 21) (lv' := [(0, .inr (.inr (some 0))), (1, .inl a1), (2, .inl a2)]) (st' := [.inl (I 31 (Int.toNat (((24 * a1) + (I 37 (Int.toNat (((64 * a1) + a2))))))))]) (h' := gr_h I J) (C := ((True ∧ True) ∧ (0 ≤ (((24 * a1) + (I 37 (Int.toNat (((64 * a1) + a2)))))) ∧ (((24 * a1) + (I 37 (Int.toNat (((64 * a1) + a2)))))) < ((192 : Nat) : Int)))) rfl ⟨⟨trivial, trivial⟩, ⟨by exact gz_m 2 (by omega), by exact gz_m 3 (by omega)⟩⟩ ?_
  exact gv_iret hD rfl ⟨rfl, ⟨_, rfl, by exact gz_m 4 (by omega)⟩⟩
set_option maxHeartbeats 8000000 in
set_option maxRecDepth 100000 in
theorem r_isIn {ws0 : List Cond} {tb : String → gz_T} (hws : ∀ w ∈ gr_ws, w ∈ ws0) (htb : tb RX13 = gr_T) (ext : gz_Sh) (I : gr_I) (J : gr_J) (hI : gr_Inv I) (a1 : Int) (a2 : Int) (a3 : Int) (ha1 : 0 ≤ a1 ∧ a1 ≤ 7) (ha2 : (-16) ≤ a2 ∧ a2 ≤ (-1)) (ha3 : (-2147483648) ≤ a3 ∧ a3 ≤ 2147483647)  : ∃ r h', gz_Ev ws0 tb 1 (yX13_isIn, cX13_isIn, 4, (some .boolean)) [.inr (.inr (some 0)), .inl a1, .inl a2, .inl a3] (gr_sh ++ ext) (gr_h I J) r (gr_sh ++ ext) h' 0 0 ∧ (h' = gr_h I J ∧ (∃ z : Int, r = some (.inl z) ∧ 0 ≤ z ∧ z ≤ 1)) := by
  have hD : gv_D (gr_E ws0 tb 0 (yX13_isIn, cX13_isIn, 4, (some .boolean)) kX13_isIn) := gq_of oX13_isIn
  refine gr_ev (d := 0) (l := kX13_isIn) (Po := fun r h' => (h' = gr_h I J ∧ (∃ z : Int, r = some (.inl z) ∧ 0 ≤ z ∧ z ≤ 1))) htb rfl (Nat.le_of_ble_eq_true rfl) ?_
  have L29 : ∀ (s0_1 : Int), ((0 ≤ s0_1 ∧ s0_1 ≤ 1)) → gv_X (gr_E ws0 tb 0 (yX13_isIn, cX13_isIn, 4, (some .boolean)) kX13_isIn) (gv_Q cX13_isIn (some .boolean) (gr_sh ++ ext) (fun r h' => (h' = gr_h I J ∧ (∃ z : Int, r = some (.inl z) ∧ 0 ≤ z ∧ z ≤ 1)))) (29, [], [.inl s0_1], gr_sh ++ ext, gr_h I J) := by
    intro s0_1 m_1
    have hs0_1 := m_1
    exact gv_zret hD rfl (by exact gz_m 0 (by omega)) ⟨rfl, ⟨_, rfl, by exact gz_m 1 (by omega)⟩⟩
  refine gv_run 7 true hD (pc' := 10) (lv' := [(0, .inr (.inr (some 0))), (1, .inl a1), (2, .inl a2), (3, .inl a3)]) (st' := [.inl ((16 * a1) - 1), .inr (.inr (some 26))]) (h' := gr_h I J) (C := (((((((True ∧ True) ∧ True) ∧ True) ∧ True) ∧ True) ∧ True) ∧ True)) rfl ⟨⟨⟨⟨⟨⟨⟨trivial, trivial⟩, trivial⟩, trivial⟩, trivial⟩, trivial⟩, trivial⟩, trivial⟩ ?_
  have f2 := (gr_b_26 hI (Int.toNat ((((16 * a1) - 1) - a2))))
  refine gv_run 3 true hD (pc' := 13) (lv' := [(0, .inr (.inr (some 0))), (1, .inl a1), (2, .inl a2), (3, .inl a3)]) (st' := [.inl (I 26 (Int.toNat ((((16 * a1) - 1) - a2))))]) (h' := gr_h I J) (C := (((True ∧ True) ∧ True) ∧ (0 ≤ ((((16 * a1) - 1) - a2)) ∧ ((((16 * a1) - 1) - a2)) < ((128 : Nat) : Int)))) rfl ⟨⟨⟨trivial, trivial⟩, trivial⟩, ⟨by exact gz_m 2 (by omega), by exact gz_m 3 (by omega)⟩⟩ ?_
  have f3 := gw_any (Int32.ofInt ((I 26 (Int.toNat ((((16 * a1) - 1) - a2))))) >>> (Int32.ofInt (a3 - 97) &&& 31))
  have f4 := gw_and (x := (((Int32.ofInt ((I 26 (Int.toNat ((((16 * a1) - 1) - a2))))) >>> (Int32.ofInt (a3 - 97) &&& 31)).toInt))) (y := 1) ⟨by exact gz_m 4 (by omega), by exact gz_m 5 (by omega)⟩
  refine gv_run 7 true hD (pc' := 21) (lv' := [(0, .inr (.inr (some 0))), (1, .inl a1), (2, .inl a2), (3, .inl a3)]) (st' := [.inl 1, .inl ((Int32.ofInt (((Int32.ofInt ((I 26 (Int.toNat ((((16 * a1) - 1) - a2))))) >>> (Int32.ofInt (a3 - 97) &&& 31)).toInt)) &&& Int32.ofInt 1).toInt)]) (h' := gr_h I J) (C := (((((((True ∧ True) ∧ True) ∧ True) ∧ True) ∧ True) ∧ True) ∧ True)) rfl ⟨⟨⟨⟨⟨⟨⟨trivial, trivial⟩, trivial⟩, trivial⟩, trivial⟩, trivial⟩, trivial⟩, trivial⟩ ?_
  refine gv_icmp_ne (t := 28) hD rfl rfl ⟨⟨by exact gz_m 6 (by omega), by exact gz_m 7 (by omega)⟩, ⟨by exact gz_m 8 (by omega), by exact gz_m 9 (by omega)⟩⟩ (fun c5 => ?_) (fun c5 => ?_)
  · refine gv_run 1 true hD (pc' := 29) (lv' := [(0, .inr (.inr (some 0))), (1, .inl a1), (2, .inl a2), (3, .inl a3)]) (st' := [.inl 0]) (h' := gr_h I J) (C := (True ∧ True)) rfl ⟨trivial, trivial⟩ ?_
    refine gv_pick [] rfl ?_
    exact L29 0 (by exact gz_m 10 (by omega))
  · refine gv_run 2 true hD (pc' := 29) (lv' := [(0, .inr (.inr (some 0))), (1, .inl a1), (2, .inl a2), (3, .inl a3)]) (st' := [.inl 1]) (h' := gr_h I J) (C := ((True ∧ True) ∧ True)) rfl ⟨⟨trivial, trivial⟩, trivial⟩ ?_
    refine gv_pick [] rfl ?_
    exact L29 1 (by exact gz_m 11 (by omega))
set_option maxHeartbeats 8000000 in
set_option maxRecDepth 100000 in
theorem r_stands {ws0 : List Cond} {tb : String → gz_T} (hws : ∀ w ∈ gr_ws, w ∈ ws0) (htb : tb RX13 = gr_T) (ext : gz_Sh) (I : gr_I) (J : gr_J) (hI : gr_Inv I) (a1 : Int) (a2 : Int) (a3 : Int) (ha1 : 0 ≤ a1 ∧ a1 ≤ 7) (ha2 : (-16) ≤ a2 ∧ a2 ≤ 32015) (ha3 : 0 ≤ a3 ∧ a3 ≤ 24)  : ∃ r h', gz_Ev ws0 tb 2 (yX13_stands, cX13_stands, 6, (some .int)) [.inr (.inr (some 0)), .inl a1, .inl a2, .inl a3] (gr_sh ++ ext) (gr_h I J) r (gr_sh ++ ext) h' 0 0 ∧ (h' = gr_h I J ∧ (∃ z : Int, r = some (.inl z) ∧ (-1) ≤ z ∧ z ≤ 15 ∧ (z < 0 ∨ a3 + z ≤ I 0 126))) := by
  have hD : gv_D (gr_E ws0 tb 1 (yX13_stands, cX13_stands, 6, (some .int)) kX13_stands) := gq_of oX13_stands
  refine gr_ev (d := 1) (l := kX13_stands) (Po := fun r h' => (h' = gr_h I J ∧ (∃ z : Int, r = some (.inl z) ∧ (-1) ≤ z ∧ z ≤ 15 ∧ (z < 0 ∨ a3 + z ≤ I 0 126)))) htb rfl (Nat.le_of_ble_eq_true rfl) ?_
  have f1 := (gr_b_0_126 hI)
  have L32 : ∀ (s0_2 : Int), (((-1) ≤ s0_2 ∧ s0_2 ≤ 1) ∧ (s0_2 < 0 ∨ a3 + s0_2 ≤ I 0 126)) → gv_X (gr_E ws0 tb 1 (yX13_stands, cX13_stands, 6, (some .int)) kX13_stands) (gv_Q cX13_stands (some .int) (gr_sh ++ ext) (fun r h' => (h' = gr_h I J ∧ (∃ z : Int, r = some (.inl z) ∧ (-1) ≤ z ∧ z ≤ 15 ∧ (z < 0 ∨ a3 + z ≤ I 0 126))))) (32, [], [.inl s0_2], gr_sh ++ ext, gr_h I J) := by
    intro s0_2 m_2
    obtain ⟨hs0_2, e0_2⟩ := m_2
    have f3 := (gr_b_0_126 hI)
    exact gv_iret hD rfl ⟨rfl, ⟨_, rfl, by exact gz_m 0 (by omega)⟩⟩
  have L31 : gv_X (gr_E ws0 tb 1 (yX13_stands, cX13_stands, 6, (some .int)) kX13_stands) (gv_Q cX13_stands (some .int) (gr_sh ++ ext) (fun r h' => (h' = gr_h I J ∧ (∃ z : Int, r = some (.inl z) ∧ (-1) ≤ z ∧ z ≤ 15 ∧ (z < 0 ∨ a3 + z ≤ I 0 126))))) (31, [], [], gr_sh ++ ext, gr_h I J) := by
    have f5 := (gr_b_0_126 hI)
    refine gv_run 1 true hD (pc' := 32) (lv' := []) (st' := [.inl (-1)]) (h' := gr_h I J) (C := (True ∧ True)) rfl ⟨trivial, trivial⟩ ?_
    exact L32 (-1) (by exact gz_m 1 (by omega))
  have L55 : ∀ (n : Nat) (v4_6 : Int) (v5_6 : Int), (16 - v5_6).toNat < n → ((0 ≤ a2 ∧ a2 ≤ 32015) ∧ (0 ≤ a3 ∧ a3 ≤ 24) ∧ (0 ≤ v4_6 ∧ v4_6 ≤ 15) ∧ (0 ≤ v5_6 ∧ v5_6 ≤ 15) ∧ (a3 + v4_6 ≤ I 0 126)) → gv_X (gr_E ws0 tb 1 (yX13_stands, cX13_stands, 6, (some .int)) kX13_stands) (gv_Q cX13_stands (some .int) (gr_sh ++ ext) (fun r h' => (h' = gr_h I J ∧ (∃ z : Int, r = some (.inl z) ∧ (-1) ≤ z ∧ z ≤ 15 ∧ (z < 0 ∨ a3 + z ≤ I 0 126))))) (55, [(0, .inr (.inr (some 0))), (2, .inl a2), (3, .inl a3), (4, .inl v4_6), (5, .inl v5_6)], [], gr_sh ++ ext, gr_h I J) := by
    intro n
    induction n with
    | zero => intro v4_6 v5_6 hn; exact gz_m 2 (by omega)
    | succ n ih55 =>
      intro v4_6 v5_6 hn m_6
      obtain ⟨ha2_6, ha3_6, hv4_6, hv5_6, e0_6⟩ := m_6
      have f7 := (gr_b_0_126 hI)
      refine gv_run 2 true hD (pc' := 59) (lv' := [(0, .inr (.inr (some 0))), (2, .inl a2), (3, .inl a3), (4, .inl v4_6), (5, .inl v5_6)]) (st' := [.inl v4_6, .inl v5_6]) (h' := gr_h I J) (C := ((True ∧ True) ∧ True)) rfl ⟨⟨trivial, trivial⟩, trivial⟩ ?_
      refine gv_icmp_ge (t := 93) hD rfl rfl ⟨⟨by exact gz_m 3 (by omega), by exact gz_m 4 (by omega)⟩, ⟨by exact gz_m 5 (by omega), by exact gz_m 6 (by omega)⟩⟩ (fun c8 => ?_) (fun c8 => ?_)
      · refine gv_run 1 true hD (pc' := 95) (lv' := [(0, .inr (.inr (some 0))), (2, .inl a2), (3, .inl a3), (4, .inl v4_6), (5, .inl v5_6)]) (st' := [.inl v4_6]) (h' := gr_h I J) (C := (True ∧ True)) rfl ⟨trivial, trivial⟩ ?_
        exact gv_iret hD rfl ⟨rfl, ⟨_, rfl, by exact gz_m 7 (by omega)⟩⟩
      · have f9 := (gr_b_76 hI (Int.toNat ((a3 + v5_6))))
        refine gv_run 6 true hD (pc' := 71) (lv' := [(0, .inr (.inr (some 0))), (2, .inl a2), (3, .inl a3), (4, .inl v4_6), (5, .inl v5_6)]) (st' := [.inl (I 76 (Int.toNat ((a3 + v5_6))))]) (h' := gr_h I J) (C := ((((((True ∧ True) ∧ True) ∧ True) ∧ True) ∧ True) ∧ (0 ≤ (a3 + v5_6) ∧ (a3 + v5_6) < ((64 : Nat) : Int)))) rfl ⟨⟨⟨⟨⟨⟨trivial, trivial⟩, trivial⟩, trivial⟩, trivial⟩, trivial⟩, ⟨by exact gz_m 8 (by omega), by exact gz_m 9 (by omega)⟩⟩ ?_
        have f10 := gw_shr (x := a2) (y := 4) ⟨by exact gz_m 10 (by omega), by exact gz_m 11 (by omega)⟩
        refine gv_run 7 true hD (pc' := 81) (lv' := [(0, .inr (.inr (some 0))), (2, .inl a2), (3, .inl a3), (4, .inl v4_6), (5, .inl v5_6)]) (st' := [.inl (((Int32.ofInt a2 >>> (Int32.ofInt 4 &&& 31)).toInt) + v5_6), .inr (.inr (some 51)), .inl (I 76 (Int.toNat ((a3 + v5_6))))]) (h' := gr_h I J) (C := (((((((True ∧ True) ∧ True) ∧ True) ∧ True) ∧ True) ∧ True) ∧ True)) rfl ⟨⟨⟨⟨⟨⟨⟨trivial, trivial⟩, trivial⟩, trivial⟩, trivial⟩, trivial⟩, trivial⟩, trivial⟩ ?_
        have f11 := (gr_b_51 hI (Int.toNat ((((Int32.ofInt a2 >>> (Int32.ofInt 4 &&& 31)).toInt) + v5_6))))
        refine gv_run 1 true hD (pc' := 82) (lv' := [(0, .inr (.inr (some 0))), (2, .inl a2), (3, .inl a3), (4, .inl v4_6), (5, .inl v5_6)]) (st' := [.inl (I 51 (Int.toNat ((((Int32.ofInt a2 >>> (Int32.ofInt 4 &&& 31)).toInt) + v5_6)))), .inl (I 76 (Int.toNat ((a3 + v5_6))))]) (h' := gr_h I J) (C := (True ∧ (0 ≤ ((((Int32.ofInt a2 >>> (Int32.ofInt 4 &&& 31)).toInt) + v5_6)) ∧ ((((Int32.ofInt a2 >>> (Int32.ofInt 4 &&& 31)).toInt) + v5_6)) < ((82000 : Nat) : Int)))) rfl ⟨trivial, ⟨by exact gz_m 12 (by omega), by exact gz_m 13 (by omega)⟩⟩ ?_
        refine gv_icmp_eq (t := 87) hD rfl rfl ⟨⟨by exact gz_m 14 (by omega), by exact gz_m 15 (by omega)⟩, ⟨by exact gz_m 16 (by omega), by exact gz_m 17 (by omega)⟩⟩ (fun c12 => ?_) (fun c12 => ?_)
        · refine gv_run 2 true hD (pc' := 55) (lv' := [(5, .inl (v5_6 + 1)), (0, .inr (.inr (some 0))), (2, .inl a2), (3, .inl a3), (4, .inl v4_6)]) (st' := []) (h' := gr_h I J) (C := ((True ∧ True) ∧ True)) rfl ⟨⟨trivial, trivial⟩, trivial⟩ ?_
          refine gv_pick [1, 2, 3, 4, 0] rfl ?_
          exact ih55 v4_6 (v5_6 + 1) (by exact gz_m 18 (by omega)) (by exact gz_m 19 (by omega))
        · refine gv_run 1 true hD (pc' := 86) (lv' := [(0, .inr (.inr (some 0))), (2, .inl a2), (3, .inl a3), (4, .inl v4_6), (5, .inl v5_6)]) (st' := [.inl (-1)]) (h' := gr_h I J) (C := (True ∧ True)) rfl ⟨trivial, trivial⟩ ?_
          exact gv_iret hD rfl ⟨rfl, ⟨_, rfl, by exact gz_m 20 (by omega)⟩⟩
  refine gv_run 1 true hD (pc' := 1) (lv' := [(0, .inr (.inr (some 0))), (1, .inl a1), (2, .inl a2), (3, .inl a3)]) (st' := [.inl a2]) (h' := gr_h I J) (C := (True ∧ True)) rfl ⟨trivial, trivial⟩ ?_
  refine gv_if_ge (t := 33) hD rfl rfl ⟨by exact gz_m 21 (by omega), by exact gz_m 22 (by omega)⟩ (fun c13 => ?_) (fun c13 => ?_)
  · have f14 := gw_and (x := a2) (y := 15) ⟨by exact gz_m 23 (by omega), by exact gz_m 24 (by omega)⟩
    refine gv_run 7 true hD (pc' := 43) (lv' := [(4, .inl ((Int32.ofInt a2 &&& Int32.ofInt 15).toInt)), (0, .inr (.inr (some 0))), (1, .inl a1), (2, .inl a2), (3, .inl a3)]) (st' := [.inl (a3 + ((Int32.ofInt a2 &&& Int32.ofInt 15).toInt))]) (h' := gr_h I J) (C := (((((((True ∧ True) ∧ True) ∧ True) ∧ True) ∧ True) ∧ True) ∧ True)) rfl ⟨⟨⟨⟨⟨⟨⟨trivial, trivial⟩, trivial⟩, trivial⟩, trivial⟩, trivial⟩, trivial⟩, trivial⟩ ?_
    have f15 := (gr_b_0_126 hI)
    refine gv_run 2 true hD (pc' := 47) (lv' := [(4, .inl ((Int32.ofInt a2 &&& Int32.ofInt 15).toInt)), (0, .inr (.inr (some 0))), (1, .inl a1), (2, .inl a2), (3, .inl a3)]) (st' := [.inl (I 0 126), .inl (a3 + ((Int32.ofInt a2 &&& Int32.ofInt 15).toInt))]) (h' := gr_h I J) (C := ((True ∧ True) ∧ True)) rfl ⟨⟨trivial, trivial⟩, trivial⟩ ?_
    refine gv_icmp_le (t := 52) hD rfl rfl ⟨⟨by exact gz_m 25 (by omega), by exact gz_m 26 (by omega)⟩, ⟨by exact gz_m 27 (by omega), by exact gz_m 28 (by omega)⟩⟩ (fun c16 => ?_) (fun c16 => ?_)
    · refine gv_run 2 true hD (pc' := 55) (lv' := [(5, .inl 0), (4, .inl ((Int32.ofInt a2 &&& Int32.ofInt 15).toInt)), (0, .inr (.inr (some 0))), (1, .inl a1), (2, .inl a2), (3, .inl a3)]) (st' := []) (h' := gr_h I J) (C := ((True ∧ True) ∧ True)) rfl ⟨⟨trivial, trivial⟩, trivial⟩ ?_
      refine gv_pick [2, 4, 5, 1, 0] rfl ?_
      exact L55 _ (((Int32.ofInt a2 &&& Int32.ofInt 15).toInt)) 0 (Nat.lt_succ_self _) (by exact gz_m 29 (by omega))
    · refine gv_run 1 true hD (pc' := 51) (lv' := [(4, .inl ((Int32.ofInt a2 &&& Int32.ofInt 15).toInt)), (0, .inr (.inr (some 0))), (1, .inl a1), (2, .inl a2), (3, .inl a3)]) (st' := [.inl (-1)]) (h' := gr_h I J) (C := (True ∧ True)) rfl ⟨trivial, trivial⟩ ?_
      exact gv_iret hD rfl ⟨rfl, ⟨_, rfl, by exact gz_m 30 (by omega)⟩⟩
  · have f17 := (gr_b_0_126 hI)
    refine gv_run 3 true hD (pc' := 9) (lv' := [(0, .inr (.inr (some 0))), (1, .inl a1), (2, .inl a2), (3, .inl a3)]) (st' := [.inl (I 0 126), .inl a3]) (h' := gr_h I J) (C := (((True ∧ True) ∧ True) ∧ True)) rfl ⟨⟨⟨trivial, trivial⟩, trivial⟩, trivial⟩ ?_
    refine gv_icmp_ge (t := 31) hD rfl rfl ⟨⟨by exact gz_m 31 (by omega), by exact gz_m 32 (by omega)⟩, ⟨by exact gz_m 33 (by omega), by exact gz_m 34 (by omega)⟩⟩ (fun c18 => ?_) (fun c18 => ?_)
    · refine gv_pick [] rfl ?_
      exact L31 
    · have f19 := (gr_b_76 hI (Int.toNat a3))
      refine gv_run 7 true hD (pc' := 21) (lv' := [(0, .inr (.inr (some 0))), (1, .inl a1), (2, .inl a2), (3, .inl a3)]) (st' := [.inl (I 76 (Int.toNat a3)), .inl a2, .inl a1, .inr (.inr (some 0))]) (h' := gr_h I J) (C := (((((((True ∧ True) ∧ True) ∧ True) ∧ True) ∧ True) ∧ True) ∧ (0 ≤ a3 ∧ a3 < ((64 : Nat) : Int)))) rfl ⟨⟨⟨⟨⟨⟨⟨trivial, trivial⟩, trivial⟩, trivial⟩, trivial⟩, trivial⟩, trivial⟩, ⟨by exact gz_m 35 (by omega), by exact gz_m 36 (by omega)⟩⟩ ?_
      obtain ⟨r20, h20, E20, P20⟩ := r_isIn (ws0 := ws0) (tb := tb) hws htb ext I J hI a1 a2 ((I 76 (Int.toNat a3))) ⟨by exact gz_m 37 (by omega), by exact gz_m 38 (by omega)⟩ ⟨by exact gz_m 39 (by omega), by exact gz_m 40 (by omega)⟩ ⟨by exact gz_m 41 (by omega), by exact gz_m 42 (by omega)⟩ 
      obtain ⟨rfl, ⟨z20, rfl, q20⟩⟩ := P20
      refine gv_callV hD rfl (As := [.inl a1, .inl a2, .inl (I 76 (Int.toNat a3))]) (st := []) rfl (by decide) rfl rfl (gr_lV hws rfl) (Nat.le_of_ble_eq_true rfl) (gz_Ev_mono (d := 1) (by decide) E20) ?_
      show gv_X _ _ (24, [(0, .inr (.inr (some 0))), (1, .inl a1), (2, .inl a2), (3, .inl a3)], [.inl z20], gr_sh ++ ext, gr_h I J)
      refine gv_if_eq (t := 31) hD rfl rfl ⟨by exact gz_m 43 (by omega), by exact gz_m 44 (by omega)⟩ (fun c21 => ?_) (fun c21 => ?_)
      · refine gv_pick [] rfl ?_
        exact L31 
      · refine gv_run 2 true hD (pc' := 32) (lv' := [(0, .inr (.inr (some 0))), (1, .inl a1), (2, .inl a2), (3, .inl a3)]) (st' := [.inl 1]) (h' := gr_h I J) (C := ((True ∧ True) ∧ True)) rfl ⟨⟨trivial, trivial⟩, trivial⟩ ?_
        refine gv_pick [] rfl ?_
        exact L32 1 (by exact gz_m 45 (by omega))
