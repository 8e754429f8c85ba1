set_option maxHeartbeats 4000000 in
set_option maxRecDepth 100000 in
theorem r_bad {ws0 : List Cond} {tb : String → gz_T} (hws : ∀ w ∈ gr_ws, w ∈ ws0) (htb : tb RX13 = gr_T) (ext : gz_Sh) (I : gr_I) (J : gr_J) (hI : gr_Inv I)    : ∃ r h', gz_Ev ws0 tb 1 (yX13_bad, cX13_bad, 1, (some .int)) [.inr (.inr (some 0))] (gr_sh ++ ext) (gr_h I J) r (gr_sh ++ ext) h' 0 0 ∧ (∃ (I' : gr_I) (J' : gr_J), h' = gr_h I' J' ∧ gr_Inv I' ∧ gr_fr [0] [] I I' ∧ gr_fj [0] [] J J' ∧ (∃ z : Int, r = some (.inl z) ∧ 0 ≤ z ∧ z ≤ 0)) := by
  have FI : gr_fr [0] [] I I := fun _ _ _ => rfl
  have FJ : gr_fj [0] [] J J := fun _ _ _ => rfl
  have hD : gv_D (gr_E ws0 tb 0 (yX13_bad, cX13_bad, 1, (some .int)) kX13_bad) := gq_ok oX13_bad
  refine gr_ev (d := 0) (l := kX13_bad) (Po := fun r h' => (∃ (I' : gr_I) (J' : gr_J), h' = gr_h I' J' ∧ gr_Inv I' ∧ gr_fr [0] [] I I' ∧ gr_fj [0] [] J J' ∧ (∃ z : Int, r = some (.inl z) ∧ 0 ≤ z ∧ z ≤ 0))) htb rfl (Nat.le_of_ble_eq_true rfl) ?_
  refine gv_run 3 true hD (pc' := 5) (lv' := [(0, .inr (.inr (some 0)))]) (st' := []) (h' := gz_up (gr_h I J) 0 0 (.inl 1)) (C := (((True ∧ True) ∧ True) ∧ True)) rfl ⟨⟨⟨trivial, trivial⟩, trivial⟩, trivial⟩ ?_
  refine gr_st hI FI rfl rfl ⟨⟨by show 0 ≤ _; omega, by show _ ≤ 2; omega⟩, trivial⟩ (fun I1 hI1 FI1 q2 p2 => ?_)
  refine gv_run 1 true hD (pc' := 6) (lv' := [(0, .inr (.inr (some 0)))]) (st' := [.inl 0]) (h' := gr_h I1 J) (C := (True ∧ True)) rfl ⟨trivial, trivial⟩ ?_
  exact gv_iret hD rfl ⟨I1, J, rfl, hI1, FI1, FJ, ⟨_, rfl, by omega⟩⟩
set_option maxHeartbeats 4000000 in
set_option maxRecDepth 100000 in
theorem r_low {ws0 : List Cond} {tb : String → gz_T} (hws : ∀ w ∈ gr_ws, w ∈ ws0) (htb : tb RX13 = gr_T) (ext : gz_Sh) (I : gr_I) (J : gr_J) (hI : gr_Inv I) (a1 : Int) (ha1 : 0 ≤ a1 ∧ a1 ≤ 1001)  : ∃ r h', gz_Ev ws0 tb 1 (yX13_low, cX13_low, 2, (some .boolean)) [.inr (.inr (some 0)), .inl a1] (gr_sh ++ ext) (gr_h I J) r (gr_sh ++ ext) h' 0 0 ∧ (h' = gr_h I J ∧ (∃ z : Int, r = some (.inl z) ∧ 0 ≤ z ∧ z ≤ 1 ∧ ((z = 1 ∧ a1 < I 0 69 ∧ 97 ≤ I 57 (Int.toNat a1) ∧ I 57 (Int.toNat a1) ≤ 122) ∨ (z = 0 ∧ (I 0 69 ≤ a1 ∨ I 57 (Int.toNat a1) < 97 ∨ 122 < I 57 (Int.toNat a1)))))) := by
  have hD : gv_D (gr_E ws0 tb 0 (yX13_low, cX13_low, 2, (some .boolean)) kX13_low) := gq_ok oX13_low
  refine gr_ev (d := 0) (l := kX13_low) (Po := fun r h' => (h' = gr_h I J ∧ (∃ z : Int, r = some (.inl z) ∧ 0 ≤ z ∧ z ≤ 1 ∧ ((z = 1 ∧ a1 < I 0 69 ∧ 97 ≤ I 57 (Int.toNat a1) ∧ I 57 (Int.toNat a1) ≤ 122) ∨ (z = 0 ∧ (I 0 69 ≤ a1 ∨ I 57 (Int.toNat a1) < 97 ∨ 122 < I 57 (Int.toNat a1))))))) htb rfl (Nat.le_of_ble_eq_true rfl) ?_
  have L35 : ∀ (s0_1 : Int), ((0 ≤ s0_1 ∧ s0_1 ≤ 1) ∧ ((s0_1 = 1 ∧ a1 < I 0 69 ∧ 97 ≤ I 57 (Int.toNat a1) ∧ I 57 (Int.toNat a1) ≤ 122) ∨ (s0_1 = 0 ∧ (I 0 69 ≤ a1 ∨ I 57 (Int.toNat a1) < 97 ∨ 122 < I 57 (Int.toNat a1))))) → gv_X (gr_E ws0 tb 0 (yX13_low, cX13_low, 2, (some .boolean)) kX13_low) (gv_Q cX13_low (some .boolean) (gr_sh ++ ext) (fun r h' => (h' = gr_h I J ∧ (∃ z : Int, r = some (.inl z) ∧ 0 ≤ z ∧ z ≤ 1 ∧ ((z = 1 ∧ a1 < I 0 69 ∧ 97 ≤ I 57 (Int.toNat a1) ∧ I 57 (Int.toNat a1) ≤ 122) ∨ (z = 0 ∧ (I 0 69 ≤ a1 ∨ I 57 (Int.toNat a1) < 97 ∨ 122 < I 57 (Int.toNat a1)))))))) (35, [], [.inl s0_1], gr_sh ++ ext, gr_h I J) := by
    intro s0_1 m_1
    obtain ⟨hs0_1, e0_1⟩ := m_1
    exact gv_zret hD rfl (by omega) ⟨rfl, ⟨_, rfl, by omega⟩⟩
  have L34 : ((I 0 69 ≤ a1 ∨ I 57 (Int.toNat a1) < 97 ∨ 122 < I 57 (Int.toNat a1))) → gv_X (gr_E ws0 tb 0 (yX13_low, cX13_low, 2, (some .boolean)) kX13_low) (gv_Q cX13_low (some .boolean) (gr_sh ++ ext) (fun r h' => (h' = gr_h I J ∧ (∃ z : Int, r = some (.inl z) ∧ 0 ≤ z ∧ z ≤ 1 ∧ ((z = 1 ∧ a1 < I 0 69 ∧ 97 ≤ I 57 (Int.toNat a1) ∧ I 57 (Int.toNat a1) ≤ 122) ∨ (z = 0 ∧ (I 0 69 ≤ a1 ∨ I 57 (Int.toNat a1) < 97 ∨ 122 < I 57 (Int.toNat a1)))))))) (34, [], [], gr_sh ++ ext, gr_h I J) := by
    intro m_2
    have e0_2 := m_2
    refine gv_run 1 true hD (pc' := 35) (lv' := []) (st' := [.inl 0]) (h' := gr_h I J) (C := (True ∧ True)) rfl ⟨trivial, trivial⟩ ?_
    exact L35 0 (by omega)
  have f3 := (show 0 ≤ I 0 69 ∧ I 0 69 ≤ 1000 from (hI 0 69).1)
  refine gv_run 3 true hD (pc' := 5) (lv' := [(0, .inr (.inr (some 0))), (1, .inl a1)]) (st' := [.inl (I 0 69), .inl a1]) (h' := gr_h I J) (C := (((True ∧ True) ∧ True) ∧ True)) rfl ⟨⟨⟨trivial, trivial⟩, trivial⟩, trivial⟩ ?_
  refine gv_icmp_ge (t := 34) hD rfl rfl ⟨⟨by omega, by omega⟩, ⟨by omega, by omega⟩⟩ (fun c4 => ?_) (fun c4 => ?_)
  · refine gv_pick [] rfl ?_
    exact L34 (by omega)
  · have f5 := (show (-128) ≤ I 57 (Int.toNat a1) ∧ I 57 (Int.toNat a1) ≤ 127 from (hI 57 (Int.toNat a1)).1)
    refine gv_run 4 true hD (pc' := 14) (lv' := [(0, .inr (.inr (some 0))), (1, .inl a1)]) (st' := [.inl (I 57 (Int.toNat a1))]) (h' := gr_h I J) (C := ((((True ∧ True) ∧ True) ∧ True) ∧ (0 ≤ a1 ∧ a1 < ((1000 : Nat) : Int)))) rfl ⟨⟨⟨⟨trivial, trivial⟩, trivial⟩, trivial⟩, ⟨by omega, by omega⟩⟩ ?_
    refine gv_run 1 true hD (pc' := 16) (lv' := [(0, .inr (.inr (some 0))), (1, .inl a1)]) (st' := [.inl 97, .inl (I 57 (Int.toNat a1))]) (h' := gr_h I J) (C := (True ∧ True)) rfl ⟨trivial, trivial⟩ ?_
    refine gv_icmp_lt (t := 34) hD rfl rfl ⟨⟨by omega, by omega⟩, ⟨by omega, by omega⟩⟩ (fun c6 => ?_) (fun c6 => ?_)
    · refine gv_pick [] rfl ?_
      exact L34 (by omega)
    · have f7 := (show (-128) ≤ I 57 (Int.toNat a1) ∧ I 57 (Int.toNat a1) ≤ 127 from (hI 57 (Int.toNat a1)).1)
      refine gv_run 4 true hD (pc' := 25) (lv' := [(0, .inr (.inr (some 0))), (1, .inl a1)]) (st' := [.inl (I 57 (Int.toNat a1))]) (h' := gr_h I J) (C := ((((True ∧ True) ∧ True) ∧ True) ∧ (0 ≤ a1 ∧ a1 < ((1000 : Nat) : Int)))) rfl ⟨⟨⟨⟨trivial, trivial⟩, trivial⟩, trivial⟩, ⟨by omega, by omega⟩⟩ ?_
      refine gv_run 1 true hD (pc' := 27) (lv' := [(0, .inr (.inr (some 0))), (1, .inl a1)]) (st' := [.inl 122, .inl (I 57 (Int.toNat a1))]) (h' := gr_h I J) (C := (True ∧ True)) rfl ⟨trivial, trivial⟩ ?_
      refine gv_icmp_gt (t := 34) hD rfl rfl ⟨⟨by omega, by omega⟩, ⟨by omega, by omega⟩⟩ (fun c8 => ?_) (fun c8 => ?_)
      · refine gv_pick [] rfl ?_
        exact L34 (by omega)
      · refine gv_run 2 true hD (pc' := 35) (lv' := [(0, .inr (.inr (some 0))), (1, .inl a1)]) (st' := [.inl 1]) (h' := gr_h I J) (C := ((True ∧ True) ∧ True)) rfl ⟨⟨trivial, trivial⟩, trivial⟩ ?_
        refine gv_pick [] rfl ?_
        exact L35 1 (by omega)
set_option maxHeartbeats 4000000 in
set_option maxRecDepth 100000 in
theorem r_dig {ws0 : List Cond} {tb : String → gz_T} (hws : ∀ w ∈ gr_ws, w ∈ ws0) (htb : tb RX13 = gr_T) (ext : gz_Sh) (I : gr_I) (J : gr_J) (hI : gr_Inv I) (a1 : Int) (ha1 : 0 ≤ a1 ∧ a1 ≤ 1001)  : ∃ r h', gz_Ev ws0 tb 1 (yX13_dig, cX13_dig, 2, (some .boolean)) [.inr (.inr (some 0)), .inl a1] (gr_sh ++ ext) (gr_h I J) r (gr_sh ++ ext) h' 0 0 ∧ (h' = gr_h I J ∧ (∃ z : Int, r = some (.inl z) ∧ 0 ≤ z ∧ z ≤ 1 ∧ ((z = 1 ∧ a1 < I 0 69 ∧ 48 ≤ I 57 (Int.toNat a1) ∧ I 57 (Int.toNat a1) ≤ 57) ∨ (z = 0 ∧ (I 0 69 ≤ a1 ∨ I 57 (Int.toNat a1) < 48 ∨ 57 < I 57 (Int.toNat a1)))))) := by
  have hD : gv_D (gr_E ws0 tb 0 (yX13_dig, cX13_dig, 2, (some .boolean)) kX13_dig) := gq_ok oX13_dig
  refine gr_ev (d := 0) (l := kX13_dig) (Po := fun r h' => (h' = gr_h I J ∧ (∃ z : Int, r = some (.inl z) ∧ 0 ≤ z ∧ z ≤ 1 ∧ ((z = 1 ∧ a1 < I 0 69 ∧ 48 ≤ I 57 (Int.toNat a1) ∧ I 57 (Int.toNat a1) ≤ 57) ∨ (z = 0 ∧ (I 0 69 ≤ a1 ∨ I 57 (Int.toNat a1) < 48 ∨ 57 < I 57 (Int.toNat a1))))))) htb rfl (Nat.le_of_ble_eq_true rfl) ?_
  have L35 : ∀ (s0_1 : Int), ((0 ≤ s0_1 ∧ s0_1 ≤ 1) ∧ ((s0_1 = 1 ∧ a1 < I 0 69 ∧ 48 ≤ I 57 (Int.toNat a1) ∧ I 57 (Int.toNat a1) ≤ 57) ∨ (s0_1 = 0 ∧ (I 0 69 ≤ a1 ∨ I 57 (Int.toNat a1) < 48 ∨ 57 < I 57 (Int.toNat a1))))) → gv_X (gr_E ws0 tb 0 (yX13_dig, cX13_dig, 2, (some .boolean)) kX13_dig) (gv_Q cX13_dig (some .boolean) (gr_sh ++ ext) (fun r h' => (h' = gr_h I J ∧ (∃ z : Int, r = some (.inl z) ∧ 0 ≤ z ∧ z ≤ 1 ∧ ((z = 1 ∧ a1 < I 0 69 ∧ 48 ≤ I 57 (Int.toNat a1) ∧ I 57 (Int.toNat a1) ≤ 57) ∨ (z = 0 ∧ (I 0 69 ≤ a1 ∨ I 57 (Int.toNat a1) < 48 ∨ 57 < I 57 (Int.toNat a1)))))))) (35, [], [.inl s0_1], gr_sh ++ ext, gr_h I J) := by
    intro s0_1 m_1
    obtain ⟨hs0_1, e0_1⟩ := m_1
    exact gv_zret hD rfl (by omega) ⟨rfl, ⟨_, rfl, by omega⟩⟩
  have L34 : ((I 0 69 ≤ a1 ∨ I 57 (Int.toNat a1) < 48 ∨ 57 < I 57 (Int.toNat a1))) → gv_X (gr_E ws0 tb 0 (yX13_dig, cX13_dig, 2, (some .boolean)) kX13_dig) (gv_Q cX13_dig (some .boolean) (gr_sh ++ ext) (fun r h' => (h' = gr_h I J ∧ (∃ z : Int, r = some (.inl z) ∧ 0 ≤ z ∧ z ≤ 1 ∧ ((z = 1 ∧ a1 < I 0 69 ∧ 48 ≤ I 57 (Int.toNat a1) ∧ I 57 (Int.toNat a1) ≤ 57) ∨ (z = 0 ∧ (I 0 69 ≤ a1 ∨ I 57 (Int.toNat a1) < 48 ∨ 57 < I 57 (Int.toNat a1)))))))) (34, [], [], gr_sh ++ ext, gr_h I J) := by
    intro m_2
    have e0_2 := m_2
    refine gv_run 1 true hD (pc' := 35) (lv' := []) (st' := [.inl 0]) (h' := gr_h I J) (C := (True ∧ True)) rfl ⟨trivial, trivial⟩ ?_
    exact L35 0 (by omega)
  have f3 := (show 0 ≤ I 0 69 ∧ I 0 69 ≤ 1000 from (hI 0 69).1)
  refine gv_run 3 true hD (pc' := 5) (lv' := [(0, .inr (.inr (some 0))), (1, .inl a1)]) (st' := [.inl (I 0 69), .inl a1]) (h' := gr_h I J) (C := (((True ∧ True) ∧ True) ∧ True)) rfl ⟨⟨⟨trivial, trivial⟩, trivial⟩, trivial⟩ ?_
  refine gv_icmp_ge (t := 34) hD rfl rfl ⟨⟨by omega, by omega⟩, ⟨by omega, by omega⟩⟩ (fun c4 => ?_) (fun c4 => ?_)
  · refine gv_pick [] rfl ?_
    exact L34 (by omega)
  · have f5 := (show (-128) ≤ I 57 (Int.toNat a1) ∧ I 57 (Int.toNat a1) ≤ 127 from (hI 57 (Int.toNat a1)).1)
    refine gv_run 4 true hD (pc' := 14) (lv' := [(0, .inr (.inr (some 0))), (1, .inl a1)]) (st' := [.inl (I 57 (Int.toNat a1))]) (h' := gr_h I J) (C := ((((True ∧ True) ∧ True) ∧ True) ∧ (0 ≤ a1 ∧ a1 < ((1000 : Nat) : Int)))) rfl ⟨⟨⟨⟨trivial, trivial⟩, trivial⟩, trivial⟩, ⟨by omega, by omega⟩⟩ ?_
    refine gv_run 1 true hD (pc' := 16) (lv' := [(0, .inr (.inr (some 0))), (1, .inl a1)]) (st' := [.inl 48, .inl (I 57 (Int.toNat a1))]) (h' := gr_h I J) (C := (True ∧ True)) rfl ⟨trivial, trivial⟩ ?_
    refine gv_icmp_lt (t := 34) hD rfl rfl ⟨⟨by omega, by omega⟩, ⟨by omega, by omega⟩⟩ (fun c6 => ?_) (fun c6 => ?_)
    · refine gv_pick [] rfl ?_
      exact L34 (by omega)
    · have f7 := (show (-128) ≤ I 57 (Int.toNat a1) ∧ I 57 (Int.toNat a1) ≤ 127 from (hI 57 (Int.toNat a1)).1)
      refine gv_run 4 true hD (pc' := 25) (lv' := [(0, .inr (.inr (some 0))), (1, .inl a1)]) (st' := [.inl (I 57 (Int.toNat a1))]) (h' := gr_h I J) (C := ((((True ∧ True) ∧ True) ∧ True) ∧ (0 ≤ a1 ∧ a1 < ((1000 : Nat) : Int)))) rfl ⟨⟨⟨⟨trivial, trivial⟩, trivial⟩, trivial⟩, ⟨by omega, by omega⟩⟩ ?_
      refine gv_run 1 true hD (pc' := 27) (lv' := [(0, .inr (.inr (some 0))), (1, .inl a1)]) (st' := [.inl 57, .inl (I 57 (Int.toNat a1))]) (h' := gr_h I J) (C := (True ∧ True)) rfl ⟨trivial, trivial⟩ ?_
      refine gv_icmp_gt (t := 34) hD rfl rfl ⟨⟨by omega, by omega⟩, ⟨by omega, by omega⟩⟩ (fun c8 => ?_) (fun c8 => ?_)
      · refine gv_pick [] rfl ?_
        exact L34 (by omega)
      · refine gv_run 2 true hD (pc' := 35) (lv' := [(0, .inr (.inr (some 0))), (1, .inl a1)]) (st' := [.inl 1]) (h' := gr_h I J) (C := ((True ∧ True) ∧ True)) rfl ⟨⟨trivial, trivial⟩, trivial⟩ ?_
        refine gv_pick [] rfl ?_
        exact L35 1 (by omega)
set_option maxHeartbeats 4000000 in
set_option maxRecDepth 100000 in
theorem r_reads {ws0 : List Cond} {tb : String → gz_T} (hws : ∀ w ∈ gr_ws, w ∈ ws0) (htb : tb RX13 = gr_T) (ext : gz_Sh) (I : gr_I) (J : gr_J) (hI : gr_Inv I)    : ∃ r h', gz_Ev ws0 tb 1 (yX13_reads, cX13_reads, 2, none) [.inr (.inr (some 0))] (gr_sh ++ ext) (gr_h I J) r (gr_sh ++ ext) h' 0 0 ∧ (∃ (I' : gr_I) (J' : gr_J), h' = gr_h I' J' ∧ gr_Inv I' ∧ gr_fr [68, 69] [56, 57] I I' ∧ gr_fj [68, 69] [56, 57] J J' ∧ r = none ∧ (I' 0 69 = I 0 68) ∧ (I' 0 68 = 0)) := by
  have FI : gr_fr [68, 69] [56, 57] I I := fun _ _ _ => rfl
  have FJ : gr_fj [68, 69] [56, 57] J J := fun _ _ _ => rfl
  have hD : gv_D (gr_E ws0 tb 0 (yX13_reads, cX13_reads, 2, none) kX13_reads) := gq_ok oX13_reads
  refine gr_ev (d := 0) (l := kX13_reads) (Po := fun r h' => (∃ (I' : gr_I) (J' : gr_J), h' = gr_h I' J' ∧ gr_Inv I' ∧ gr_fr [68, 69] [56, 57] I I' ∧ gr_fj [68, 69] [56, 57] J J' ∧ r = none ∧ (I' 0 69 = I 0 68) ∧ (I' 0 68 = 0))) htb rfl (Nat.le_of_ble_eq_true rfl) ?_
  have f1 := (show 0 ≤ I 0 68 ∧ I 0 68 ≤ 1000 from (hI 0 68).1)
  have f2 := (show 0 ≤ I 0 69 ∧ I 0 69 ≤ 1000 from (hI 0 69).1)
  have L10 : ∀ (n : Nat) (I3 : gr_I) (J4 : gr_J) (v1_5 : Int), (1001 - v1_5).toNat < n → gr_Inv I3 → gr_fr [68, 69] [56, 57] I I3 → gr_fj [68, 69] [56, 57] J J4 → ((0 ≤ v1_5 ∧ v1_5 ≤ 1000) ∧ (I3 0 69 = I 0 68) ∧ (I3 0 68 = I 0 68)) → gv_X (gr_E ws0 tb 0 (yX13_reads, cX13_reads, 2, none) kX13_reads) (gv_Q cX13_reads none (gr_sh ++ ext) (fun r h' => (∃ (I' : gr_I) (J' : gr_J), h' = gr_h I' J' ∧ gr_Inv I' ∧ gr_fr [68, 69] [56, 57] I I' ∧ gr_fj [68, 69] [56, 57] J J' ∧ r = none ∧ (I' 0 69 = I 0 68) ∧ (I' 0 68 = 0)))) (10, [(0, .inr (.inr (some 0))), (1, .inl v1_5)], [], gr_sh ++ ext, gr_h I3 J4) := by
    intro n
    induction n with
    | zero => intro I3 J4 v1_5 hn; omega
    | succ n ih10 =>
      intro I3 J4 v1_5 hn hI3 FI3 FJ4 m_5
      obtain ⟨hv1_5, e0_5, e1_5⟩ := m_5
      have f6 := (show 0 ≤ I3 0 68 ∧ I3 0 68 ≤ 1000 from (hI3 0 68).1)
      have f7 := (show 0 ≤ I3 0 69 ∧ I3 0 69 ≤ 1000 from (hI3 0 69).1)
      have f8 := (show 0 ≤ I3 0 68 ∧ I3 0 68 ≤ 1000 from (hI3 0 68).1)
      refine gv_run 3 true hD (pc' := 15) (lv' := [(0, .inr (.inr (some 0))), (1, .inl v1_5)]) (st' := [.inl (I3 0 68), .inl v1_5]) (h' := gr_h I3 J4) (C := (((True ∧ True) ∧ True) ∧ True)) rfl ⟨⟨⟨trivial, trivial⟩, trivial⟩, trivial⟩ ?_
      refine gv_icmp_ge (t := 36) hD rfl rfl ⟨⟨by omega, by omega⟩, ⟨by omega, by omega⟩⟩ (fun c9 => ?_) (fun c9 => ?_)
      · refine gv_run 3 true hD (pc' := 41) (lv' := [(0, .inr (.inr (some 0))), (1, .inl v1_5)]) (st' := []) (h' := gz_up (gr_h I3 J4) 0 68 (.inl 0)) (C := (((True ∧ True) ∧ True) ∧ True)) rfl ⟨⟨⟨trivial, trivial⟩, trivial⟩, trivial⟩ ?_
        refine gr_st hI3 FI3 rfl rfl ⟨⟨by show 0 ≤ _; omega, by show _ ≤ 1000; omega⟩, trivial⟩ (fun I10 hI10 FI10 q11 p11 => ?_)
        have t12 := p11 0 69 (by decide)
        have f13 := (show 0 ≤ I10 0 68 ∧ I10 0 68 ≤ 1000 from (hI10 0 68).1)
        have f14 := (show 0 ≤ I10 0 69 ∧ I10 0 69 ≤ 1000 from (hI10 0 69).1)
        exact gv_vret hD rfl ⟨I10, J4, rfl, hI10, FI10, FJ4, ⟨rfl, by omega⟩⟩
      · have f15 := (show (-128) ≤ I3 56 (Int.toNat v1_5) ∧ I3 56 (Int.toNat v1_5) ≤ 127 from (hI3 56 (Int.toNat v1_5)).1)
        refine gv_run 7 true hD (pc' := 29) (lv' := [(0, .inr (.inr (some 0))), (1, .inl v1_5)]) (st' := [.inl (I3 56 (Int.toNat v1_5)), .inl v1_5, .inr (.inr (some 57))]) (h' := gr_h I3 J4) (C := (((((((True ∧ True) ∧ True) ∧ True) ∧ True) ∧ True) ∧ True) ∧ (0 ≤ v1_5 ∧ v1_5 < ((1000 : Nat) : Int)))) rfl ⟨⟨⟨⟨⟨⟨⟨trivial, trivial⟩, trivial⟩, trivial⟩, trivial⟩, trivial⟩, trivial⟩, ⟨by omega, by omega⟩⟩ ?_
        have f16 := gw_nar_byte (x := ((I3 56 (Int.toNat v1_5))))
        refine gv_run 1 true hD (pc' := 30) (lv' := [(0, .inr (.inr (some 0))), (1, .inl v1_5)]) (st' := []) (h' := gz_up (gr_h I3 J4) 57 (Int.toNat v1_5) (.inl (((vp_nar .byte (Int32.ofInt ((I3 56 (Int.toNat v1_5))))).toInt)))) (C := (True ∧ (0 ≤ v1_5 ∧ v1_5 < ((1000 : Nat) : Int)))) rfl ⟨trivial, ⟨by omega, by omega⟩⟩ ?_
        refine gr_st hI3 FI3 rfl rfl ⟨⟨by show (-128) ≤ _; omega, by show _ ≤ 127; omega⟩, trivial⟩ (fun I17 hI17 FI17 q18 p18 => ?_)
        have t19 := p18 0 68 (fun q => absurd q.1 (by decide))
        have t20 := p18 0 69 (fun q => absurd q.1 (by decide))
        have f21 := (show 0 ≤ I17 0 68 ∧ I17 0 68 ≤ 1000 from (hI17 0 68).1)
        have f22 := (show 0 ≤ I17 0 69 ∧ I17 0 69 ≤ 1000 from (hI17 0 69).1)
        refine gv_run 2 true hD (pc' := 10) (lv' := [(1, .inl (v1_5 + 1)), (0, .inr (.inr (some 0)))]) (st' := []) (h' := gr_h I17 J4) (C := ((True ∧ True) ∧ True)) rfl ⟨⟨trivial, trivial⟩, trivial⟩ ?_
        refine gv_pick [1, 0] rfl ?_
        exact ih10 I17 J4 (v1_5 + 1) (by omega) hI17 FI17 FJ4 (by omega)
  have f23 := (show 0 ≤ I 0 68 ∧ I 0 68 ≤ 1000 from (hI 0 68).1)
  refine gv_run 3 true hD (pc' := 5) (lv' := [(0, .inr (.inr (some 0)))]) (st' := [.inl (I 0 68), .inr (.inr (some 0))]) (h' := gr_h I J) (C := (((True ∧ True) ∧ True) ∧ True)) rfl ⟨⟨⟨trivial, trivial⟩, trivial⟩, trivial⟩ ?_
  refine gv_run 1 true hD (pc' := 8) (lv' := [(0, .inr (.inr (some 0)))]) (st' := []) (h' := gz_up (gr_h I J) 0 69 (.inl (I 0 68))) (C := (True ∧ True)) rfl ⟨trivial, trivial⟩ ?_
  refine gr_st hI FI rfl rfl ⟨⟨by show 0 ≤ _; omega, by show _ ≤ 1000; omega⟩, trivial⟩ (fun I24 hI24 FI24 q25 p25 => ?_)
  have t26 := p25 0 68 (by decide)
  have f27 := (show 0 ≤ I24 0 68 ∧ I24 0 68 ≤ 1000 from (hI24 0 68).1)
  have f28 := (show 0 ≤ I24 0 69 ∧ I24 0 69 ≤ 1000 from (hI24 0 69).1)
  refine gv_run 2 true hD (pc' := 10) (lv' := [(1, .inl 0), (0, .inr (.inr (some 0)))]) (st' := []) (h' := gr_h I24 J) (C := ((True ∧ True) ∧ True)) rfl ⟨⟨trivial, trivial⟩, trivial⟩ ?_
  refine gv_pick [1, 0] rfl ?_
  exact L10 _ I24 J 0 (Nat.lt_succ_self _) hI24 FI24 FJ (by omega)
set_option maxHeartbeats 4000000 in
set_option maxRecDepth 100000 in
theorem r_outs {ws0 : List Cond} {tb : String → gz_T} (hws : ∀ w ∈ gr_ws, w ∈ ws0) (htb : tb RX13 = gr_T) (ext : gz_Sh) (I : gr_I) (J : gr_J) (hI : gr_Inv I) (a1 : Int) (ha1 : (-2147483648) ≤ a1 ∧ a1 ≤ 2147483647)  : ∃ r h', gz_Ev ws0 tb 1 (yX13_outs, cX13_outs, 2, none) [.inr (.inr (some 0)), .inl a1] (gr_sh ++ ext) (gr_h I J) r (gr_sh ++ ext) h' 0 0 ∧ (∃ (I' : gr_I) (J' : gr_J), h' = gr_h I' J' ∧ gr_Inv I' ∧ gr_fr [70] [58] I I' ∧ gr_fj [70] [58] J J' ∧ r = none) := by
  have FI : gr_fr [70] [58] I I := fun _ _ _ => rfl
  have FJ : gr_fj [70] [58] J J := fun _ _ _ => rfl
  have hD : gv_D (gr_E ws0 tb 0 (yX13_outs, cX13_outs, 2, none) kX13_outs) := gq_ok oX13_outs
  refine gr_ev (d := 0) (l := kX13_outs) (Po := fun r h' => (∃ (I' : gr_I) (J' : gr_J), h' = gr_h I' J' ∧ gr_Inv I' ∧ gr_fr [70] [58] I I' ∧ gr_fj [70] [58] J J' ∧ r = none)) htb rfl (Nat.le_of_ble_eq_true rfl) ?_
  have L28 : ∀ (I1 : gr_I) (J2 : gr_J) , gr_Inv I1 → gr_fr [70] [58] I I1 → gr_fj [70] [58] J J2 → gv_X (gr_E ws0 tb 0 (yX13_outs, cX13_outs, 2, none) kX13_outs) (gv_Q cX13_outs none (gr_sh ++ ext) (fun r h' => (∃ (I' : gr_I) (J' : gr_J), h' = gr_h I' J' ∧ gr_Inv I' ∧ gr_fr [70] [58] I I' ∧ gr_fj [70] [58] J J' ∧ r = none))) (28, [], [], gr_sh ++ ext, gr_h I1 J2) := by
    intro I1 J2 hI1 FI1 FJ2
    exact gv_vret hD rfl ⟨I1, J2, rfl, hI1, FI1, FJ2, rfl⟩
  have f4 := (show 0 ≤ I 0 70 ∧ I 0 70 ≤ 1000 from (hI 0 70).1)
  refine gv_run 3 true hD (pc' := 7) (lv' := [(0, .inr (.inr (some 0))), (1, .inl a1)]) (st' := [.inl 1000, .inl (I 0 70)]) (h' := gr_h I J) (C := (((True ∧ True) ∧ True) ∧ True)) rfl ⟨⟨⟨trivial, trivial⟩, trivial⟩, trivial⟩ ?_
  refine gv_icmp_ge (t := 28) hD rfl rfl ⟨⟨by omega, by omega⟩, ⟨by omega, by omega⟩⟩ (fun c5 => ?_) (fun c5 => ?_)
  · refine gv_pick [] rfl ?_
    exact L28 I J hI FI FJ
  · have f6 := (show 0 ≤ I 0 70 ∧ I 0 70 ≤ 1000 from (hI 0 70).1)
    refine gv_run 7 true hD (pc' := 21) (lv' := [(0, .inr (.inr (some 0))), (1, .inl a1)]) (st' := [.inl 1, .inl (I 0 70), .inr (.inr (some 0)), .inl (I 0 70), .inr (.inr (some 58))]) (h' := gr_h I J) (C := (((((((True ∧ True) ∧ True) ∧ True) ∧ True) ∧ True) ∧ True) ∧ True)) rfl ⟨⟨⟨⟨⟨⟨⟨trivial, trivial⟩, trivial⟩, trivial⟩, trivial⟩, trivial⟩, trivial⟩, trivial⟩ ?_
    refine gv_run 2 true hD (pc' := 25) (lv' := [(0, .inr (.inr (some 0))), (1, .inl a1)]) (st' := [.inl (I 0 70), .inr (.inr (some 58))]) (h' := gz_up (gr_h I J) 0 70 (.inl (((I 0 70) + 1)))) (C := ((True ∧ True) ∧ True)) rfl ⟨⟨trivial, trivial⟩, trivial⟩ ?_
    refine gr_st hI FI rfl rfl ⟨⟨by show 0 ≤ _; omega, by show _ ≤ 1000; omega⟩, trivial⟩ (fun I7 hI7 FI7 q8 p8 => ?_)
    have f9 := gw_i2b (x := a1)
    have f10 := gw_nar_byte (x := (((Int32.ofInt a1).toInt8.toInt32.toInt)))
    refine gv_run 3 true hD (pc' := 28) (lv' := [(0, .inr (.inr (some 0))), (1, .inl a1)]) (st' := []) (h' := gz_up (gr_h I7 J) 58 (Int.toNat ((I 0 70))) (.inl (((vp_nar .byte (Int32.ofInt (((Int32.ofInt a1).toInt8.toInt32.toInt)))).toInt)))) (C := (((True ∧ True) ∧ True) ∧ (0 ≤ (I 0 70) ∧ (I 0 70) < ((1000 : Nat) : Int)))) rfl ⟨⟨⟨trivial, trivial⟩, trivial⟩, ⟨by omega, by omega⟩⟩ ?_
    refine gr_st hI7 FI7 rfl rfl ⟨⟨by show (-128) ≤ _; omega, by show _ ≤ 127; omega⟩, trivial⟩ (fun I11 hI11 FI11 q12 p12 => ?_)
    refine gv_pick [] rfl ?_
    exact L28 I11 J hI11 FI11 FJ
set_option maxHeartbeats 4000000 in
set_option maxRecDepth 100000 in
theorem r_out {ws0 : List Cond} {tb : String → gz_T} (hws : ∀ w ∈ gr_ws, w ∈ ws0) (htb : tb RX13 = gr_T) (ext : gz_Sh) (I : gr_I) (J : gr_J) (hI : gr_Inv I) (a1 : Int) (ha1 : (-2147483648) ≤ a1 ∧ a1 ≤ 2147483647)  : ∃ r h', gz_Ev ws0 tb 1 (yX13_out, cX13_out, 2, (some .int)) [.inr (.inr (some 0)), .inl a1] (gr_sh ++ ext) (gr_h I J) r (gr_sh ++ ext) h' 0 0 ∧ (∃ (I' : gr_I) (J' : gr_J), h' = gr_h I' J' ∧ gr_Inv I' ∧ gr_fr [0] [] I I' ∧ gr_fj [0] [] J J' ∧ (∃ z : Int, r = some (.inl z) ∧ (-1) ≤ z ∧ z ≤ 255)) := by
  have FI : gr_fr [0] [] I I := fun _ _ _ => rfl
  have FJ : gr_fj [0] [] J J := fun _ _ _ => rfl
  have hD : gv_D (gr_E ws0 tb 0 (yX13_out, cX13_out, 2, (some .int)) kX13_out) := gq_ok oX13_out
  refine gr_ev (d := 0) (l := kX13_out) (Po := fun r h' => (∃ (I' : gr_I) (J' : gr_J), h' = gr_h I' J' ∧ gr_Inv I' ∧ gr_fr [0] [] I I' ∧ gr_fj [0] [] J J' ∧ (∃ z : Int, r = some (.inl z) ∧ (-1) ≤ z ∧ z ≤ 255))) htb rfl (Nat.le_of_ble_eq_true rfl) ?_
  have L31 : ∀ (I1 : gr_I) (J2 : gr_J) (s0_3 : Int), gr_Inv I1 → gr_fr [0] [] I I1 → gr_fj [0] [] J J2 → (((-1) ≤ s0_3 ∧ s0_3 ≤ 255)) → gv_X (gr_E ws0 tb 0 (yX13_out, cX13_out, 2, (some .int)) kX13_out) (gv_Q cX13_out (some .int) (gr_sh ++ ext) (fun r h' => (∃ (I' : gr_I) (J' : gr_J), h' = gr_h I' J' ∧ gr_Inv I' ∧ gr_fr [0] [] I I' ∧ gr_fj [0] [] J J' ∧ (∃ z : Int, r = some (.inl z) ∧ (-1) ≤ z ∧ z ≤ 255)))) (31, [], [.inl s0_3], gr_sh ++ ext, gr_h I1 J2) := by
    intro I1 J2 s0_3 hI1 FI1 FJ2 m_3
    have hs0_3 := m_3
    exact gv_iret hD rfl ⟨I1, J2, rfl, hI1, FI1, FJ2, ⟨_, rfl, by omega⟩⟩
  have L17 : ∀ (I4 : gr_I) (J5 : gr_J) , gr_Inv I4 → gr_fr [0] [] I I4 → gr_fj [0] [] J J5 → gv_X (gr_E ws0 tb 0 (yX13_out, cX13_out, 2, (some .int)) kX13_out) (gv_Q cX13_out (some .int) (gr_sh ++ ext) (fun r h' => (∃ (I' : gr_I) (J' : gr_J), h' = gr_h I' J' ∧ gr_Inv I' ∧ gr_fr [0] [] I I' ∧ gr_fj [0] [] J J' ∧ (∃ z : Int, r = some (.inl z) ∧ (-1) ≤ z ∧ z ≤ 255)))) (17, [], [], gr_sh ++ ext, gr_h I4 J5) := by
    intro I4 J5 hI4 FI4 FJ5
    refine gv_run 2 true hD (pc' := 31) (lv' := []) (st' := [.inl (-1)]) (h' := gr_h I4 J5) (C := ((True ∧ True) ∧ True)) rfl ⟨⟨trivial, trivial⟩, trivial⟩ ?_
    exact L31 I4 J5 (-1) hI4 FI4 FJ5 (by omega)
  refine gv_run 3 true hD (pc' := 5) (lv' := [(0, .inr (.inr (some 0))), (1, .inl a1)]) (st' := []) (h' := gz_up (gr_h I J) 0 0 (.inl 0)) (C := (((True ∧ True) ∧ True) ∧ True)) rfl ⟨⟨⟨trivial, trivial⟩, trivial⟩, trivial⟩ ?_
  refine gr_st hI FI rfl rfl ⟨⟨by show 0 ≤ _; omega, by show _ ≤ 2; omega⟩, trivial⟩ (fun I7 hI7 FI7 q8 p8 => ?_)
  refine gv_run 1 true hD (pc' := 6) (lv' := [(0, .inr (.inr (some 0))), (1, .inl a1)]) (st' := [.inl a1]) (h' := gr_h I7 J) (C := (True ∧ True)) rfl ⟨trivial, trivial⟩ ?_
  refine gv_if_lt (t := 17) hD rfl rfl ⟨by omega, by omega⟩ (fun c9 => ?_) (fun c9 => ?_)
  · refine gv_pick [] rfl ?_
    exact L17 I7 J hI7 FI7 FJ
  · have f10 := (show 0 ≤ I7 0 70 ∧ I7 0 70 ≤ 1000 from (hI7 0 70).1)
    refine gv_run 3 true hD (pc' := 14) (lv' := [(0, .inr (.inr (some 0))), (1, .inl a1)]) (st' := [.inl (I7 0 70), .inl a1]) (h' := gr_h I7 J) (C := (((True ∧ True) ∧ True) ∧ True)) rfl ⟨⟨⟨trivial, trivial⟩, trivial⟩, trivial⟩ ?_
    refine gv_icmp_lt (t := 21) hD rfl rfl ⟨⟨by omega, by omega⟩, ⟨by omega, by omega⟩⟩ (fun c11 => ?_) (fun c11 => ?_)
    · have f12 := (show (-128) ≤ I7 58 (Int.toNat a1) ∧ I7 58 (Int.toNat a1) ≤ 127 from (hI7 58 (Int.toNat a1)).1)
      refine gv_run 4 true hD (pc' := 27) (lv' := [(0, .inr (.inr (some 0))), (1, .inl a1)]) (st' := [.inl (I7 58 (Int.toNat a1))]) (h' := gr_h I7 J) (C := ((((True ∧ True) ∧ True) ∧ True) ∧ (0 ≤ a1 ∧ a1 < ((1000 : Nat) : Int)))) rfl ⟨⟨⟨⟨trivial, trivial⟩, trivial⟩, trivial⟩, ⟨by omega, by omega⟩⟩ ?_
      have f13 := gw_and (x := ((I7 58 (Int.toNat a1)))) (y := 255) ⟨by omega, by omega⟩
      refine gv_run 2 true hD (pc' := 31) (lv' := [(0, .inr (.inr (some 0))), (1, .inl a1)]) (st' := [.inl ((Int32.ofInt ((I7 58 (Int.toNat a1))) &&& Int32.ofInt 255).toInt)]) (h' := gr_h I7 J) (C := ((True ∧ True) ∧ True)) rfl ⟨⟨trivial, trivial⟩, trivial⟩ ?_
      refine gv_pick [] rfl ?_
      exact L31 I7 J (((Int32.ofInt ((I7 58 (Int.toNat a1))) &&& Int32.ofInt 255).toInt)) hI7 FI7 FJ (by omega)
    · refine gv_pick [] rfl ?_
      exact L17 I7 J hI7 FI7 FJ
set_option maxHeartbeats 4000000 in
set_option maxRecDepth 100000 in
theorem r_noTongue {ws0 : List Cond} {tb : String → gz_T} (hws : ∀ w ∈ gr_ws, w ∈ ws0) (htb : tb RX13 = gr_T) (ext : gz_Sh) (I : gr_I) (J : gr_J) (hI : gr_Inv I) (a1 : Int) (ha1 : (-2147483648) ≤ a1 ∧ a1 ≤ 2147483647)  : ∃ r h', gz_Ev ws0 tb 1 (yX13_noTongue, cX13_noTongue, 2, (some .boolean)) [.inr (.inr (some 0)), .inl a1] (gr_sh ++ ext) (gr_h I J) r (gr_sh ++ ext) h' 0 0 ∧ (∃ (I' : gr_I) (J' : gr_J), h' = gr_h I' J' ∧ gr_Inv I' ∧ gr_fr [0] [] I I' ∧ gr_fj [0] [] J J' ∧ (∃ z : Int, r = some (.inl z) ∧ 0 ≤ z ∧ z ≤ 1 ∧ (z = 0 → 0 ≤ a1 ∧ a1 < I 0 1 ∧ a1 ≤ 7))) := by
  have FI : gr_fr [0] [] I I := fun _ _ _ => rfl
  have FJ : gr_fj [0] [] J J := fun _ _ _ => rfl
  have hD : gv_D (gr_E ws0 tb 0 (yX13_noTongue, cX13_noTongue, 2, (some .boolean)) kX13_noTongue) := gq_ok oX13_noTongue
  refine gr_ev (d := 0) (l := kX13_noTongue) (Po := fun r h' => (∃ (I' : gr_I) (J' : gr_J), h' = gr_h I' J' ∧ gr_Inv I' ∧ gr_fr [0] [] I I' ∧ gr_fj [0] [] J J' ∧ (∃ z : Int, r = some (.inl z) ∧ 0 ≤ z ∧ z ≤ 1 ∧ (z = 0 → 0 ≤ a1 ∧ a1 < I 0 1 ∧ a1 ≤ 7)))) htb rfl (Nat.le_of_ble_eq_true rfl) ?_
  have f1 := (show 0 ≤ I 0 1 ∧ I 0 1 ≤ 8 from (hI 0 1).1)
  have L18 : ∀ (s1_2 : Int), ((0 ≤ s1_2 ∧ s1_2 ≤ 1) ∧ (s1_2 = 0 → 0 ≤ a1 ∧ a1 < I 0 1 ∧ a1 ≤ 7)) → gv_X (gr_E ws0 tb 0 (yX13_noTongue, cX13_noTongue, 2, (some .boolean)) kX13_noTongue) (gv_Q cX13_noTongue (some .boolean) (gr_sh ++ ext) (fun r h' => (∃ (I' : gr_I) (J' : gr_J), h' = gr_h I' J' ∧ gr_Inv I' ∧ gr_fr [0] [] I I' ∧ gr_fj [0] [] J J' ∧ (∃ z : Int, r = some (.inl z) ∧ 0 ≤ z ∧ z ≤ 1 ∧ (z = 0 → 0 ≤ a1 ∧ a1 < I 0 1 ∧ a1 ≤ 7))))) (18, [(0, .inr (.inr (some 0)))], [.inl s1_2, .inr (.inr (some 0))], gr_sh ++ ext, gr_h I J) := by
    intro s1_2 m_2
    obtain ⟨hs1_2, e0_2⟩ := m_2
    have f3 := (show 0 ≤ I 0 1 ∧ I 0 1 ≤ 8 from (hI 0 1).1)
    have L33 : ∀ (I4 : gr_I) (J5 : gr_J) (s0_6 : Int), gr_Inv I4 → gr_fr [0] [] I I4 → gr_fj [0] [] J J5 → ((0 ≤ s0_6 ∧ s0_6 ≤ 1) ∧ (s0_6 = 0 → 0 ≤ a1 ∧ a1 < I 0 1 ∧ a1 ≤ 7)) → gv_X (gr_E ws0 tb 0 (yX13_noTongue, cX13_noTongue, 2, (some .boolean)) kX13_noTongue) (gv_Q cX13_noTongue (some .boolean) (gr_sh ++ ext) (fun r h' => (∃ (I' : gr_I) (J' : gr_J), h' = gr_h I' J' ∧ gr_Inv I' ∧ gr_fr [0] [] I I' ∧ gr_fj [0] [] J J' ∧ (∃ z : Int, r = some (.inl z) ∧ 0 ≤ z ∧ z ≤ 1 ∧ (z = 0 → 0 ≤ a1 ∧ a1 < I 0 1 ∧ a1 ≤ 7))))) (33, [], [.inl s0_6], gr_sh ++ ext, gr_h I4 J5) := by
      intro I4 J5 s0_6 hI4 FI4 FJ5 m_6
      clear hs1_2 e0_2 f3
      obtain ⟨hs0_6, e0_6⟩ := m_6
      have f7 := (show 0 ≤ I4 0 1 ∧ I4 0 1 ≤ 8 from (hI4 0 1).1)
      exact gv_zret hD rfl (by omega) ⟨I4, J5, rfl, hI4, FI4, FJ5, ⟨_, rfl, by omega⟩⟩
    refine gv_run 1 true hD (pc' := 21) (lv' := [(0, .inr (.inr (some 0)))]) (st' := []) (h' := gz_up (gr_h I J) 0 0 (.inl s1_2)) (C := (True ∧ True)) rfl ⟨trivial, trivial⟩ ?_
    refine gr_st hI FI rfl rfl ⟨⟨by show 0 ≤ _; omega, by show _ ≤ 2; omega⟩, trivial⟩ (fun I8 hI8 FI8 q9 p9 => ?_)
    have t10 := p9 0 1 (by decide)
    have f11 := (show 0 ≤ I8 0 1 ∧ I8 0 1 ≤ 8 from (hI8 0 1).1)
    have f12 := (show 0 ≤ I8 0 0 ∧ I8 0 0 ≤ 2 from (hI8 0 0).1)
    refine gv_run 2 true hD (pc' := 25) (lv' := [(0, .inr (.inr (some 0)))]) (st' := [.inl (I8 0 0)]) (h' := gr_h I8 J) (C := ((True ∧ True) ∧ True)) rfl ⟨⟨trivial, trivial⟩, trivial⟩ ?_
    refine gv_if_eq (t := 32) hD rfl rfl ⟨by omega, by omega⟩ (fun c13 => ?_) (fun c13 => ?_)
    · refine gv_run 1 true hD (pc' := 33) (lv' := [(0, .inr (.inr (some 0)))]) (st' := [.inl 0]) (h' := gr_h I8 J) (C := (True ∧ True)) rfl ⟨trivial, trivial⟩ ?_
      refine gv_pick [] rfl ?_
      exact L33 I8 J 0 hI8 FI8 FJ (by omega)
    · refine gv_run 2 true hD (pc' := 33) (lv' := [(0, .inr (.inr (some 0)))]) (st' := [.inl 1]) (h' := gr_h I8 J) (C := ((True ∧ True) ∧ True)) rfl ⟨⟨trivial, trivial⟩, trivial⟩ ?_
      refine gv_pick [] rfl ?_
      exact L33 I8 J 1 hI8 FI8 FJ (by omega)
  have L13 : gv_X (gr_E ws0 tb 0 (yX13_noTongue, cX13_noTongue, 2, (some .boolean)) kX13_noTongue) (gv_Q cX13_noTongue (some .boolean) (gr_sh ++ ext) (fun r h' => (∃ (I' : gr_I) (J' : gr_J), h' = gr_h I' J' ∧ gr_Inv I' ∧ gr_fr [0] [] I I' ∧ gr_fj [0] [] J J' ∧ (∃ z : Int, r = some (.inl z) ∧ 0 ≤ z ∧ z ≤ 1 ∧ (z = 0 → 0 ≤ a1 ∧ a1 < I 0 1 ∧ a1 ≤ 7))))) (13, [(0, .inr (.inr (some 0)))], [.inr (.inr (some 0))], gr_sh ++ ext, gr_h I J) := by
    have f15 := (show 0 ≤ I 0 1 ∧ I 0 1 ≤ 8 from (hI 0 1).1)
    refine gv_run 2 true hD (pc' := 18) (lv' := [(0, .inr (.inr (some 0)))]) (st' := [.inl 1, .inr (.inr (some 0))]) (h' := gr_h I J) (C := ((True ∧ True) ∧ True)) rfl ⟨⟨trivial, trivial⟩, trivial⟩ ?_
    exact L18 1 (by omega)
  refine gv_run 2 true hD (pc' := 2) (lv' := [(0, .inr (.inr (some 0))), (1, .inl a1)]) (st' := [.inl a1, .inr (.inr (some 0))]) (h' := gr_h I J) (C := ((True ∧ True) ∧ True)) rfl ⟨⟨trivial, trivial⟩, trivial⟩ ?_
  refine gv_if_lt (t := 13) hD rfl rfl ⟨by omega, by omega⟩ (fun c16 => ?_) (fun c16 => ?_)
  · refine gv_pick [0] rfl ?_
    exact L13 
  · have f17 := (show 0 ≤ I 0 1 ∧ I 0 1 ≤ 8 from (hI 0 1).1)
    refine gv_run 3 true hD (pc' := 10) (lv' := [(0, .inr (.inr (some 0))), (1, .inl a1)]) (st' := [.inl (I 0 1), .inl a1, .inr (.inr (some 0))]) (h' := gr_h I J) (C := (((True ∧ True) ∧ True) ∧ True)) rfl ⟨⟨⟨trivial, trivial⟩, trivial⟩, trivial⟩ ?_
    refine gv_icmp_lt (t := 17) hD rfl rfl ⟨⟨by omega, by omega⟩, ⟨by omega, by omega⟩⟩ (fun c18 => ?_) (fun c18 => ?_)
    · refine gv_run 1 true hD (pc' := 18) (lv' := [(0, .inr (.inr (some 0))), (1, .inl a1)]) (st' := [.inl 0, .inr (.inr (some 0))]) (h' := gr_h I J) (C := (True ∧ True)) rfl ⟨trivial, trivial⟩ ?_
      refine gv_pick [0] rfl ?_
      exact L18 0 (by omega)
    · refine gv_pick [0] rfl ?_
      exact L13 
set_option maxHeartbeats 4000000 in
set_option maxRecDepth 100000 in
theorem r_noPlace {ws0 : List Cond} {tb : String → gz_T} (hws : ∀ w ∈ gr_ws, w ∈ ws0) (htb : tb RX13 = gr_T) (ext : gz_Sh) (I : gr_I) (J : gr_J) (hI : gr_Inv I) (a1 : Int) (ha1 : (-2147483648) ≤ a1 ∧ a1 ≤ 2147483647)  : ∃ r h', gz_Ev ws0 tb 1 (yX13_noPlace, cX13_noPlace, 2, (some .boolean)) [.inr (.inr (some 0)), .inl a1] (gr_sh ++ ext) (gr_h I J) r (gr_sh ++ ext) h' 0 0 ∧ (∃ (I' : gr_I) (J' : gr_J), h' = gr_h I' J' ∧ gr_Inv I' ∧ gr_fr [0] [] I I' ∧ gr_fj [0] [] J J' ∧ (∃ z : Int, r = some (.inl z) ∧ 0 ≤ z ∧ z ≤ 1 ∧ (z = 0 → 0 ≤ a1 ∧ a1 ≤ 7))) := by
  have FI : gr_fr [0] [] I I := fun _ _ _ => rfl
  have FJ : gr_fj [0] [] J J := fun _ _ _ => rfl
  have hD : gv_D (gr_E ws0 tb 0 (yX13_noPlace, cX13_noPlace, 2, (some .boolean)) kX13_noPlace) := gq_ok oX13_noPlace
  refine gr_ev (d := 0) (l := kX13_noPlace) (Po := fun r h' => (∃ (I' : gr_I) (J' : gr_J), h' = gr_h I' J' ∧ gr_Inv I' ∧ gr_fr [0] [] I I' ∧ gr_fj [0] [] J J' ∧ (∃ z : Int, r = some (.inl z) ∧ 0 ≤ z ∧ z ≤ 1 ∧ (z = 0 → 0 ≤ a1 ∧ a1 ≤ 7)))) htb rfl (Nat.le_of_ble_eq_true rfl) ?_
  have L16 : ∀ (s1_1 : Int), ((0 ≤ s1_1 ∧ s1_1 ≤ 1) ∧ (s1_1 = 0 → 0 ≤ a1 ∧ a1 ≤ 7)) → gv_X (gr_E ws0 tb 0 (yX13_noPlace, cX13_noPlace, 2, (some .boolean)) kX13_noPlace) (gv_Q cX13_noPlace (some .boolean) (gr_sh ++ ext) (fun r h' => (∃ (I' : gr_I) (J' : gr_J), h' = gr_h I' J' ∧ gr_Inv I' ∧ gr_fr [0] [] I I' ∧ gr_fj [0] [] J J' ∧ (∃ z : Int, r = some (.inl z) ∧ 0 ≤ z ∧ z ≤ 1 ∧ (z = 0 → 0 ≤ a1 ∧ a1 ≤ 7))))) (16, [(0, .inr (.inr (some 0)))], [.inl s1_1, .inr (.inr (some 0))], gr_sh ++ ext, gr_h I J) := by
    intro s1_1 m_1
    obtain ⟨hs1_1, e0_1⟩ := m_1
    have L31 : ∀ (I2 : gr_I) (J3 : gr_J) (s0_4 : Int), gr_Inv I2 → gr_fr [0] [] I I2 → gr_fj [0] [] J J3 → ((0 ≤ s0_4 ∧ s0_4 ≤ 1) ∧ (s0_4 = 0 → 0 ≤ a1 ∧ a1 ≤ 7)) → gv_X (gr_E ws0 tb 0 (yX13_noPlace, cX13_noPlace, 2, (some .boolean)) kX13_noPlace) (gv_Q cX13_noPlace (some .boolean) (gr_sh ++ ext) (fun r h' => (∃ (I' : gr_I) (J' : gr_J), h' = gr_h I' J' ∧ gr_Inv I' ∧ gr_fr [0] [] I I' ∧ gr_fj [0] [] J J' ∧ (∃ z : Int, r = some (.inl z) ∧ 0 ≤ z ∧ z ≤ 1 ∧ (z = 0 → 0 ≤ a1 ∧ a1 ≤ 7))))) (31, [], [.inl s0_4], gr_sh ++ ext, gr_h I2 J3) := by
      intro I2 J3 s0_4 hI2 FI2 FJ3 m_4
      clear hs1_1 e0_1
      obtain ⟨hs0_4, e0_4⟩ := m_4
      exact gv_zret hD rfl (by omega) ⟨I2, J3, rfl, hI2, FI2, FJ3, ⟨_, rfl, by omega⟩⟩
    refine gv_run 1 true hD (pc' := 19) (lv' := [(0, .inr (.inr (some 0)))]) (st' := []) (h' := gz_up (gr_h I J) 0 0 (.inl s1_1)) (C := (True ∧ True)) rfl ⟨trivial, trivial⟩ ?_
    refine gr_st hI FI rfl rfl ⟨⟨by show 0 ≤ _; omega, by show _ ≤ 2; omega⟩, trivial⟩ (fun I5 hI5 FI5 q6 p6 => ?_)
    have f7 := (show 0 ≤ I5 0 0 ∧ I5 0 0 ≤ 2 from (hI5 0 0).1)
    refine gv_run 2 true hD (pc' := 23) (lv' := [(0, .inr (.inr (some 0)))]) (st' := [.inl (I5 0 0)]) (h' := gr_h I5 J) (C := ((True ∧ True) ∧ True)) rfl ⟨⟨trivial, trivial⟩, trivial⟩ ?_
    refine gv_if_eq (t := 30) hD rfl rfl ⟨by omega, by omega⟩ (fun c8 => ?_) (fun c8 => ?_)
    · refine gv_run 1 true hD (pc' := 31) (lv' := [(0, .inr (.inr (some 0)))]) (st' := [.inl 0]) (h' := gr_h I5 J) (C := (True ∧ True)) rfl ⟨trivial, trivial⟩ ?_
      refine gv_pick [] rfl ?_
      exact L31 I5 J 0 hI5 FI5 FJ (by omega)
    · refine gv_run 2 true hD (pc' := 31) (lv' := [(0, .inr (.inr (some 0)))]) (st' := [.inl 1]) (h' := gr_h I5 J) (C := ((True ∧ True) ∧ True)) rfl ⟨⟨trivial, trivial⟩, trivial⟩ ?_
      refine gv_pick [] rfl ?_
      exact L31 I5 J 1 hI5 FI5 FJ (by omega)
  have L11 : gv_X (gr_E ws0 tb 0 (yX13_noPlace, cX13_noPlace, 2, (some .boolean)) kX13_noPlace) (gv_Q cX13_noPlace (some .boolean) (gr_sh ++ ext) (fun r h' => (∃ (I' : gr_I) (J' : gr_J), h' = gr_h I' J' ∧ gr_Inv I' ∧ gr_fr [0] [] I I' ∧ gr_fj [0] [] J J' ∧ (∃ z : Int, r = some (.inl z) ∧ 0 ≤ z ∧ z ≤ 1 ∧ (z = 0 → 0 ≤ a1 ∧ a1 ≤ 7))))) (11, [(0, .inr (.inr (some 0)))], [.inr (.inr (some 0))], gr_sh ++ ext, gr_h I J) := by
    refine gv_run 2 true hD (pc' := 16) (lv' := [(0, .inr (.inr (some 0)))]) (st' := [.inl 1, .inr (.inr (some 0))]) (h' := gr_h I J) (C := ((True ∧ True) ∧ True)) rfl ⟨⟨trivial, trivial⟩, trivial⟩ ?_
    exact L16 1 (by omega)
  refine gv_run 2 true hD (pc' := 2) (lv' := [(0, .inr (.inr (some 0))), (1, .inl a1)]) (st' := [.inl a1, .inr (.inr (some 0))]) (h' := gr_h I J) (C := ((True ∧ True) ∧ True)) rfl ⟨⟨trivial, trivial⟩, trivial⟩ ?_
  refine gv_if_lt (t := 11) hD rfl rfl ⟨by omega, by omega⟩ (fun c10 => ?_) (fun c10 => ?_)
  · refine gv_pick [0] rfl ?_
    exact L11 
  · refine gv_run 2 true hD (pc' := 8) (lv' := [(0, .inr (.inr (some 0))), (1, .inl a1)]) (st' := [.inl 7, .inl a1, .inr (.inr (some 0))]) (h' := gr_h I J) (C := ((True ∧ True) ∧ True)) rfl ⟨⟨trivial, trivial⟩, trivial⟩ ?_
    refine gv_icmp_le (t := 15) hD rfl rfl ⟨⟨by omega, by omega⟩, ⟨by omega, by omega⟩⟩ (fun c11 => ?_) (fun c11 => ?_)
    · refine gv_run 1 true hD (pc' := 16) (lv' := [(0, .inr (.inr (some 0))), (1, .inl a1)]) (st' := [.inl 0, .inr (.inr (some 0))]) (h' := gr_h I J) (C := (True ∧ True)) rfl ⟨trivial, trivial⟩ ?_
      refine gv_pick [0] rfl ?_
      exact L16 0 (by omega)
    · refine gv_pick [0] rfl ?_
      exact L11 
set_option maxHeartbeats 4000000 in
set_option maxRecDepth 100000 in
theorem r_noKind {ws0 : List Cond} {tb : String → gz_T} (hws : ∀ w ∈ gr_ws, w ∈ ws0) (htb : tb RX13 = gr_T) (ext : gz_Sh) (I : gr_I) (J : gr_J) (hI : gr_Inv I) (a1 : Int) (ha1 : (-2147483648) ≤ a1 ∧ a1 ≤ 2147483647)  : ∃ r h', gz_Ev ws0 tb 1 (yX13_noKind, cX13_noKind, 2, (some .boolean)) [.inr (.inr (some 0)), .inl a1] (gr_sh ++ ext) (gr_h I J) r (gr_sh ++ ext) h' 0 0 ∧ (∃ (I' : gr_I) (J' : gr_J), h' = gr_h I' J' ∧ gr_Inv I' ∧ gr_fr [0] [] I I' ∧ gr_fj [0] [] J J' ∧ (∃ z : Int, r = some (.inl z) ∧ 0 ≤ z ∧ z ≤ 1 ∧ (z = 0 → 0 ≤ a1 ∧ a1 ≤ 31))) := by
  have FI : gr_fr [0] [] I I := fun _ _ _ => rfl
  have FJ : gr_fj [0] [] J J := fun _ _ _ => rfl
  have hD : gv_D (gr_E ws0 tb 0 (yX13_noKind, cX13_noKind, 2, (some .boolean)) kX13_noKind) := gq_ok oX13_noKind
  refine gr_ev (d := 0) (l := kX13_noKind) (Po := fun r h' => (∃ (I' : gr_I) (J' : gr_J), h' = gr_h I' J' ∧ gr_Inv I' ∧ gr_fr [0] [] I I' ∧ gr_fj [0] [] J J' ∧ (∃ z : Int, r = some (.inl z) ∧ 0 ≤ z ∧ z ≤ 1 ∧ (z = 0 → 0 ≤ a1 ∧ a1 ≤ 31)))) htb rfl (Nat.le_of_ble_eq_true rfl) ?_
  have f1 := (show 0 ≤ I 0 0 ∧ I 0 0 ≤ 2 from (hI 0 0).1)
  have f2 := (show 0 ≤ I 0 2 ∧ I 0 2 ≤ 32 from (hI 0 2).1)
  have L17 : ∀ (I3 : gr_I) (J4 : gr_J) , gr_Inv I3 → gr_fr [0] [] I I3 → gr_fj [0] [] J J4 → ((I3 0 0 = 0 → 0 ≤ a1 ∧ a1 ≤ 31)) → gv_X (gr_E ws0 tb 0 (yX13_noKind, cX13_noKind, 2, (some .boolean)) kX13_noKind) (gv_Q cX13_noKind (some .boolean) (gr_sh ++ ext) (fun r h' => (∃ (I' : gr_I) (J' : gr_J), h' = gr_h I' J' ∧ gr_Inv I' ∧ gr_fr [0] [] I I' ∧ gr_fj [0] [] J J' ∧ (∃ z : Int, r = some (.inl z) ∧ 0 ≤ z ∧ z ≤ 1 ∧ (z = 0 → 0 ≤ a1 ∧ a1 ≤ 31))))) (17, [(0, .inr (.inr (some 0)))], [], gr_sh ++ ext, gr_h I3 J4) := by
    intro I3 J4 hI3 FI3 FJ4 m_5
    have e0_5 := m_5
    have f6 := (show 0 ≤ I3 0 0 ∧ I3 0 0 ≤ 2 from (hI3 0 0).1)
    have f7 := (show 0 ≤ I3 0 2 ∧ I3 0 2 ≤ 32 from (hI3 0 2).1)
    have L29 : ∀ (s0_8 : Int), ((0 ≤ s0_8 ∧ s0_8 ≤ 1) ∧ (s0_8 = 0 → 0 ≤ a1 ∧ a1 ≤ 31)) → gv_X (gr_E ws0 tb 0 (yX13_noKind, cX13_noKind, 2, (some .boolean)) kX13_noKind) (gv_Q cX13_noKind (some .boolean) (gr_sh ++ ext) (fun r h' => (∃ (I' : gr_I) (J' : gr_J), h' = gr_h I' J' ∧ gr_Inv I' ∧ gr_fr [0] [] I I' ∧ gr_fj [0] [] J J' ∧ (∃ z : Int, r = some (.inl z) ∧ 0 ≤ z ∧ z ≤ 1 ∧ (z = 0 → 0 ≤ a1 ∧ a1 ≤ 31))))) (29, [], [.inl s0_8], gr_sh ++ ext, gr_h I3 J4) := by
      intro s0_8 m_8
      obtain ⟨hs0_8, e0_8⟩ := m_8
      have f9 := (show 0 ≤ I3 0 0 ∧ I3 0 0 ≤ 2 from (hI3 0 0).1)
      have f10 := (show 0 ≤ I3 0 2 ∧ I3 0 2 ≤ 32 from (hI3 0 2).1)
      exact gv_zret hD rfl (by omega) ⟨I3, J4, rfl, hI3, FI3, FJ4, ⟨_, rfl, by omega⟩⟩
    have f11 := (show 0 ≤ I3 0 0 ∧ I3 0 0 ≤ 2 from (hI3 0 0).1)
    refine gv_run 2 true hD (pc' := 21) (lv' := [(0, .inr (.inr (some 0)))]) (st' := [.inl (I3 0 0)]) (h' := gr_h I3 J4) (C := ((True ∧ True) ∧ True)) rfl ⟨⟨trivial, trivial⟩, trivial⟩ ?_
    refine gv_if_eq (t := 28) hD rfl rfl ⟨by omega, by omega⟩ (fun c12 => ?_) (fun c12 => ?_)
    · refine gv_run 1 true hD (pc' := 29) (lv' := [(0, .inr (.inr (some 0)))]) (st' := [.inl 0]) (h' := gr_h I3 J4) (C := (True ∧ True)) rfl ⟨trivial, trivial⟩ ?_
      refine gv_pick [] rfl ?_
      exact L29 0 (by omega)
    · refine gv_run 2 true hD (pc' := 29) (lv' := [(0, .inr (.inr (some 0)))]) (st' := [.inl 1]) (h' := gr_h I3 J4) (C := ((True ∧ True) ∧ True)) rfl ⟨⟨trivial, trivial⟩, trivial⟩ ?_
      refine gv_pick [] rfl ?_
      exact L29 1 (by omega)
  have L12 : gv_X (gr_E ws0 tb 0 (yX13_noKind, cX13_noKind, 2, (some .boolean)) kX13_noKind) (gv_Q cX13_noKind (some .boolean) (gr_sh ++ ext) (fun r h' => (∃ (I' : gr_I) (J' : gr_J), h' = gr_h I' J' ∧ gr_Inv I' ∧ gr_fr [0] [] I I' ∧ gr_fj [0] [] J J' ∧ (∃ z : Int, r = some (.inl z) ∧ 0 ≤ z ∧ z ≤ 1 ∧ (z = 0 → 0 ≤ a1 ∧ a1 ≤ 31))))) (12, [(0, .inr (.inr (some 0)))], [], gr_sh ++ ext, gr_h I J) := by
    have f14 := (show 0 ≤ I 0 0 ∧ I 0 0 ≤ 2 from (hI 0 0).1)
    have f15 := (show 0 ≤ I 0 2 ∧ I 0 2 ≤ 32 from (hI 0 2).1)
    refine gv_run 3 true hD (pc' := 17) (lv' := [(0, .inr (.inr (some 0)))]) (st' := []) (h' := gz_up (gr_h I J) 0 0 (.inl 1)) (C := (((True ∧ True) ∧ True) ∧ True)) rfl ⟨⟨⟨trivial, trivial⟩, trivial⟩, trivial⟩ ?_
    refine gr_st hI FI rfl rfl ⟨⟨by show 0 ≤ _; omega, by show _ ≤ 2; omega⟩, trivial⟩ (fun I16 hI16 FI16 q17 p17 => ?_)
    have t18 := p17 0 2 (by decide)
    have f19 := (show 0 ≤ I16 0 0 ∧ I16 0 0 ≤ 2 from (hI16 0 0).1)
    have f20 := (show 0 ≤ I16 0 2 ∧ I16 0 2 ≤ 32 from (hI16 0 2).1)
    exact L17 I16 J hI16 FI16 FJ (by omega)
  refine gv_run 1 true hD (pc' := 1) (lv' := [(0, .inr (.inr (some 0))), (1, .inl a1)]) (st' := [.inl a1]) (h' := gr_h I J) (C := (True ∧ True)) rfl ⟨trivial, trivial⟩ ?_
  refine gv_if_lt (t := 12) hD rfl rfl ⟨by omega, by omega⟩ (fun c21 => ?_) (fun c21 => ?_)
  · refine gv_pick [0] rfl ?_
    exact L12 
  · have f22 := (show 0 ≤ I 0 2 ∧ I 0 2 ≤ 32 from (hI 0 2).1)
    refine gv_run 3 true hD (pc' := 9) (lv' := [(0, .inr (.inr (some 0))), (1, .inl a1)]) (st' := [.inl (I 0 2), .inl a1]) (h' := gr_h I J) (C := (((True ∧ True) ∧ True) ∧ True)) rfl ⟨⟨⟨trivial, trivial⟩, trivial⟩, trivial⟩ ?_
    refine gv_icmp_lt (t := 17) hD rfl rfl ⟨⟨by omega, by omega⟩, ⟨by omega, by omega⟩⟩ (fun c23 => ?_) (fun c23 => ?_)
    · refine gv_pick [0] rfl ?_
      exact L17 I J hI FI FJ (by omega)
    · refine gv_pick [0] rfl ?_
      exact L12 
set_option maxHeartbeats 4000000 in
set_option maxRecDepth 100000 in
theorem r_noForest {ws0 : List Cond} {tb : String → gz_T} (hws : ∀ w ∈ gr_ws, w ∈ ws0) (htb : tb RX13 = gr_T) (ext : gz_Sh) (I : gr_I) (J : gr_J) (hI : gr_Inv I)    : ∃ r h', gz_Ev ws0 tb 1 (yX13_noForest, cX13_noForest, 1, none) [.inr (.inr (some 0))] (gr_sh ++ ext) (gr_h I J) r (gr_sh ++ ext) h' 0 0 ∧ (∃ (I' : gr_I) (J' : gr_J), h' = gr_h I' J' ∧ gr_Inv I' ∧ gr_fr [177, 179, 180, 181, 186] [] I I' ∧ gr_fj [177, 179, 180, 181, 186] [] J J' ∧ r = none) := by
  have FI : gr_fr [177, 179, 180, 181, 186] [] I I := fun _ _ _ => rfl
  have FJ : gr_fj [177, 179, 180, 181, 186] [] J J := fun _ _ _ => rfl
  have hD : gv_D (gr_E ws0 tb 0 (yX13_noForest, cX13_noForest, 1, none) kX13_noForest) := gq_ok oX13_noForest
  refine gr_ev (d := 0) (l := kX13_noForest) (Po := fun r h' => (∃ (I' : gr_I) (J' : gr_J), h' = gr_h I' J' ∧ gr_Inv I' ∧ gr_fr [177, 179, 180, 181, 186] [] I I' ∧ gr_fj [177, 179, 180, 181, 186] [] J J' ∧ r = none)) htb rfl (Nat.le_of_ble_eq_true rfl) ?_
  refine gv_run 3 true hD (pc' := 5) (lv' := [(0, .inr (.inr (some 0)))]) (st' := []) (h' := gz_up (gr_h I J) 0 177 (.inl (-1))) (C := (((True ∧ True) ∧ True) ∧ True)) rfl ⟨⟨⟨trivial, trivial⟩, trivial⟩, trivial⟩ ?_
  refine gr_st hI FI rfl rfl ⟨⟨by show (-1) ≤ _; omega, by show _ ≤ 2999; omega⟩, trivial⟩ (fun I1 hI1 FI1 q2 p2 => ?_)
  refine gv_run 3 true hD (pc' := 10) (lv' := [(0, .inr (.inr (some 0)))]) (st' := []) (h' := gz_up (gr_h I1 J) 0 186 (.inl 0)) (C := (((True ∧ True) ∧ True) ∧ True)) rfl ⟨⟨⟨trivial, trivial⟩, trivial⟩, trivial⟩ ?_
  refine gr_st hI1 FI1 rfl rfl ⟨⟨by show 0 ≤ _; omega, by show _ ≤ 16; omega⟩, trivial⟩ (fun I3 hI3 FI3 q4 p4 => ?_)
  refine gv_run 3 true hD (pc' := 15) (lv' := [(0, .inr (.inr (some 0)))]) (st' := []) (h' := gz_up (gr_h I3 J) 0 181 (.inr (.inl (Int64.ofNat 0)))) (C := (((True ∧ True) ∧ True) ∧ True)) rfl ⟨⟨⟨trivial, trivial⟩, trivial⟩, trivial⟩ ?_
  refine gr_stJ FJ rfl rfl (fun J5 FJ5 => ?_)
  refine gv_run 3 true hD (pc' := 20) (lv' := [(0, .inr (.inr (some 0)))]) (st' := []) (h' := gz_up (gr_h I3 J5) 0 179 (.inl 0)) (C := (((True ∧ True) ∧ True) ∧ True)) rfl ⟨⟨⟨trivial, trivial⟩, trivial⟩, trivial⟩ ?_
  refine gr_st hI3 FI3 rfl rfl ⟨⟨by show 0 ≤ _; omega, by show _ ≤ 3000; omega⟩, trivial⟩ (fun I6 hI6 FI6 q7 p7 => ?_)
  refine gv_run 3 true hD (pc' := 25) (lv' := [(0, .inr (.inr (some 0)))]) (st' := []) (h' := gz_up (gr_h I6 J5) 0 180 (.inl 0)) (C := (((True ∧ True) ∧ True) ∧ True)) rfl ⟨⟨⟨trivial, trivial⟩, trivial⟩, trivial⟩ ?_
  refine gr_st hI6 FI6 rfl rfl ⟨⟨by show 0 ≤ _; omega, by show _ ≤ 9000; omega⟩, trivial⟩ (fun I8 hI8 FI8 q9 p9 => ?_)
  exact gv_vret hD rfl ⟨I8, J5, rfl, hI8, FI8, FJ5, rfl⟩
set_option maxHeartbeats 4000000 in
set_option maxRecDepth 100000 in
theorem r_price {ws0 : List Cond} {tb : String → gz_T} (hws : ∀ w ∈ gr_ws, w ∈ ws0) (htb : tb RX13 = gr_T) (ext : gz_Sh) (I : gr_I) (J : gr_J) (hI : gr_Inv I) (a1 : Int) (ha1 : (-2147483648) ≤ a1 ∧ a1 ≤ 2147483647)  : ∃ r h', gz_Ev ws0 tb 1 (yX13_price, cX13_price, 2, (some .int)) [.inr (.inr (some 0)), .inl a1] (gr_sh ++ ext) (gr_h I J) r (gr_sh ++ ext) h' 0 0 ∧ (∃ (I' : gr_I) (J' : gr_J), h' = gr_h I' J' ∧ gr_Inv I' ∧ gr_fr [0] [] I I' ∧ gr_fj [0] [] J J' ∧ (∃ z : Int, r = some (.inl z) ∧ (-2147483648) ≤ z ∧ z ≤ 2147483647)) := by
  have FI : gr_fr [0] [] I I := fun _ _ _ => rfl
  have FJ : gr_fj [0] [] J J := fun _ _ _ => rfl
  have hD : gv_D (gr_E ws0 tb 0 (yX13_price, cX13_price, 2, (some .int)) kX13_price) := gq_ok oX13_price
  refine gr_ev (d := 0) (l := kX13_price) (Po := fun r h' => (∃ (I' : gr_I) (J' : gr_J), h' = gr_h I' J' ∧ gr_Inv I' ∧ gr_fr [0] [] I I' ∧ gr_fj [0] [] J J' ∧ (∃ z : Int, r = some (.inl z) ∧ (-2147483648) ≤ z ∧ z ≤ 2147483647))) htb rfl (Nat.le_of_ble_eq_true rfl) ?_
  have L27 : ∀ (I1 : gr_I) (J2 : gr_J) (s0_3 : Int), gr_Inv I1 → gr_fr [0] [] I I1 → gr_fj [0] [] J J2 → (((-2147483648) ≤ s0_3 ∧ s0_3 ≤ 2147483647)) → gv_X (gr_E ws0 tb 0 (yX13_price, cX13_price, 2, (some .int)) kX13_price) (gv_Q cX13_price (some .int) (gr_sh ++ ext) (fun r h' => (∃ (I' : gr_I) (J' : gr_J), h' = gr_h I' J' ∧ gr_Inv I' ∧ gr_fr [0] [] I I' ∧ gr_fj [0] [] J J' ∧ (∃ z : Int, r = some (.inl z) ∧ (-2147483648) ≤ z ∧ z ≤ 2147483647)))) (27, [], [.inl s0_3], gr_sh ++ ext, gr_h I1 J2) := by
    intro I1 J2 s0_3 hI1 FI1 FJ2 m_3
    have hs0_3 := m_3
    exact gv_iret hD rfl ⟨I1, J2, rfl, hI1, FI1, FJ2, ⟨_, rfl, by omega⟩⟩
  have L17 : ∀ (I4 : gr_I) (J5 : gr_J) , gr_Inv I4 → gr_fr [0] [] I I4 → gr_fj [0] [] J J5 → gv_X (gr_E ws0 tb 0 (yX13_price, cX13_price, 2, (some .int)) kX13_price) (gv_Q cX13_price (some .int) (gr_sh ++ ext) (fun r h' => (∃ (I' : gr_I) (J' : gr_J), h' = gr_h I' J' ∧ gr_Inv I' ∧ gr_fr [0] [] I I' ∧ gr_fj [0] [] J J' ∧ (∃ z : Int, r = some (.inl z) ∧ (-2147483648) ≤ z ∧ z ≤ 2147483647)))) (17, [], [], gr_sh ++ ext, gr_h I4 J5) := by
    intro I4 J5 hI4 FI4 FJ5
    refine gv_run 2 true hD (pc' := 27) (lv' := []) (st' := [.inl (-1)]) (h' := gr_h I4 J5) (C := ((True ∧ True) ∧ True)) rfl ⟨⟨trivial, trivial⟩, trivial⟩ ?_
    exact L27 I4 J5 (-1) hI4 FI4 FJ5 (by omega)
  refine gv_run 3 true hD (pc' := 5) (lv' := [(0, .inr (.inr (some 0))), (1, .inl a1)]) (st' := []) (h' := gz_up (gr_h I J) 0 0 (.inl 0)) (C := (((True ∧ True) ∧ True) ∧ True)) rfl ⟨⟨⟨trivial, trivial⟩, trivial⟩, trivial⟩ ?_
  refine gr_st hI FI rfl rfl ⟨⟨by show 0 ≤ _; omega, by show _ ≤ 2; omega⟩, trivial⟩ (fun I7 hI7 FI7 q8 p8 => ?_)
  refine gv_run 1 true hD (pc' := 6) (lv' := [(0, .inr (.inr (some 0))), (1, .inl a1)]) (st' := [.inl a1]) (h' := gr_h I7 J) (C := (True ∧ True)) rfl ⟨trivial, trivial⟩ ?_
  refine gv_if_lt (t := 17) hD rfl rfl ⟨by omega, by omega⟩ (fun c9 => ?_) (fun c9 => ?_)
  · refine gv_pick [] rfl ?_
    exact L17 I7 J hI7 FI7 FJ
  · have f10 := (show 0 ≤ I7 0 186 ∧ I7 0 186 ≤ 16 from (hI7 0 186).1)
    refine gv_run 3 true hD (pc' := 14) (lv' := [(0, .inr (.inr (some 0))), (1, .inl a1)]) (st' := [.inl (I7 0 186), .inl a1]) (h' := gr_h I7 J) (C := (((True ∧ True) ∧ True) ∧ True)) rfl ⟨⟨⟨trivial, trivial⟩, trivial⟩, trivial⟩ ?_
    refine gv_icmp_lt (t := 21) hD rfl rfl ⟨⟨by omega, by omega⟩, ⟨by omega, by omega⟩⟩ (fun c11 => ?_) (fun c11 => ?_)
    · have f12 := (show (-2147483648) ≤ I7 112 (Int.toNat a1) ∧ I7 112 (Int.toNat a1) ≤ 2147483647 from (hI7 112 (Int.toNat a1)).1)
      refine gv_run 4 true hD (pc' := 27) (lv' := [(0, .inr (.inr (some 0))), (1, .inl a1)]) (st' := [.inl (I7 112 (Int.toNat a1))]) (h' := gr_h I7 J) (C := ((((True ∧ True) ∧ True) ∧ True) ∧ (0 ≤ a1 ∧ a1 < ((16 : Nat) : Int)))) rfl ⟨⟨⟨⟨trivial, trivial⟩, trivial⟩, trivial⟩, ⟨by omega, by omega⟩⟩ ?_
      refine gv_pick [] rfl ?_
      exact L27 I7 J ((I7 112 (Int.toNat a1))) hI7 FI7 FJ (by omega)
    · refine gv_pick [] rfl ?_
      exact L17 I7 J hI7 FI7 FJ
set_option maxHeartbeats 4000000 in
set_option maxRecDepth 100000 in
theorem r_rule {ws0 : List Cond} {tb : String → gz_T} (hws : ∀ w ∈ gr_ws, w ∈ ws0) (htb : tb RX13 = gr_T) (ext : gz_Sh) (I : gr_I) (J : gr_J) (hI : gr_Inv I)    : ∃ r h', gz_Ev ws0 tb 1 (yX13_rule, cX13_rule, 1, (some .int)) [.inr (.inr (some 0))] (gr_sh ++ ext) (gr_h I J) r (gr_sh ++ ext) h' 0 0 ∧ (∃ (I' : gr_I) (J' : gr_J), h' = gr_h I' J' ∧ gr_Inv I' ∧ gr_fr [0] [] I I' ∧ gr_fj [0] [] J J' ∧ (∃ z : Int, r = some (.inl z) ∧ 0 ≤ z ∧ z ≤ 6)) := by
  have FI : gr_fr [0] [] I I := fun _ _ _ => rfl
  have FJ : gr_fj [0] [] J J := fun _ _ _ => rfl
  have hD : gv_D (gr_E ws0 tb 0 (yX13_rule, cX13_rule, 1, (some .int)) kX13_rule) := gq_ok oX13_rule
  refine gr_ev (d := 0) (l := kX13_rule) (Po := fun r h' => (∃ (I' : gr_I) (J' : gr_J), h' = gr_h I' J' ∧ gr_Inv I' ∧ gr_fr [0] [] I I' ∧ gr_fj [0] [] J J' ∧ (∃ z : Int, r = some (.inl z) ∧ 0 ≤ z ∧ z ≤ 6))) htb rfl (Nat.le_of_ble_eq_true rfl) ?_
  refine gv_run 3 true hD (pc' := 5) (lv' := [(0, .inr (.inr (some 0)))]) (st' := []) (h' := gz_up (gr_h I J) 0 0 (.inl 0)) (C := (((True ∧ True) ∧ True) ∧ True)) rfl ⟨⟨⟨trivial, trivial⟩, trivial⟩, trivial⟩ ?_
  refine gr_st hI FI rfl rfl ⟨⟨by show 0 ≤ _; omega, by show _ ≤ 2; omega⟩, trivial⟩ (fun I1 hI1 FI1 q2 p2 => ?_)
  have f3 := (show 0 ≤ I1 0 79 ∧ I1 0 79 ≤ 6 from (hI1 0 79).1)
  refine gv_run 2 true hD (pc' := 9) (lv' := [(0, .inr (.inr (some 0)))]) (st' := [.inl (I1 0 79)]) (h' := gr_h I1 J) (C := ((True ∧ True) ∧ True)) rfl ⟨⟨trivial, trivial⟩, trivial⟩ ?_
  exact gv_iret hD rfl ⟨I1, J, rfl, hI1, FI1, FJ, ⟨_, rfl, by omega⟩⟩
set_option maxHeartbeats 4000000 in
set_option maxRecDepth 100000 in
theorem r_thrown {ws0 : List Cond} {tb : String → gz_T} (hws : ∀ w ∈ gr_ws, w ∈ ws0) (htb : tb RX13 = gr_T) (ext : gz_Sh) (I : gr_I) (J : gr_J) (hI : gr_Inv I)    : ∃ r h', gz_Ev ws0 tb 1 (yX13_thrown, cX13_thrown, 1, (some .int)) [.inr (.inr (some 0))] (gr_sh ++ ext) (gr_h I J) r (gr_sh ++ ext) h' 0 0 ∧ (h' = gr_h I J ∧ (∃ z : Int, r = some (.inl z) ∧ 0 ≤ z ∧ z ≤ 2)) := by
  have hD : gv_D (gr_E ws0 tb 0 (yX13_thrown, cX13_thrown, 1, (some .int)) kX13_thrown) := gq_ok oX13_thrown
  refine gr_ev (d := 0) (l := kX13_thrown) (Po := fun r h' => (h' = gr_h I J ∧ (∃ z : Int, r = some (.inl z) ∧ 0 ≤ z ∧ z ≤ 2))) htb rfl (Nat.le_of_ble_eq_true rfl) ?_
  have f1 := (show 0 ≤ I 0 0 ∧ I 0 0 ≤ 2 from (hI 0 0).1)
  refine gv_run 2 true hD (pc' := 4) (lv' := [(0, .inr (.inr (some 0)))]) (st' := [.inl (I 0 0)]) (h' := gr_h I J) (C := ((True ∧ True) ∧ True)) rfl ⟨⟨trivial, trivial⟩, trivial⟩ ?_
  exact gv_iret hD rfl ⟨rfl, ⟨_, rfl, by omega⟩⟩
set_option maxHeartbeats 4000000 in
set_option maxRecDepth 100000 in
theorem r_trees {ws0 : List Cond} {tb : String → gz_T} (hws : ∀ w ∈ gr_ws, w ∈ ws0) (htb : tb RX13 = gr_T) (ext : gz_Sh) (I : gr_I) (J : gr_J) (hI : gr_Inv I)    : ∃ r h', gz_Ev ws0 tb 1 (yX13_trees, cX13_trees, 1, (some .long)) [.inr (.inr (some 0))] (gr_sh ++ ext) (gr_h I J) r (gr_sh ++ ext) h' 0 0 ∧ (∃ (I' : gr_I) (J' : gr_J), h' = gr_h I' J' ∧ gr_Inv I' ∧ gr_fr [0] [] I I' ∧ gr_fj [0] [] J J' ∧ (∃ z : Int64, r = some (.inr (.inl z)))) := by
  have FI : gr_fr [0] [] I I := fun _ _ _ => rfl
  have FJ : gr_fj [0] [] J J := fun _ _ _ => rfl
  have hD : gv_D (gr_E ws0 tb 0 (yX13_trees, cX13_trees, 1, (some .long)) kX13_trees) := gq_ok oX13_trees
  refine gr_ev (d := 0) (l := kX13_trees) (Po := fun r h' => (∃ (I' : gr_I) (J' : gr_J), h' = gr_h I' J' ∧ gr_Inv I' ∧ gr_fr [0] [] I I' ∧ gr_fj [0] [] J J' ∧ (∃ z : Int64, r = some (.inr (.inl z))))) htb rfl (Nat.le_of_ble_eq_true rfl) ?_
  refine gv_run 3 true hD (pc' := 5) (lv' := [(0, .inr (.inr (some 0)))]) (st' := []) (h' := gz_up (gr_h I J) 0 0 (.inl 0)) (C := (((True ∧ True) ∧ True) ∧ True)) rfl ⟨⟨⟨trivial, trivial⟩, trivial⟩, trivial⟩ ?_
  refine gr_st hI FI rfl rfl ⟨⟨by show 0 ≤ _; omega, by show _ ≤ 2; omega⟩, trivial⟩ (fun I1 hI1 FI1 q2 p2 => ?_)
  refine gv_run 2 true hD (pc' := 9) (lv' := [(0, .inr (.inr (some 0)))]) (st' := [.inr (.inl (J 0 181))]) (h' := gr_h I1 J) (C := ((True ∧ True) ∧ True)) rfl ⟨⟨trivial, trivial⟩, trivial⟩ ?_
  exact gv_lret hD rfl ⟨I1, J, rfl, hI1, FI1, FJ, ⟨_, rfl⟩⟩
set_option maxHeartbeats 4000000 in
set_option maxRecDepth 100000 in
theorem r_end {ws0 : List Cond} {tb : String → gz_T} (hws : ∀ w ∈ gr_ws, w ∈ ws0) (htb : tb RX13 = gr_T) (ext : gz_Sh) (I : gr_I) (J : gr_J) (hI : gr_Inv I) (a1 : Int) (ha1 : (-2147483648) ≤ a1 ∧ a1 ≤ 2147483647)  : ∃ r h', gz_Ev ws0 tb 2 (yX13_end, cX13_end, 2, (some .int)) [.inr (.inr (some 0)), .inl a1] (gr_sh ++ ext) (gr_h I J) r (gr_sh ++ ext) h' 0 0 ∧ (∃ (I' : gr_I) (J' : gr_J), h' = gr_h I' J' ∧ gr_Inv I' ∧ gr_fr [0, 68] [] I I' ∧ gr_fj [0, 68] [] J J' ∧ (∃ z : Int, r = some (.inl z) ∧ 0 ≤ z ∧ z ≤ 1000)) := by
  have FI : gr_fr [0, 68] [] I I := fun _ _ _ => rfl
  have FJ : gr_fj [0, 68] [] J J := fun _ _ _ => rfl
  have hD : gv_D (gr_E ws0 tb 1 (yX13_end, cX13_end, 2, (some .int)) kX13_end) := gq_ok oX13_end
  refine gr_ev (d := 1) (l := kX13_end) (Po := fun r h' => (∃ (I' : gr_I) (J' : gr_J), h' = gr_h I' J' ∧ gr_Inv I' ∧ gr_fr [0, 68] [] I I' ∧ gr_fj [0, 68] [] J J' ∧ (∃ z : Int, r = some (.inl z) ∧ 0 ≤ z ∧ z ≤ 1000))) htb rfl (Nat.le_of_ble_eq_true rfl) ?_
  have L17 : ∀ (I1 : gr_I) (J2 : gr_J) , gr_Inv I1 → gr_fr [0, 68] [] I I1 → gr_fj [0, 68] [] J J2 → gv_X (gr_E ws0 tb 1 (yX13_end, cX13_end, 2, (some .int)) kX13_end) (gv_Q cX13_end (some .int) (gr_sh ++ ext) (fun r h' => (∃ (I' : gr_I) (J' : gr_J), h' = gr_h I' J' ∧ gr_Inv I' ∧ gr_fr [0, 68] [] I I' ∧ gr_fj [0, 68] [] J J' ∧ (∃ z : Int, r = some (.inl z) ∧ 0 ≤ z ∧ z ≤ 1000)))) (17, [(0, .inr (.inr (some 0)))], [], gr_sh ++ ext, gr_h I1 J2) := by
    intro I1 J2 hI1 FI1 FJ2
    refine gv_run 1 true hD (pc' := 18) (lv' := [(0, .inr (.inr (some 0)))]) (st' := [.inr (.inr (some 0))]) (h' := gr_h I1 J2) (C := (True ∧ True)) rfl ⟨trivial, trivial⟩ ?_
    obtain ⟨r4, h4, E4, P4⟩ := r_bad (ws0 := ws0) (tb := tb) hws htb ext I1 J2 hI1   
    obtain ⟨I5, J6, rfl, hI5, g4, k4, ⟨z4, rfl, q4⟩⟩ := P4
    have FI5 := gr_frt FI1 g4 rfl rfl
    have FJ6 := gr_fjt FJ2 k4 rfl rfl
    refine gv_callV hD rfl (As := []) (st := []) rfl (by decide) rfl rfl (gr_lV hws rfl) (Nat.le_of_ble_eq_true rfl) (gz_Ev_mono (d := 1) (by decide) E4) ?_
    show gv_X _ _ (21, [(0, .inr (.inr (some 0)))], [.inl z4], gr_sh ++ ext, gr_h I5 J6)
    exact gv_iret hD rfl ⟨I5, J6, rfl, hI5, FI5, FJ6, ⟨_, rfl, by omega⟩⟩
  refine gv_run 3 true hD (pc' := 5) (lv' := [(0, .inr (.inr (some 0))), (1, .inl a1)]) (st' := []) (h' := gz_up (gr_h I J) 0 0 (.inl 0)) (C := (((True ∧ True) ∧ True) ∧ True)) rfl ⟨⟨⟨trivial, trivial⟩, trivial⟩, trivial⟩ ?_
  refine gr_st hI FI rfl rfl ⟨⟨by show 0 ≤ _; omega, by show _ ≤ 2; omega⟩, trivial⟩ (fun I7 hI7 FI7 q8 p8 => ?_)
  refine gv_run 1 true hD (pc' := 6) (lv' := [(0, .inr (.inr (some 0))), (1, .inl a1)]) (st' := [.inl a1]) (h' := gr_h I7 J) (C := (True ∧ True)) rfl ⟨trivial, trivial⟩ ?_
  refine gv_if_lt (t := 17) hD rfl rfl ⟨by omega, by omega⟩ (fun c9 => ?_) (fun c9 => ?_)
  · refine gv_pick [0] rfl ?_
    exact L17 I7 J hI7 FI7 FJ
  · have f10 := (show 0 ≤ I7 0 68 ∧ I7 0 68 ≤ 1000 from (hI7 0 68).1)
    refine gv_run 3 true hD (pc' := 14) (lv' := [(0, .inr (.inr (some 0))), (1, .inl a1)]) (st' := [.inl (I7 0 68), .inl a1]) (h' := gr_h I7 J) (C := (((True ∧ True) ∧ True) ∧ True)) rfl ⟨⟨⟨trivial, trivial⟩, trivial⟩, trivial⟩ ?_
    refine gv_icmp_le (t := 22) hD rfl rfl ⟨⟨by omega, by omega⟩, ⟨by omega, by omega⟩⟩ (fun c11 => ?_) (fun c11 => ?_)
    · refine gv_run 3 true hD (pc' := 27) (lv' := [(0, .inr (.inr (some 0))), (1, .inl a1)]) (st' := []) (h' := gz_up (gr_h I7 J) 0 68 (.inl a1)) (C := (((True ∧ True) ∧ True) ∧ True)) rfl ⟨⟨⟨trivial, trivial⟩, trivial⟩, trivial⟩ ?_
      refine gr_st hI7 FI7 rfl rfl ⟨⟨by show 0 ≤ _; omega, by show _ ≤ 1000; omega⟩, trivial⟩ (fun I12 hI12 FI12 q13 p13 => ?_)
      refine gv_run 1 true hD (pc' := 28) (lv' := [(0, .inr (.inr (some 0))), (1, .inl a1)]) (st' := [.inl a1]) (h' := gr_h I12 J) (C := (True ∧ True)) rfl ⟨trivial, trivial⟩ ?_
      exact gv_iret hD rfl ⟨I12, J, rfl, hI12, FI12, FJ, ⟨_, rfl, by omega⟩⟩
    · refine gv_pick [0] rfl ?_
      exact L17 I7 J hI7 FI7 FJ
set_option maxHeartbeats 4000000 in
set_option maxRecDepth 100000 in
theorem r_cellsOf {ws0 : List Cond} {tb : String → gz_T} (hws : ∀ w ∈ gr_ws, w ∈ ws0) (htb : tb RX13 = gr_T) (ext : gz_Sh) (I : gr_I) (J : gr_J) (hI : gr_Inv I) (a1 : Int) (a2 : Int) (ha1 : 0 ≤ a1 ∧ a1 ≤ 7) (ha2 : 0 ≤ a2 ∧ a2 ≤ 63)  : ∃ r h', gz_Ev ws0 tb 1 (yX13_cellsOf, cX13_cellsOf, 3, (some .int)) [.inr (.inr (some 0)), .inl a1, .inl a2] (gr_sh ++ ext) (gr_h I J) r (gr_sh ++ ext) h' 0 0 ∧ (h' = gr_h I J ∧ (∃ z : Int, r = some (.inl z) ∧ 0 ≤ z ∧ z ≤ 24)) := by
  have hD : gv_D (gr_E ws0 tb 0 (yX13_cellsOf, cX13_cellsOf, 3, (some .int)) kX13_cellsOf) := gq_ok oX13_cellsOf
  refine gr_ev (d := 0) (l := kX13_cellsOf) (Po := fun r h' => (h' = gr_h I J ∧ (∃ z : Int, r = some (.inl z) ∧ 0 ≤ z ∧ z ≤ 24))) htb rfl (Nat.le_of_ble_eq_true rfl) ?_
  refine gv_run 7 true hD (pc' := 12) (lv' := [(0, .inr (.inr (some 0))), (1, .inl a1), (2, .inl a2)]) (st' := [.inr (.inr (some 37)), .inl (24 * a1), .inr (.inr (some 31))]) (h' := gr_h I J) (C := (((((((True ∧ True) ∧ True) ∧ True) ∧ True) ∧ True) ∧ True) ∧ True)) rfl ⟨⟨⟨⟨⟨⟨⟨trivial, trivial⟩, trivial⟩, trivial⟩, trivial⟩, trivial⟩, trivial⟩, trivial⟩ ?_
  have f1 := (show 0 ≤ I 37 (Int.toNat (((64 * a1) + a2))) ∧ I 37 (Int.toNat (((64 * a1) + a2))) ≤ 23 from (hI 37 (Int.toNat (((64 * a1) + a2)))).1)
  refine gv_run 6 true hD (pc' := 19) (lv' := [(0, .inr (.inr (some 0))), (1, .inl a1), (2, .inl a2)]) (st' := [.inl (I 37 (Int.toNat (((64 * a1) + a2)))), .inl (24 * a1), .inr (.inr (some 31))]) (h' := gr_h I J) (C := ((((((True ∧ True) ∧ True) ∧ True) ∧ True) ∧ True) ∧ (0 ≤ (((64 * a1) + a2)) ∧ (((64 * a1) + a2)) < ((512 : Nat) : Int)))) rfl ⟨⟨⟨⟨⟨⟨trivial, trivial⟩, trivial⟩, trivial⟩, trivial⟩, trivial⟩, ⟨by omega, by omega⟩⟩ ?_
  have f2 := (show 0 ≤ I 31 (Int.toNat (((24 * a1) + (I 37 (Int.toNat (((64 * a1) + a2))))))) ∧ I 31 (Int.toNat (((24 * a1) + (I 37 (Int.toNat (((64 * a1) + a2))))))) ≤ 24 from (hI 31 (Int.toNat (((24 * a1) + (I 37 (Int.toNat (((64 * a1) + a2)))))))).1)
  refine gv_run 2 true hD (pc' := 21) (lv' := [(0, .inr (.inr (some 0))), (1, .inl a1), (2, .inl a2)]) (st' := [.inl (I 31 (Int.toNat (((24 * a1) + (I 37 (Int.toNat (((64 * a1) + a2))))))))]) (h' := gr_h I J) (C := ((True ∧ True) ∧ (0 ≤ (((24 * a1) + (I 37 (Int.toNat (((64 * a1) + a2)))))) ∧ (((24 * a1) + (I 37 (Int.toNat (((64 * a1) + a2)))))) < ((192 : Nat) : Int)))) rfl ⟨⟨trivial, trivial⟩, ⟨by omega, by omega⟩⟩ ?_
  exact gv_iret hD rfl ⟨rfl, ⟨_, rfl, by omega⟩⟩
set_option maxHeartbeats 4000000 in
set_option maxRecDepth 100000 in
theorem r_isIn {ws0 : List Cond} {tb : String → gz_T} (hws : ∀ w ∈ gr_ws, w ∈ ws0) (htb : tb RX13 = gr_T) (ext : gz_Sh) (I : gr_I) (J : gr_J) (hI : gr_Inv I) (a1 : Int) (a2 : Int) (a3 : Int) (ha1 : 0 ≤ a1 ∧ a1 ≤ 7) (ha2 : (-16) ≤ a2 ∧ a2 ≤ (-1)) (ha3 : (-2147483648) ≤ a3 ∧ a3 ≤ 2147483647)  : ∃ r h', gz_Ev ws0 tb 1 (yX13_isIn, cX13_isIn, 4, (some .boolean)) [.inr (.inr (some 0)), .inl a1, .inl a2, .inl a3] (gr_sh ++ ext) (gr_h I J) r (gr_sh ++ ext) h' 0 0 ∧ (h' = gr_h I J ∧ (∃ z : Int, r = some (.inl z) ∧ 0 ≤ z ∧ z ≤ 1)) := by
  have hD : gv_D (gr_E ws0 tb 0 (yX13_isIn, cX13_isIn, 4, (some .boolean)) kX13_isIn) := gq_ok oX13_isIn
  refine gr_ev (d := 0) (l := kX13_isIn) (Po := fun r h' => (h' = gr_h I J ∧ (∃ z : Int, r = some (.inl z) ∧ 0 ≤ z ∧ z ≤ 1))) htb rfl (Nat.le_of_ble_eq_true rfl) ?_
  have L29 : ∀ (s0_1 : Int), ((0 ≤ s0_1 ∧ s0_1 ≤ 1)) → gv_X (gr_E ws0 tb 0 (yX13_isIn, cX13_isIn, 4, (some .boolean)) kX13_isIn) (gv_Q cX13_isIn (some .boolean) (gr_sh ++ ext) (fun r h' => (h' = gr_h I J ∧ (∃ z : Int, r = some (.inl z) ∧ 0 ≤ z ∧ z ≤ 1)))) (29, [], [.inl s0_1], gr_sh ++ ext, gr_h I J) := by
    intro s0_1 m_1
    have hs0_1 := m_1
    exact gv_zret hD rfl (by omega) ⟨rfl, ⟨_, rfl, by omega⟩⟩
  refine gv_run 7 true hD (pc' := 10) (lv' := [(0, .inr (.inr (some 0))), (1, .inl a1), (2, .inl a2), (3, .inl a3)]) (st' := [.inl ((16 * a1) - 1), .inr (.inr (some 26))]) (h' := gr_h I J) (C := (((((((True ∧ True) ∧ True) ∧ True) ∧ True) ∧ True) ∧ True) ∧ True)) rfl ⟨⟨⟨⟨⟨⟨⟨trivial, trivial⟩, trivial⟩, trivial⟩, trivial⟩, trivial⟩, trivial⟩, trivial⟩ ?_
  have f2 := (show (-2147483648) ≤ I 26 (Int.toNat ((((16 * a1) - 1) - a2))) ∧ I 26 (Int.toNat ((((16 * a1) - 1) - a2))) ≤ 2147483647 from (hI 26 (Int.toNat ((((16 * a1) - 1) - a2)))).1)
  refine gv_run 3 true hD (pc' := 13) (lv' := [(0, .inr (.inr (some 0))), (1, .inl a1), (2, .inl a2), (3, .inl a3)]) (st' := [.inl (I 26 (Int.toNat ((((16 * a1) - 1) - a2))))]) (h' := gr_h I J) (C := (((True ∧ True) ∧ True) ∧ (0 ≤ ((((16 * a1) - 1) - a2)) ∧ ((((16 * a1) - 1) - a2)) < ((128 : Nat) : Int)))) rfl ⟨⟨⟨trivial, trivial⟩, trivial⟩, ⟨by omega, by omega⟩⟩ ?_
  have f3 := gw_any (Int32.ofInt ((I 26 (Int.toNat ((((16 * a1) - 1) - a2))))) >>> (Int32.ofInt (a3 - 97) &&& 31))
  have f4 := gw_and (x := (((Int32.ofInt ((I 26 (Int.toNat ((((16 * a1) - 1) - a2))))) >>> (Int32.ofInt (a3 - 97) &&& 31)).toInt))) (y := 1) ⟨by omega, by omega⟩
  refine gv_run 7 true hD (pc' := 21) (lv' := [(0, .inr (.inr (some 0))), (1, .inl a1), (2, .inl a2), (3, .inl a3)]) (st' := [.inl 1, .inl ((Int32.ofInt (((Int32.ofInt ((I 26 (Int.toNat ((((16 * a1) - 1) - a2))))) >>> (Int32.ofInt (a3 - 97) &&& 31)).toInt)) &&& Int32.ofInt 1).toInt)]) (h' := gr_h I J) (C := (((((((True ∧ True) ∧ True) ∧ True) ∧ True) ∧ True) ∧ True) ∧ True)) rfl ⟨⟨⟨⟨⟨⟨⟨trivial, trivial⟩, trivial⟩, trivial⟩, trivial⟩, trivial⟩, trivial⟩, trivial⟩ ?_
  refine gv_icmp_ne (t := 28) hD rfl rfl ⟨⟨by omega, by omega⟩, ⟨by omega, by omega⟩⟩ (fun c5 => ?_) (fun c5 => ?_)
  · refine gv_run 1 true hD (pc' := 29) (lv' := [(0, .inr (.inr (some 0))), (1, .inl a1), (2, .inl a2), (3, .inl a3)]) (st' := [.inl 0]) (h' := gr_h I J) (C := (True ∧ True)) rfl ⟨trivial, trivial⟩ ?_
    refine gv_pick [] rfl ?_
    exact L29 0 (by omega)
  · refine gv_run 2 true hD (pc' := 29) (lv' := [(0, .inr (.inr (some 0))), (1, .inl a1), (2, .inl a2), (3, .inl a3)]) (st' := [.inl 1]) (h' := gr_h I J) (C := ((True ∧ True) ∧ True)) rfl ⟨⟨trivial, trivial⟩, trivial⟩ ?_
    refine gv_pick [] rfl ?_
    exact L29 1 (by omega)
set_option maxHeartbeats 4000000 in
set_option maxRecDepth 100000 in
theorem r_stands {ws0 : List Cond} {tb : String → gz_T} (hws : ∀ w ∈ gr_ws, w ∈ ws0) (htb : tb RX13 = gr_T) (ext : gz_Sh) (I : gr_I) (J : gr_J) (hI : gr_Inv I) (a1 : Int) (a2 : Int) (a3 : Int) (ha1 : 0 ≤ a1 ∧ a1 ≤ 7) (ha2 : (-16) ≤ a2 ∧ a2 ≤ 32015) (ha3 : 0 ≤ a3 ∧ a3 ≤ 24)  : ∃ r h', gz_Ev ws0 tb 2 (yX13_stands, cX13_stands, 6, (some .int)) [.inr (.inr (some 0)), .inl a1, .inl a2, .inl a3] (gr_sh ++ ext) (gr_h I J) r (gr_sh ++ ext) h' 0 0 ∧ (h' = gr_h I J ∧ (∃ z : Int, r = some (.inl z) ∧ (-1) ≤ z ∧ z ≤ 15 ∧ (z < 0 ∨ a3 + z ≤ I 0 126))) := by
  have hD : gv_D (gr_E ws0 tb 1 (yX13_stands, cX13_stands, 6, (some .int)) kX13_stands) := gq_ok oX13_stands
  refine gr_ev (d := 1) (l := kX13_stands) (Po := fun r h' => (h' = gr_h I J ∧ (∃ z : Int, r = some (.inl z) ∧ (-1) ≤ z ∧ z ≤ 15 ∧ (z < 0 ∨ a3 + z ≤ I 0 126)))) htb rfl (Nat.le_of_ble_eq_true rfl) ?_
  have f1 := (show 0 ≤ I 0 126 ∧ I 0 126 ≤ 24 from (hI 0 126).1)
  have L32 : ∀ (s0_2 : Int), (((-1) ≤ s0_2 ∧ s0_2 ≤ 1) ∧ (s0_2 < 0 ∨ a3 + s0_2 ≤ I 0 126)) → gv_X (gr_E ws0 tb 1 (yX13_stands, cX13_stands, 6, (some .int)) kX13_stands) (gv_Q cX13_stands (some .int) (gr_sh ++ ext) (fun r h' => (h' = gr_h I J ∧ (∃ z : Int, r = some (.inl z) ∧ (-1) ≤ z ∧ z ≤ 15 ∧ (z < 0 ∨ a3 + z ≤ I 0 126))))) (32, [], [.inl s0_2], gr_sh ++ ext, gr_h I J) := by
    intro s0_2 m_2
    obtain ⟨hs0_2, e0_2⟩ := m_2
    have f3 := (show 0 ≤ I 0 126 ∧ I 0 126 ≤ 24 from (hI 0 126).1)
    exact gv_iret hD rfl ⟨rfl, ⟨_, rfl, by omega⟩⟩
  have L31 : gv_X (gr_E ws0 tb 1 (yX13_stands, cX13_stands, 6, (some .int)) kX13_stands) (gv_Q cX13_stands (some .int) (gr_sh ++ ext) (fun r h' => (h' = gr_h I J ∧ (∃ z : Int, r = some (.inl z) ∧ (-1) ≤ z ∧ z ≤ 15 ∧ (z < 0 ∨ a3 + z ≤ I 0 126))))) (31, [], [], gr_sh ++ ext, gr_h I J) := by
    have f5 := (show 0 ≤ I 0 126 ∧ I 0 126 ≤ 24 from (hI 0 126).1)
    refine gv_run 1 true hD (pc' := 32) (lv' := []) (st' := [.inl (-1)]) (h' := gr_h I J) (C := (True ∧ True)) rfl ⟨trivial, trivial⟩ ?_
    exact L32 (-1) (by omega)
  have L55 : ∀ (n : Nat) (v4_6 : Int) (v5_6 : Int), (16 - v5_6).toNat < n → ((0 ≤ a2 ∧ a2 ≤ 32015) ∧ (0 ≤ a3 ∧ a3 ≤ 24) ∧ (0 ≤ v4_6 ∧ v4_6 ≤ 15) ∧ (0 ≤ v5_6 ∧ v5_6 ≤ 15) ∧ (a3 + v4_6 ≤ I 0 126)) → gv_X (gr_E ws0 tb 1 (yX13_stands, cX13_stands, 6, (some .int)) kX13_stands) (gv_Q cX13_stands (some .int) (gr_sh ++ ext) (fun r h' => (h' = gr_h I J ∧ (∃ z : Int, r = some (.inl z) ∧ (-1) ≤ z ∧ z ≤ 15 ∧ (z < 0 ∨ a3 + z ≤ I 0 126))))) (55, [(0, .inr (.inr (some 0))), (2, .inl a2), (3, .inl a3), (4, .inl v4_6), (5, .inl v5_6)], [], gr_sh ++ ext, gr_h I J) := by
    intro n
    induction n with
    | zero => intro v4_6 v5_6 hn; omega
    | succ n ih55 =>
      intro v4_6 v5_6 hn m_6
      obtain ⟨ha2_6, ha3_6, hv4_6, hv5_6, e0_6⟩ := m_6
      have f7 := (show 0 ≤ I 0 126 ∧ I 0 126 ≤ 24 from (hI 0 126).1)
      refine gv_run 2 true hD (pc' := 59) (lv' := [(0, .inr (.inr (some 0))), (2, .inl a2), (3, .inl a3), (4, .inl v4_6), (5, .inl v5_6)]) (st' := [.inl v4_6, .inl v5_6]) (h' := gr_h I J) (C := ((True ∧ True) ∧ True)) rfl ⟨⟨trivial, trivial⟩, trivial⟩ ?_
      refine gv_icmp_ge (t := 93) hD rfl rfl ⟨⟨by omega, by omega⟩, ⟨by omega, by omega⟩⟩ (fun c8 => ?_) (fun c8 => ?_)
      · refine gv_run 1 true hD (pc' := 95) (lv' := [(0, .inr (.inr (some 0))), (2, .inl a2), (3, .inl a3), (4, .inl v4_6), (5, .inl v5_6)]) (st' := [.inl v4_6]) (h' := gr_h I J) (C := (True ∧ True)) rfl ⟨trivial, trivial⟩ ?_
        exact gv_iret hD rfl ⟨rfl, ⟨_, rfl, by omega⟩⟩
      · have f9 := (show (-128) ≤ I 76 (Int.toNat ((a3 + v5_6))) ∧ I 76 (Int.toNat ((a3 + v5_6))) ≤ 127 from (hI 76 (Int.toNat ((a3 + v5_6)))).1)
        refine gv_run 6 true hD (pc' := 71) (lv' := [(0, .inr (.inr (some 0))), (2, .inl a2), (3, .inl a3), (4, .inl v4_6), (5, .inl v5_6)]) (st' := [.inl (I 76 (Int.toNat ((a3 + v5_6))))]) (h' := gr_h I J) (C := ((((((True ∧ True) ∧ True) ∧ True) ∧ True) ∧ True) ∧ (0 ≤ (a3 + v5_6) ∧ (a3 + v5_6) < ((64 : Nat) : Int)))) rfl ⟨⟨⟨⟨⟨⟨trivial, trivial⟩, trivial⟩, trivial⟩, trivial⟩, trivial⟩, ⟨by omega, by omega⟩⟩ ?_
        have f10 := gw_shr (x := a2) (y := 4) ⟨by omega, by omega⟩
        refine gv_run 7 true hD (pc' := 81) (lv' := [(0, .inr (.inr (some 0))), (2, .inl a2), (3, .inl a3), (4, .inl v4_6), (5, .inl v5_6)]) (st' := [.inl (((Int32.ofInt a2 >>> (Int32.ofInt 4 &&& 31)).toInt) + v5_6), .inr (.inr (some 51)), .inl (I 76 (Int.toNat ((a3 + v5_6))))]) (h' := gr_h I J) (C := (((((((True ∧ True) ∧ True) ∧ True) ∧ True) ∧ True) ∧ True) ∧ True)) rfl ⟨⟨⟨⟨⟨⟨⟨trivial, trivial⟩, trivial⟩, trivial⟩, trivial⟩, trivial⟩, trivial⟩, trivial⟩ ?_
        have f11 := (show (-128) ≤ I 51 (Int.toNat ((((Int32.ofInt a2 >>> (Int32.ofInt 4 &&& 31)).toInt) + v5_6))) ∧ I 51 (Int.toNat ((((Int32.ofInt a2 >>> (Int32.ofInt 4 &&& 31)).toInt) + v5_6))) ≤ 127 from (hI 51 (Int.toNat ((((Int32.ofInt a2 >>> (Int32.ofInt 4 &&& 31)).toInt) + v5_6)))).1)
        refine gv_run 1 true hD (pc' := 82) (lv' := [(0, .inr (.inr (some 0))), (2, .inl a2), (3, .inl a3), (4, .inl v4_6), (5, .inl v5_6)]) (st' := [.inl (I 51 (Int.toNat ((((Int32.ofInt a2 >>> (Int32.ofInt 4 &&& 31)).toInt) + v5_6)))), .inl (I 76 (Int.toNat ((a3 + v5_6))))]) (h' := gr_h I J) (C := (True ∧ (0 ≤ ((((Int32.ofInt a2 >>> (Int32.ofInt 4 &&& 31)).toInt) + v5_6)) ∧ ((((Int32.ofInt a2 >>> (Int32.ofInt 4 &&& 31)).toInt) + v5_6)) < ((82000 : Nat) : Int)))) rfl ⟨trivial, ⟨by omega, by omega⟩⟩ ?_
        refine gv_icmp_eq (t := 87) hD rfl rfl ⟨⟨by omega, by omega⟩, ⟨by omega, by omega⟩⟩ (fun c12 => ?_) (fun c12 => ?_)
        · refine gv_run 2 true hD (pc' := 55) (lv' := [(5, .inl (v5_6 + 1)), (0, .inr (.inr (some 0))), (2, .inl a2), (3, .inl a3), (4, .inl v4_6)]) (st' := []) (h' := gr_h I J) (C := ((True ∧ True) ∧ True)) rfl ⟨⟨trivial, trivial⟩, trivial⟩ ?_
          refine gv_pick [1, 2, 3, 4, 0] rfl ?_
          exact ih55 v4_6 (v5_6 + 1) (by omega) (by omega)
        · refine gv_run 1 true hD (pc' := 86) (lv' := [(0, .inr (.inr (some 0))), (2, .inl a2), (3, .inl a3), (4, .inl v4_6), (5, .inl v5_6)]) (st' := [.inl (-1)]) (h' := gr_h I J) (C := (True ∧ True)) rfl ⟨trivial, trivial⟩ ?_
          exact gv_iret hD rfl ⟨rfl, ⟨_, rfl, by omega⟩⟩
  refine gv_run 1 true hD (pc' := 1) (lv' := [(0, .inr (.inr (some 0))), (1, .inl a1), (2, .inl a2), (3, .inl a3)]) (st' := [.inl a2]) (h' := gr_h I J) (C := (True ∧ True)) rfl ⟨trivial, trivial⟩ ?_
  refine gv_if_ge (t := 33) hD rfl rfl ⟨by omega, by omega⟩ (fun c13 => ?_) (fun c13 => ?_)
  · have f14 := gw_and (x := a2) (y := 15) ⟨by omega, by omega⟩
    refine gv_run 7 true hD (pc' := 43) (lv' := [(4, .inl ((Int32.ofInt a2 &&& Int32.ofInt 15).toInt)), (0, .inr (.inr (some 0))), (1, .inl a1), (2, .inl a2), (3, .inl a3)]) (st' := [.inl (a3 + ((Int32.ofInt a2 &&& Int32.ofInt 15).toInt))]) (h' := gr_h I J) (C := (((((((True ∧ True) ∧ True) ∧ True) ∧ True) ∧ True) ∧ True) ∧ True)) rfl ⟨⟨⟨⟨⟨⟨⟨trivial, trivial⟩, trivial⟩, trivial⟩, trivial⟩, trivial⟩, trivial⟩, trivial⟩ ?_
    have f15 := (show 0 ≤ I 0 126 ∧ I 0 126 ≤ 24 from (hI 0 126).1)
    refine gv_run 2 true hD (pc' := 47) (lv' := [(4, .inl ((Int32.ofInt a2 &&& Int32.ofInt 15).toInt)), (0, .inr (.inr (some 0))), (1, .inl a1), (2, .inl a2), (3, .inl a3)]) (st' := [.inl (I 0 126), .inl (a3 + ((Int32.ofInt a2 &&& Int32.ofInt 15).toInt))]) (h' := gr_h I J) (C := ((True ∧ True) ∧ True)) rfl ⟨⟨trivial, trivial⟩, trivial⟩ ?_
    refine gv_icmp_le (t := 52) hD rfl rfl ⟨⟨by omega, by omega⟩, ⟨by omega, by omega⟩⟩ (fun c16 => ?_) (fun c16 => ?_)
    · refine gv_run 2 true hD (pc' := 55) (lv' := [(5, .inl 0), (4, .inl ((Int32.ofInt a2 &&& Int32.ofInt 15).toInt)), (0, .inr (.inr (some 0))), (1, .inl a1), (2, .inl a2), (3, .inl a3)]) (st' := []) (h' := gr_h I J) (C := ((True ∧ True) ∧ True)) rfl ⟨⟨trivial, trivial⟩, trivial⟩ ?_
      refine gv_pick [2, 4, 5, 1, 0] rfl ?_
      exact L55 _ (((Int32.ofInt a2 &&& Int32.ofInt 15).toInt)) 0 (Nat.lt_succ_self _) (by omega)
    · refine gv_run 1 true hD (pc' := 51) (lv' := [(4, .inl ((Int32.ofInt a2 &&& Int32.ofInt 15).toInt)), (0, .inr (.inr (some 0))), (1, .inl a1), (2, .inl a2), (3, .inl a3)]) (st' := [.inl (-1)]) (h' := gr_h I J) (C := (True ∧ True)) rfl ⟨trivial, trivial⟩ ?_
      exact gv_iret hD rfl ⟨rfl, ⟨_, rfl, by omega⟩⟩
  · have f17 := (show 0 ≤ I 0 126 ∧ I 0 126 ≤ 24 from (hI 0 126).1)
    refine gv_run 3 true hD (pc' := 9) (lv' := [(0, .inr (.inr (some 0))), (1, .inl a1), (2, .inl a2), (3, .inl a3)]) (st' := [.inl (I 0 126), .inl a3]) (h' := gr_h I J) (C := (((True ∧ True) ∧ True) ∧ True)) rfl ⟨⟨⟨trivial, trivial⟩, trivial⟩, trivial⟩ ?_
    refine gv_icmp_ge (t := 31) hD rfl rfl ⟨⟨by omega, by omega⟩, ⟨by omega, by omega⟩⟩ (fun c18 => ?_) (fun c18 => ?_)
    · refine gv_pick [] rfl ?_
      exact L31 
    · have f19 := (show (-128) ≤ I 76 (Int.toNat a3) ∧ I 76 (Int.toNat a3) ≤ 127 from (hI 76 (Int.toNat a3)).1)
      refine gv_run 7 true hD (pc' := 21) (lv' := [(0, .inr (.inr (some 0))), (1, .inl a1), (2, .inl a2), (3, .inl a3)]) (st' := [.inl (I 76 (Int.toNat a3)), .inl a2, .inl a1, .inr (.inr (some 0))]) (h' := gr_h I J) (C := (((((((True ∧ True) ∧ True) ∧ True) ∧ True) ∧ True) ∧ True) ∧ (0 ≤ a3 ∧ a3 < ((64 : Nat) : Int)))) rfl ⟨⟨⟨⟨⟨⟨⟨trivial, trivial⟩, trivial⟩, trivial⟩, trivial⟩, trivial⟩, trivial⟩, ⟨by omega, by omega⟩⟩ ?_
      obtain ⟨r20, h20, E20, P20⟩ := r_isIn (ws0 := ws0) (tb := tb) hws htb ext I J hI a1 a2 ((I 76 (Int.toNat a3))) ⟨by omega, by omega⟩ ⟨by omega, by omega⟩ ⟨by omega, by omega⟩ 
      obtain ⟨rfl, ⟨z20, rfl, q20⟩⟩ := P20
      refine gv_callV hD rfl (As := [.inl a1, .inl a2, .inl (I 76 (Int.toNat a3))]) (st := []) rfl (by decide) rfl rfl (gr_lV hws rfl) (Nat.le_of_ble_eq_true rfl) (gz_Ev_mono (d := 1) (by decide) E20) ?_
      show gv_X _ _ (24, [(0, .inr (.inr (some 0))), (1, .inl a1), (2, .inl a2), (3, .inl a3)], [.inl z20], gr_sh ++ ext, gr_h I J)
      refine gv_if_eq (t := 31) hD rfl rfl ⟨by omega, by omega⟩ (fun c21 => ?_) (fun c21 => ?_)
      · refine gv_pick [] rfl ?_
        exact L31 
      · refine gv_run 2 true hD (pc' := 32) (lv' := [(0, .inr (.inr (some 0))), (1, .inl a1), (2, .inl a2), (3, .inl a3)]) (st' := [.inl 1]) (h' := gr_h I J) (C := ((True ∧ True) ∧ True)) rfl ⟨⟨trivial, trivial⟩, trivial⟩ ?_
        refine gv_pick [] rfl ?_
        exact L32 1 (by omega)
