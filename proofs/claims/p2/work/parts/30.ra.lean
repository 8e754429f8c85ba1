set_option maxHeartbeats 4000000 in
theorem r_bad {ws0 : List Cond} {tb : String → gz_T} (hws : ∀ w ∈ gr_ws, w ∈ ws0) (htb : tb RX13 = gr_T) (ext : gz_Sh) (I : gr_I) (J : gr_J) (hI : gr_Inv I)    : ∃ r h', gz_Ev ws0 tb 1 (yX13_bad, cX13_bad, 1, (some .int)) [.inr (.inr (some 0))] (gr_sh ++ ext) (gr_h I J) r (gr_sh ++ ext) h' 0 0 ∧ (∃ (I' : gr_I) (J' : gr_J), h' = gr_h I' J' ∧ gr_Inv I' ∧ (∃ z : Int, r = some (.inl z) ∧ 0 ≤ z ∧ z ≤ 0)) := by
  have hD : gv_D (gr_E ws0 tb 0 (yX13_bad, cX13_bad, 1, (some .int)) kX13_bad) := gq_ok oX13_bad
  refine gr_ev (l := kX13_bad) (Po := fun r h' => (∃ (I' : gr_I) (J' : gr_J), h' = gr_h I' J' ∧ gr_Inv I' ∧ (∃ z : Int, r = some (.inl z) ∧ 0 ≤ z ∧ z ≤ 0))) htb rfl (Nat.le_of_ble_eq_true rfl) ?_
  refine gv_run 3 true hD (pc' := 5) (lv' := [(0, .inr (.inr (some 0)))]) (st' := []) (h' := gz_up (gr_h I J) 0 0 (.inl 1)) rfl ⟨⟨⟨trivial, trivial⟩, trivial⟩, trivial⟩ ?_
  refine gr_st hI rfl ⟨by show 0 ≤ _; omega, by show _ ≤ 2; omega⟩ (fun I1 hI1 => ?_)
  refine gv_run 1 true hD (pc' := 6) (lv' := [(0, .inr (.inr (some 0)))]) (st' := [.inl 0]) (h' := gr_h I1 J) rfl ⟨trivial, trivial⟩ ?_
  exact gv_iret hD rfl ⟨I1, J, rfl, hI1, ⟨_, rfl, by omega, by omega⟩⟩
set_option maxHeartbeats 4000000 in
theorem r_low {ws0 : List Cond} {tb : String → gz_T} (hws : ∀ w ∈ gr_ws, w ∈ ws0) (htb : tb RX13 = gr_T) (ext : gz_Sh) (I : gr_I) (J : gr_J) (hI : gr_Inv I) (a1 : Int) (ha1 : 0 ≤ a1 ∧ a1 ≤ 1001)  : ∃ r h', gz_Ev ws0 tb 1 (yX13_low, cX13_low, 2, (some .boolean)) [.inr (.inr (some 0)), .inl a1] (gr_sh ++ ext) (gr_h I J) r (gr_sh ++ ext) h' 0 0 ∧ (h' = gr_h I J ∧ (∃ z : Int, r = some (.inl z) ∧ 0 ≤ z ∧ z ≤ 1)) := by
  have hD : gv_D (gr_E ws0 tb 0 (yX13_low, cX13_low, 2, (some .boolean)) kX13_low) := gq_ok oX13_low
  refine gr_ev (l := kX13_low) (Po := fun r h' => (h' = gr_h I J ∧ (∃ z : Int, r = some (.inl z) ∧ 0 ≤ z ∧ z ≤ 1))) htb rfl (Nat.le_of_ble_eq_true rfl) ?_
  have L35 : ∀ (s0_1 : Int), 0 ≤ s0_1 ∧ s0_1 ≤ 1 → gv_X (gr_E ws0 tb 0 (yX13_low, cX13_low, 2, (some .boolean)) kX13_low) (gv_Q cX13_low (some .boolean) (gr_sh ++ ext) (fun r h' => (h' = gr_h I J ∧ (∃ z : Int, r = some (.inl z) ∧ 0 ≤ z ∧ z ≤ 1)))) (35, [], [.inl s0_1], gr_sh ++ ext, gr_h I J) := by
    intro s0_1 hs0_1
    exact gv_zret hD rfl (by omega) ⟨rfl, ⟨_, rfl, by omega, by omega⟩⟩
  have L34 : gv_X (gr_E ws0 tb 0 (yX13_low, cX13_low, 2, (some .boolean)) kX13_low) (gv_Q cX13_low (some .boolean) (gr_sh ++ ext) (fun r h' => (h' = gr_h I J ∧ (∃ z : Int, r = some (.inl z) ∧ 0 ≤ z ∧ z ≤ 1)))) (34, [], [], gr_sh ++ ext, gr_h I J) := by
    refine gv_run 1 true hD (pc' := 35) (lv' := []) (st' := [.inl 0]) (h' := gr_h I J) rfl ⟨trivial, trivial⟩ ?_
    exact L35 0 ⟨by omega, by omega⟩
  have f3 := (show 0 ≤ I 0 69 ∧ I 0 69 ≤ 1000 from hI 0 69)
  refine gv_run 3 true hD (pc' := 5) (lv' := [(0, .inr (.inr (some 0))), (1, .inl a1)]) (st' := [.inl (I 0 69), .inl a1]) (h' := gr_h I J) rfl ⟨⟨⟨trivial, trivial⟩, trivial⟩, trivial⟩ ?_
  refine gv_icmp_ge (t := 34) hD rfl rfl ⟨⟨by omega, by omega⟩, ⟨by omega, by omega⟩⟩ (fun c4 => ?_) (fun c4 => ?_)
  · refine gv_pick [] rfl ?_
    exact L34 
  · have f5 := (show (-128) ≤ (I 57 (a1).toNat) ∧ (I 57 (a1).toNat) ≤ 127 from hI 57 (a1).toNat)
    refine gv_run 5 true hD (pc' := 16) (lv' := [(0, .inr (.inr (some 0))), (1, .inl a1)]) (st' := [.inl 97, .inl (I 57 (a1).toNat)]) (h' := gr_h I J) rfl ⟨⟨⟨⟨⟨trivial, trivial⟩, trivial⟩, trivial⟩, ⟨by omega, by omega⟩⟩, trivial⟩ ?_
    refine gv_icmp_lt (t := 34) hD rfl rfl ⟨⟨by omega, by omega⟩, ⟨by omega, by omega⟩⟩ (fun c6 => ?_) (fun c6 => ?_)
    · refine gv_pick [] rfl ?_
      exact L34 
    · have f7 := (show (-128) ≤ (I 57 (a1).toNat) ∧ (I 57 (a1).toNat) ≤ 127 from hI 57 (a1).toNat)
      refine gv_run 5 true hD (pc' := 27) (lv' := [(0, .inr (.inr (some 0))), (1, .inl a1)]) (st' := [.inl 122, .inl (I 57 (a1).toNat)]) (h' := gr_h I J) rfl ⟨⟨⟨⟨⟨trivial, trivial⟩, trivial⟩, trivial⟩, ⟨by omega, by omega⟩⟩, trivial⟩ ?_
      refine gv_icmp_gt (t := 34) hD rfl rfl ⟨⟨by omega, by omega⟩, ⟨by omega, by omega⟩⟩ (fun c8 => ?_) (fun c8 => ?_)
      · refine gv_pick [] rfl ?_
        exact L34 
      · refine gv_run 2 true hD (pc' := 35) (lv' := [(0, .inr (.inr (some 0))), (1, .inl a1)]) (st' := [.inl 1]) (h' := gr_h I J) rfl ⟨⟨trivial, trivial⟩, trivial⟩ ?_
        refine gv_pick [] rfl ?_
        exact L35 1 ⟨by omega, by omega⟩
set_option maxHeartbeats 4000000 in
theorem r_dig {ws0 : List Cond} {tb : String → gz_T} (hws : ∀ w ∈ gr_ws, w ∈ ws0) (htb : tb RX13 = gr_T) (ext : gz_Sh) (I : gr_I) (J : gr_J) (hI : gr_Inv I) (a1 : Int) (ha1 : 0 ≤ a1 ∧ a1 ≤ 1001)  : ∃ r h', gz_Ev ws0 tb 1 (yX13_dig, cX13_dig, 2, (some .boolean)) [.inr (.inr (some 0)), .inl a1] (gr_sh ++ ext) (gr_h I J) r (gr_sh ++ ext) h' 0 0 ∧ (h' = gr_h I J ∧ (∃ z : Int, r = some (.inl z) ∧ 0 ≤ z ∧ z ≤ 1)) := by
  have hD : gv_D (gr_E ws0 tb 0 (yX13_dig, cX13_dig, 2, (some .boolean)) kX13_dig) := gq_ok oX13_dig
  refine gr_ev (l := kX13_dig) (Po := fun r h' => (h' = gr_h I J ∧ (∃ z : Int, r = some (.inl z) ∧ 0 ≤ z ∧ z ≤ 1))) htb rfl (Nat.le_of_ble_eq_true rfl) ?_
  have L35 : ∀ (s0_1 : Int), 0 ≤ s0_1 ∧ s0_1 ≤ 1 → gv_X (gr_E ws0 tb 0 (yX13_dig, cX13_dig, 2, (some .boolean)) kX13_dig) (gv_Q cX13_dig (some .boolean) (gr_sh ++ ext) (fun r h' => (h' = gr_h I J ∧ (∃ z : Int, r = some (.inl z) ∧ 0 ≤ z ∧ z ≤ 1)))) (35, [], [.inl s0_1], gr_sh ++ ext, gr_h I J) := by
    intro s0_1 hs0_1
    exact gv_zret hD rfl (by omega) ⟨rfl, ⟨_, rfl, by omega, by omega⟩⟩
  have L34 : gv_X (gr_E ws0 tb 0 (yX13_dig, cX13_dig, 2, (some .boolean)) kX13_dig) (gv_Q cX13_dig (some .boolean) (gr_sh ++ ext) (fun r h' => (h' = gr_h I J ∧ (∃ z : Int, r = some (.inl z) ∧ 0 ≤ z ∧ z ≤ 1)))) (34, [], [], gr_sh ++ ext, gr_h I J) := by
    refine gv_run 1 true hD (pc' := 35) (lv' := []) (st' := [.inl 0]) (h' := gr_h I J) rfl ⟨trivial, trivial⟩ ?_
    exact L35 0 ⟨by omega, by omega⟩
  have f3 := (show 0 ≤ I 0 69 ∧ I 0 69 ≤ 1000 from hI 0 69)
  refine gv_run 3 true hD (pc' := 5) (lv' := [(0, .inr (.inr (some 0))), (1, .inl a1)]) (st' := [.inl (I 0 69), .inl a1]) (h' := gr_h I J) rfl ⟨⟨⟨trivial, trivial⟩, trivial⟩, trivial⟩ ?_
  refine gv_icmp_ge (t := 34) hD rfl rfl ⟨⟨by omega, by omega⟩, ⟨by omega, by omega⟩⟩ (fun c4 => ?_) (fun c4 => ?_)
  · refine gv_pick [] rfl ?_
    exact L34 
  · have f5 := (show (-128) ≤ (I 57 (a1).toNat) ∧ (I 57 (a1).toNat) ≤ 127 from hI 57 (a1).toNat)
    refine gv_run 5 true hD (pc' := 16) (lv' := [(0, .inr (.inr (some 0))), (1, .inl a1)]) (st' := [.inl 48, .inl (I 57 (a1).toNat)]) (h' := gr_h I J) rfl ⟨⟨⟨⟨⟨trivial, trivial⟩, trivial⟩, trivial⟩, ⟨by omega, by omega⟩⟩, trivial⟩ ?_
    refine gv_icmp_lt (t := 34) hD rfl rfl ⟨⟨by omega, by omega⟩, ⟨by omega, by omega⟩⟩ (fun c6 => ?_) (fun c6 => ?_)
    · refine gv_pick [] rfl ?_
      exact L34 
    · have f7 := (show (-128) ≤ (I 57 (a1).toNat) ∧ (I 57 (a1).toNat) ≤ 127 from hI 57 (a1).toNat)
      refine gv_run 5 true hD (pc' := 27) (lv' := [(0, .inr (.inr (some 0))), (1, .inl a1)]) (st' := [.inl 57, .inl (I 57 (a1).toNat)]) (h' := gr_h I J) rfl ⟨⟨⟨⟨⟨trivial, trivial⟩, trivial⟩, trivial⟩, ⟨by omega, by omega⟩⟩, trivial⟩ ?_
      refine gv_icmp_gt (t := 34) hD rfl rfl ⟨⟨by omega, by omega⟩, ⟨by omega, by omega⟩⟩ (fun c8 => ?_) (fun c8 => ?_)
      · refine gv_pick [] rfl ?_
        exact L34 
      · refine gv_run 2 true hD (pc' := 35) (lv' := [(0, .inr (.inr (some 0))), (1, .inl a1)]) (st' := [.inl 1]) (h' := gr_h I J) rfl ⟨⟨trivial, trivial⟩, trivial⟩ ?_
        refine gv_pick [] rfl ?_
        exact L35 1 ⟨by omega, by omega⟩
set_option maxHeartbeats 4000000 in
theorem r_reads {ws0 : List Cond} {tb : String → gz_T} (hws : ∀ w ∈ gr_ws, w ∈ ws0) (htb : tb RX13 = gr_T) (ext : gz_Sh) (I : gr_I) (J : gr_J) (hI : gr_Inv I)    : ∃ r h', gz_Ev ws0 tb 1 (yX13_reads, cX13_reads, 2, none) [.inr (.inr (some 0))] (gr_sh ++ ext) (gr_h I J) r (gr_sh ++ ext) h' 0 0 ∧ (∃ (I' : gr_I) (J' : gr_J), h' = gr_h I' J' ∧ gr_Inv I' ∧ r = none) := by
  have hD : gv_D (gr_E ws0 tb 0 (yX13_reads, cX13_reads, 2, none) kX13_reads) := gq_ok oX13_reads
  refine gr_ev (l := kX13_reads) (Po := fun r h' => (∃ (I' : gr_I) (J' : gr_J), h' = gr_h I' J' ∧ gr_Inv I' ∧ r = none)) htb rfl (Nat.le_of_ble_eq_true rfl) ?_
  have L10 : ∀ (n : Nat) (I1 : gr_I) (J2 : gr_J) (v1_3 : Int), (1001 - v1_3).toNat < n → gr_Inv I1 → 0 ≤ v1_3 ∧ v1_3 ≤ 1000 → gv_X (gr_E ws0 tb 0 (yX13_reads, cX13_reads, 2, none) kX13_reads) (gv_Q cX13_reads none (gr_sh ++ ext) (fun r h' => (∃ (I' : gr_I) (J' : gr_J), h' = gr_h I' J' ∧ gr_Inv I' ∧ r = none))) (10, [(0, .inr (.inr (some 0))), (1, .inl v1_3)], [], gr_sh ++ ext, gr_h I1 J2) := by
    intro n
    induction n with
    | zero => intro I1 J2 v1_3 hn; omega
    | succ n ih10 =>
      intro I1 J2 v1_3 hn hI1 hv1_3
      have f4 := (show 0 ≤ I1 0 68 ∧ I1 0 68 ≤ 1000 from hI1 0 68)
      refine gv_run 3 true hD (pc' := 15) (lv' := [(0, .inr (.inr (some 0))), (1, .inl v1_3)]) (st' := [.inl (I1 0 68), .inl v1_3]) (h' := gr_h I1 J2) rfl ⟨⟨⟨trivial, trivial⟩, trivial⟩, trivial⟩ ?_
      refine gv_icmp_ge (t := 36) hD rfl rfl ⟨⟨by omega, by omega⟩, ⟨by omega, by omega⟩⟩ (fun c5 => ?_) (fun c5 => ?_)
      · refine gv_run 3 true hD (pc' := 41) (lv' := [(0, .inr (.inr (some 0))), (1, .inl v1_3)]) (st' := []) (h' := gz_up (gr_h I1 J2) 0 68 (.inl 0)) rfl ⟨⟨⟨trivial, trivial⟩, trivial⟩, trivial⟩ ?_
        refine gr_st hI1 rfl ⟨by show 0 ≤ _; omega, by show _ ≤ 1000; omega⟩ (fun I6 hI6 => ?_)
        exact gv_vret hD rfl ⟨I6, J2, rfl, hI6, rfl⟩
      · have f7 := (show (-128) ≤ (I1 56 (v1_3).toNat) ∧ (I1 56 (v1_3).toNat) ≤ 127 from hI1 56 (v1_3).toNat)
        have f8 := gw_nar_byte (x := ((I1 56 (v1_3).toNat)))
        refine gv_run 8 true hD (pc' := 30) (lv' := [(0, .inr (.inr (some 0))), (1, .inl v1_3)]) (st' := []) (h' := gz_up (gr_h I1 J2) 57 (v1_3).toNat (.inl (((vp_nar .byte (Int32.ofInt ((I1 56 (v1_3).toNat)))).toInt)))) rfl ⟨⟨⟨⟨⟨⟨⟨⟨trivial, trivial⟩, trivial⟩, trivial⟩, trivial⟩, trivial⟩, trivial⟩, ⟨by omega, by omega⟩⟩, ⟨by omega, by omega⟩⟩ ?_
        refine gr_st hI1 rfl ⟨by show (-128) ≤ _; omega, by show _ ≤ 127; omega⟩ (fun I9 hI9 => ?_)
        refine gv_run 2 true hD (pc' := 10) (lv' := [(1, .inl (v1_3 + 1)), (0, .inr (.inr (some 0)))]) (st' := []) (h' := gr_h I9 J2) rfl ⟨⟨trivial, trivial⟩, trivial⟩ ?_
        refine gv_pick [1, 0] rfl ?_
        exact ih10 I9 J2 (v1_3 + 1) (by omega) hI9 ⟨by omega, by omega⟩
  have f10 := (show 0 ≤ I 0 68 ∧ I 0 68 ≤ 1000 from hI 0 68)
  refine gv_run 4 true hD (pc' := 8) (lv' := [(0, .inr (.inr (some 0)))]) (st' := []) (h' := gz_up (gr_h I J) 0 69 (.inl (I 0 68))) rfl ⟨⟨⟨⟨trivial, trivial⟩, trivial⟩, trivial⟩, trivial⟩ ?_
  refine gr_st hI rfl ⟨by show 0 ≤ _; omega, by show _ ≤ 1000; omega⟩ (fun I11 hI11 => ?_)
  refine gv_run 2 true hD (pc' := 10) (lv' := [(1, .inl 0), (0, .inr (.inr (some 0)))]) (st' := []) (h' := gr_h I11 J) rfl ⟨⟨trivial, trivial⟩, trivial⟩ ?_
  refine gv_pick [1, 0] rfl ?_
  exact L10 _ I11 J 0 (Nat.lt_succ_self _) hI11 ⟨by omega, by omega⟩
set_option maxHeartbeats 4000000 in
theorem r_outs {ws0 : List Cond} {tb : String → gz_T} (hws : ∀ w ∈ gr_ws, w ∈ ws0) (htb : tb RX13 = gr_T) (ext : gz_Sh) (I : gr_I) (J : gr_J) (hI : gr_Inv I) (a1 : Int) (ha1 : (-2147483648) ≤ a1 ∧ a1 ≤ 2147483647)  : ∃ r h', gz_Ev ws0 tb 1 (yX13_outs, cX13_outs, 2, none) [.inr (.inr (some 0)), .inl a1] (gr_sh ++ ext) (gr_h I J) r (gr_sh ++ ext) h' 0 0 ∧ (∃ (I' : gr_I) (J' : gr_J), h' = gr_h I' J' ∧ gr_Inv I' ∧ r = none) := by
  have hD : gv_D (gr_E ws0 tb 0 (yX13_outs, cX13_outs, 2, none) kX13_outs) := gq_ok oX13_outs
  refine gr_ev (l := kX13_outs) (Po := fun r h' => (∃ (I' : gr_I) (J' : gr_J), h' = gr_h I' J' ∧ gr_Inv I' ∧ r = none)) htb rfl (Nat.le_of_ble_eq_true rfl) ?_
  have L28 : ∀ (I1 : gr_I) (J2 : gr_J) , gr_Inv I1 → gv_X (gr_E ws0 tb 0 (yX13_outs, cX13_outs, 2, none) kX13_outs) (gv_Q cX13_outs none (gr_sh ++ ext) (fun r h' => (∃ (I' : gr_I) (J' : gr_J), h' = gr_h I' J' ∧ gr_Inv I' ∧ r = none))) (28, [], [], gr_sh ++ ext, gr_h I1 J2) := by
    intro I1 J2 hI1
    exact gv_vret hD rfl ⟨I1, J2, rfl, hI1, rfl⟩
  have f4 := (show 0 ≤ I 0 70 ∧ I 0 70 ≤ 1000 from hI 0 70)
  refine gv_run 3 true hD (pc' := 7) (lv' := [(0, .inr (.inr (some 0))), (1, .inl a1)]) (st' := [.inl 1000, .inl (I 0 70)]) (h' := gr_h I J) rfl ⟨⟨⟨trivial, trivial⟩, trivial⟩, trivial⟩ ?_
  refine gv_icmp_ge (t := 28) hD rfl rfl ⟨⟨by omega, by omega⟩, ⟨by omega, by omega⟩⟩ (fun c5 => ?_) (fun c5 => ?_)
  · refine gv_pick [] rfl ?_
    exact L28 I J hI
  · have f6 := (show 0 ≤ I 0 70 ∧ I 0 70 ≤ 1000 from hI 0 70)
    refine gv_run 9 true hD (pc' := 25) (lv' := [(0, .inr (.inr (some 0))), (1, .inl a1)]) (st' := [.inl (I 0 70), .inr (.inr (some 58))]) (h' := gz_up (gr_h I J) 0 70 (.inl (((I 0 70) + 1)))) rfl ⟨⟨⟨⟨⟨⟨⟨⟨⟨trivial, trivial⟩, trivial⟩, trivial⟩, trivial⟩, trivial⟩, trivial⟩, trivial⟩, trivial⟩, trivial⟩ ?_
    refine gr_st hI rfl ⟨by show 0 ≤ _; omega, by show _ ≤ 1000; omega⟩ (fun I7 hI7 => ?_)
    have f8 := gw_i2b (x := a1)
    have f9 := gw_nar_byte (x := (((Int32.ofInt a1).toInt8.toInt32.toInt)))
    refine gv_run 3 true hD (pc' := 28) (lv' := [(0, .inr (.inr (some 0))), (1, .inl a1)]) (st' := []) (h' := gz_up (gr_h I7 J) 58 ((I 0 70)).toNat (.inl (((vp_nar .byte (Int32.ofInt (((Int32.ofInt a1).toInt8.toInt32.toInt)))).toInt)))) rfl ⟨⟨⟨trivial, trivial⟩, trivial⟩, ⟨by omega, by omega⟩⟩ ?_
    refine gr_st hI7 rfl ⟨by show (-128) ≤ _; omega, by show _ ≤ 127; omega⟩ (fun I10 hI10 => ?_)
    refine gv_pick [] rfl ?_
    exact L28 I10 J hI10
set_option maxHeartbeats 4000000 in
theorem r_sign {ws0 : List Cond} {tb : String → gz_T} (hws : ∀ w ∈ gr_ws, w ∈ ws0) (htb : tb RX13 = gr_T) (ext : gz_Sh) (I : gr_I) (J : gr_J) (hI : gr_Inv I) (a1 : Int) (ha1 : (-2147483648) ≤ a1 ∧ a1 ≤ 2147483647)  : ∃ r h', gz_Ev ws0 tb 1 (yX13_sign, cX13_sign, 2, (some .boolean)) [.inr (.inr (some 0)), .inl a1] (gr_sh ++ ext) (gr_h I J) r (gr_sh ++ ext) h' 0 0 ∧ (h' = gr_h I J ∧ (∃ z : Int, r = some (.inl z) ∧ 0 ≤ z ∧ z ≤ 1)) := by
  have hD : gv_D (gr_E ws0 tb 0 (yX13_sign, cX13_sign, 2, (some .boolean)) kX13_sign) := gq_ok oX13_sign
  refine gr_ev (l := kX13_sign) (Po := fun r h' => (h' = gr_h I J ∧ (∃ z : Int, r = some (.inl z) ∧ 0 ≤ z ∧ z ≤ 1))) htb rfl (Nat.le_of_ble_eq_true rfl) ?_
  have L26 : ∀ (s0_1 : Int), 0 ≤ s0_1 ∧ s0_1 ≤ 1 → gv_X (gr_E ws0 tb 0 (yX13_sign, cX13_sign, 2, (some .boolean)) kX13_sign) (gv_Q cX13_sign (some .boolean) (gr_sh ++ ext) (fun r h' => (h' = gr_h I J ∧ (∃ z : Int, r = some (.inl z) ∧ 0 ≤ z ∧ z ≤ 1)))) (26, [], [.inl s0_1], gr_sh ++ ext, gr_h I J) := by
    intro s0_1 hs0_1
    exact gv_zret hD rfl (by omega) ⟨rfl, ⟨_, rfl, by omega, by omega⟩⟩
  have L25 : gv_X (gr_E ws0 tb 0 (yX13_sign, cX13_sign, 2, (some .boolean)) kX13_sign) (gv_Q cX13_sign (some .boolean) (gr_sh ++ ext) (fun r h' => (h' = gr_h I J ∧ (∃ z : Int, r = some (.inl z) ∧ 0 ≤ z ∧ z ≤ 1)))) (25, [], [], gr_sh ++ ext, gr_h I J) := by
    refine gv_run 1 true hD (pc' := 26) (lv' := []) (st' := [.inl 0]) (h' := gr_h I J) rfl ⟨trivial, trivial⟩ ?_
    exact L26 0 ⟨by omega, by omega⟩
  have f3 := (show 0 ≤ I 0 71 ∧ I 0 71 ≤ 5 from hI 0 71)
  refine gv_run 3 true hD (pc' := 5) (lv' := [(0, .inr (.inr (some 0))), (1, .inl a1)]) (st' := [.inl 4, .inl (I 0 71)]) (h' := gr_h I J) rfl ⟨⟨⟨trivial, trivial⟩, trivial⟩, trivial⟩ ?_
  refine gv_icmp_ne (t := 25) hD rfl rfl ⟨⟨by omega, by omega⟩, ⟨by omega, by omega⟩⟩ (fun c4 => ?_) (fun c4 => ?_)
  · refine gv_pick [] rfl ?_
    exact L25 
  · have f5 := (show 0 ≤ I 0 72 ∧ I 0 72 ≤ 1000 from hI 0 72)
    have f6 := (show (-128) ≤ (I 57 ((I 0 72)).toNat) ∧ (I 57 ((I 0 72)).toNat) ≤ 127 from hI 57 ((I 0 72)).toNat)
    refine gv_run 6 true hD (pc' := 18) (lv' := [(0, .inr (.inr (some 0))), (1, .inl a1)]) (st' := [.inl a1, .inl (I 57 ((I 0 72)).toNat)]) (h' := gr_h I J) rfl ⟨⟨⟨⟨⟨⟨trivial, trivial⟩, trivial⟩, trivial⟩, trivial⟩, ⟨by omega, by omega⟩⟩, trivial⟩ ?_
    refine gv_icmp_ne (t := 25) hD rfl rfl ⟨⟨by omega, by omega⟩, ⟨by omega, by omega⟩⟩ (fun c7 => ?_) (fun c7 => ?_)
    · refine gv_pick [] rfl ?_
      exact L25 
    · refine gv_run 2 true hD (pc' := 26) (lv' := [(0, .inr (.inr (some 0))), (1, .inl a1)]) (st' := [.inl 1]) (h' := gr_h I J) rfl ⟨⟨trivial, trivial⟩, trivial⟩ ?_
      refine gv_pick [] rfl ?_
      exact L26 1 ⟨by omega, by omega⟩
set_option maxHeartbeats 4000000 in
theorem r_out {ws0 : List Cond} {tb : String → gz_T} (hws : ∀ w ∈ gr_ws, w ∈ ws0) (htb : tb RX13 = gr_T) (ext : gz_Sh) (I : gr_I) (J : gr_J) (hI : gr_Inv I) (a1 : Int) (ha1 : (-2147483648) ≤ a1 ∧ a1 ≤ 2147483647)  : ∃ r h', gz_Ev ws0 tb 1 (yX13_out, cX13_out, 2, (some .int)) [.inr (.inr (some 0)), .inl a1] (gr_sh ++ ext) (gr_h I J) r (gr_sh ++ ext) h' 0 0 ∧ (∃ (I' : gr_I) (J' : gr_J), h' = gr_h I' J' ∧ gr_Inv I' ∧ (∃ z : Int, r = some (.inl z) ∧ (-1) ≤ z ∧ z ≤ 255)) := by
  have hD : gv_D (gr_E ws0 tb 0 (yX13_out, cX13_out, 2, (some .int)) kX13_out) := gq_ok oX13_out
  refine gr_ev (l := kX13_out) (Po := fun r h' => (∃ (I' : gr_I) (J' : gr_J), h' = gr_h I' J' ∧ gr_Inv I' ∧ (∃ z : Int, r = some (.inl z) ∧ (-1) ≤ z ∧ z ≤ 255))) htb rfl (Nat.le_of_ble_eq_true rfl) ?_
  have L31 : ∀ (I1 : gr_I) (J2 : gr_J) (s0_3 : Int), gr_Inv I1 → (-1) ≤ s0_3 ∧ s0_3 ≤ 255 → gv_X (gr_E ws0 tb 0 (yX13_out, cX13_out, 2, (some .int)) kX13_out) (gv_Q cX13_out (some .int) (gr_sh ++ ext) (fun r h' => (∃ (I' : gr_I) (J' : gr_J), h' = gr_h I' J' ∧ gr_Inv I' ∧ (∃ z : Int, r = some (.inl z) ∧ (-1) ≤ z ∧ z ≤ 255)))) (31, [], [.inl s0_3], gr_sh ++ ext, gr_h I1 J2) := by
    intro I1 J2 s0_3 hI1 hs0_3
    exact gv_iret hD rfl ⟨I1, J2, rfl, hI1, ⟨_, rfl, by omega, by omega⟩⟩
  have L17 : ∀ (I4 : gr_I) (J5 : gr_J) , gr_Inv I4 → gv_X (gr_E ws0 tb 0 (yX13_out, cX13_out, 2, (some .int)) kX13_out) (gv_Q cX13_out (some .int) (gr_sh ++ ext) (fun r h' => (∃ (I' : gr_I) (J' : gr_J), h' = gr_h I' J' ∧ gr_Inv I' ∧ (∃ z : Int, r = some (.inl z) ∧ (-1) ≤ z ∧ z ≤ 255)))) (17, [], [], gr_sh ++ ext, gr_h I4 J5) := by
    intro I4 J5 hI4
    refine gv_run 2 true hD (pc' := 31) (lv' := []) (st' := [.inl (-1)]) (h' := gr_h I4 J5) rfl ⟨⟨trivial, trivial⟩, trivial⟩ ?_
    exact L31 I4 J5 (-1) hI4 ⟨by omega, by omega⟩
  refine gv_run 3 true hD (pc' := 5) (lv' := [(0, .inr (.inr (some 0))), (1, .inl a1)]) (st' := []) (h' := gz_up (gr_h I J) 0 0 (.inl 0)) rfl ⟨⟨⟨trivial, trivial⟩, trivial⟩, trivial⟩ ?_
  refine gr_st hI rfl ⟨by show 0 ≤ _; omega, by show _ ≤ 2; omega⟩ (fun I7 hI7 => ?_)
  refine gv_run 1 true hD (pc' := 6) (lv' := [(0, .inr (.inr (some 0))), (1, .inl a1)]) (st' := [.inl a1]) (h' := gr_h I7 J) rfl ⟨trivial, trivial⟩ ?_
  refine gv_if_lt (t := 17) hD rfl rfl ⟨by omega, by omega⟩ (fun c8 => ?_) (fun c8 => ?_)
  · refine gv_pick [] rfl ?_
    exact L17 I7 J hI7
  · have f9 := (show 0 ≤ I7 0 70 ∧ I7 0 70 ≤ 1000 from hI7 0 70)
    refine gv_run 3 true hD (pc' := 14) (lv' := [(0, .inr (.inr (some 0))), (1, .inl a1)]) (st' := [.inl (I7 0 70), .inl a1]) (h' := gr_h I7 J) rfl ⟨⟨⟨trivial, trivial⟩, trivial⟩, trivial⟩ ?_
    refine gv_icmp_lt (t := 21) hD rfl rfl ⟨⟨by omega, by omega⟩, ⟨by omega, by omega⟩⟩ (fun c10 => ?_) (fun c10 => ?_)
    · have f11 := (show (-128) ≤ (I7 58 (a1).toNat) ∧ (I7 58 (a1).toNat) ≤ 127 from hI7 58 (a1).toNat)
      have f12 := gw_and (x := ((I7 58 (a1).toNat))) (y := 255) ⟨by omega, by omega⟩
      refine gv_run 6 true hD (pc' := 31) (lv' := [(0, .inr (.inr (some 0))), (1, .inl a1)]) (st' := [.inl ((Int32.ofInt ((I7 58 (a1).toNat)) &&& Int32.ofInt 255).toInt)]) (h' := gr_h I7 J) rfl ⟨⟨⟨⟨⟨⟨trivial, trivial⟩, trivial⟩, trivial⟩, ⟨by omega, by omega⟩⟩, trivial⟩, trivial⟩ ?_
      refine gv_pick [] rfl ?_
      exact L31 I7 J (((Int32.ofInt ((I7 58 (a1).toNat)) &&& Int32.ofInt 255).toInt)) hI7 ⟨by omega, by omega⟩
    · refine gv_pick [] rfl ?_
      exact L17 I7 J hI7
