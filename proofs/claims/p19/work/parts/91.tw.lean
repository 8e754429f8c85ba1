set_option maxHeartbeats 4000000 in
set_option maxRecDepth 100000 in
theorem r_bad_t {ws0 : List Cond} {tb : String → gz_T} (hws : ∀ w ∈ gr_ws, w ∈ ws0) (htb : tb RX13 = gr_T) (ext : gz_Sh) (I : gr_I) (J : gr_J) (hI : gr_Inv I)    : ∃ r h', gz_Ev ws0 tb 1 (yX13_bad, cX13_bad, 1, (some .int)) [.inr (.inr (some 0))] (gr_sh ++ ext) (gr_h I J) r (gr_sh ++ ext) h' 0 0 ∧ (∃ (I' : gr_I) (J' : gr_J), h' = gr_h I' J' ∧ gr_Inv I' ∧ gr_fr [0] [] I I' ∧ gr_fj [0] [] J J' ∧ (∃ z : Int, r = some (.inl z) ∧ 0 ≤ z ∧ z ≤ 0 ∧ (I' 0 0 = 1))) := by
  have FI : gr_fr [0] [] I I := fun _ _ _ => rfl
  have FJ : gr_fj [0] [] J J := fun _ _ _ => rfl
  have hD : gv_D (gr_E ws0 tb 0 (yX13_bad, cX13_bad, 1, (some .int)) kX13_bad) := gq_ok oX13_bad
  refine gr_ev (d := 0) (l := kX13_bad) (Po := fun r h' => (∃ (I' : gr_I) (J' : gr_J), h' = gr_h I' J' ∧ gr_Inv I' ∧ gr_fr [0] [] I I' ∧ gr_fj [0] [] J J' ∧ (∃ z : Int, r = some (.inl z) ∧ 0 ≤ z ∧ z ≤ 0 ∧ (I' 0 0 = 1)))) htb rfl (Nat.le_of_ble_eq_true rfl) ?_
  refine gv_run 3 true hD (pc' := 5) (lv' := [(0, .inr (.inr (some 0)))]) (st' := []) (h' := gz_up (gr_h I J) 0 0 (.inl 1)) (C := (((True ∧ True) ∧ True) ∧ True)) rfl ⟨⟨⟨trivial, trivial⟩, trivial⟩, trivial⟩ ?_
  refine gr_st hI FI rfl rfl ⟨⟨by show 0 ≤ _; omega, by show _ ≤ 2; omega⟩, trivial⟩ (fun I1 hI1 FI1 q2 p2 => ?_)
  refine gv_run 1 true hD (pc' := 6) (lv' := [(0, .inr (.inr (some 0)))]) (st' := [.inl 0]) (h' := gr_h I1 J) (C := (True ∧ True)) rfl ⟨trivial, trivial⟩ ?_
  exact gv_iret hD rfl ⟨I1, J, rfl, hI1, FI1, FJ, ⟨_, rfl, by omega⟩⟩
set_option maxHeartbeats 4000000 in
set_option maxRecDepth 100000 in
theorem r_noTongue_t {ws0 : List Cond} {tb : String → gz_T} (hws : ∀ w ∈ gr_ws, w ∈ ws0) (htb : tb RX13 = gr_T) (ext : gz_Sh) (I : gr_I) (J : gr_J) (hI : gr_Inv I) (a1 : Int) (ha1 : (-2147483648) ≤ a1 ∧ a1 ≤ 2147483647)  : ∃ r h', gz_Ev ws0 tb 1 (yX13_noTongue, cX13_noTongue, 2, (some .boolean)) [.inr (.inr (some 0)), .inl a1] (gr_sh ++ ext) (gr_h I J) r (gr_sh ++ ext) h' 0 0 ∧ (∃ (I' : gr_I) (J' : gr_J), h' = gr_h I' J' ∧ gr_Inv I' ∧ gr_fr [0] [] I I' ∧ gr_fj [0] [] J J' ∧ (∃ z : Int, r = some (.inl z) ∧ 0 ≤ z ∧ z ≤ 1 ∧ (z = 0 → 0 ≤ a1 ∧ a1 < I 0 1 ∧ a1 ≤ 7) ∧ ((z = 0 ∧ (0 ≤ a1 ∧ a1 < I 0 1)) ∨ (z = 1 ∧ ¬ (0 ≤ a1 ∧ a1 < I 0 1))) ∧ (z = 0 → I' 0 0 = 0))) := by
  have FI : gr_fr [0] [] I I := fun _ _ _ => rfl
  have FJ : gr_fj [0] [] J J := fun _ _ _ => rfl
  have hD : gv_D (gr_E ws0 tb 0 (yX13_noTongue, cX13_noTongue, 2, (some .boolean)) kX13_noTongue) := gq_ok oX13_noTongue
  refine gr_ev (d := 0) (l := kX13_noTongue) (Po := fun r h' => (∃ (I' : gr_I) (J' : gr_J), h' = gr_h I' J' ∧ gr_Inv I' ∧ gr_fr [0] [] I I' ∧ gr_fj [0] [] J J' ∧ (∃ z : Int, r = some (.inl z) ∧ 0 ≤ z ∧ z ≤ 1 ∧ (z = 0 → 0 ≤ a1 ∧ a1 < I 0 1 ∧ a1 ≤ 7) ∧ ((z = 0 ∧ (0 ≤ a1 ∧ a1 < I 0 1)) ∨ (z = 1 ∧ ¬ (0 ≤ a1 ∧ a1 < I 0 1))) ∧ (z = 0 → I' 0 0 = 0)))) htb rfl (Nat.le_of_ble_eq_true rfl) ?_
  have f1 := (show 0 ≤ I 0 1 ∧ I 0 1 ≤ 8 from (hI 0 1).1)
  have f2 := (show 0 ≤ I 0 0 ∧ I 0 0 ≤ 2 from (hI 0 0).1)
  have L18 : ∀ (s1_3 : Int), ((0 ≤ s1_3 ∧ s1_3 ≤ 1) ∧ (s1_3 = 0 → 0 ≤ a1 ∧ a1 < I 0 1 ∧ a1 ≤ 7) ∧ ((s1_3 = 0 ∧ (0 ≤ a1 ∧ a1 < I 0 1)) ∨ (s1_3 = 1 ∧ ¬ (0 ≤ a1 ∧ a1 < I 0 1)))) → gv_X (gr_E ws0 tb 0 (yX13_noTongue, cX13_noTongue, 2, (some .boolean)) kX13_noTongue) (gv_Q cX13_noTongue (some .boolean) (gr_sh ++ ext) (fun r h' => (∃ (I' : gr_I) (J' : gr_J), h' = gr_h I' J' ∧ gr_Inv I' ∧ gr_fr [0] [] I I' ∧ gr_fj [0] [] J J' ∧ (∃ z : Int, r = some (.inl z) ∧ 0 ≤ z ∧ z ≤ 1 ∧ (z = 0 → 0 ≤ a1 ∧ a1 < I 0 1 ∧ a1 ≤ 7) ∧ ((z = 0 ∧ (0 ≤ a1 ∧ a1 < I 0 1)) ∨ (z = 1 ∧ ¬ (0 ≤ a1 ∧ a1 < I 0 1))) ∧ (z = 0 → I' 0 0 = 0))))) (18, [(0, .inr (.inr (some 0)))], [.inl s1_3, .inr (.inr (some 0))], gr_sh ++ ext, gr_h I J) := by
    intro s1_3 m_3
    obtain ⟨hs1_3, e0_3, e1_3⟩ := m_3
    have f4 := (show 0 ≤ I 0 1 ∧ I 0 1 ≤ 8 from (hI 0 1).1)
    have f5 := (show 0 ≤ I 0 0 ∧ I 0 0 ≤ 2 from (hI 0 0).1)
    have L33 : ∀ (I6 : gr_I) (J7 : gr_J) (s0_8 : Int), gr_Inv I6 → gr_fr [0] [] I I6 → gr_fj [0] [] J J7 → ((0 ≤ s0_8 ∧ s0_8 ≤ 1) ∧ (s0_8 = 0 → 0 ≤ a1 ∧ a1 < I 0 1 ∧ a1 ≤ 7) ∧ ((s0_8 = 0 ∧ (0 ≤ a1 ∧ a1 < I 0 1)) ∨ (s0_8 = 1 ∧ ¬ (0 ≤ a1 ∧ a1 < I 0 1))) ∧ (s0_8 = 0 → I6 0 0 = 0)) → gv_X (gr_E ws0 tb 0 (yX13_noTongue, cX13_noTongue, 2, (some .boolean)) kX13_noTongue) (gv_Q cX13_noTongue (some .boolean) (gr_sh ++ ext) (fun r h' => (∃ (I' : gr_I) (J' : gr_J), h' = gr_h I' J' ∧ gr_Inv I' ∧ gr_fr [0] [] I I' ∧ gr_fj [0] [] J J' ∧ (∃ z : Int, r = some (.inl z) ∧ 0 ≤ z ∧ z ≤ 1 ∧ (z = 0 → 0 ≤ a1 ∧ a1 < I 0 1 ∧ a1 ≤ 7) ∧ ((z = 0 ∧ (0 ≤ a1 ∧ a1 < I 0 1)) ∨ (z = 1 ∧ ¬ (0 ≤ a1 ∧ a1 < I 0 1))) ∧ (z = 0 → I' 0 0 = 0))))) (33, [], [.inl s0_8], gr_sh ++ ext, gr_h I6 J7) := by
      intro I6 J7 s0_8 hI6 FI6 FJ7 m_8
      clear hs1_3 e0_3 e1_3 f4 f5
      obtain ⟨hs0_8, e0_8, e1_8, e2_8⟩ := m_8
      have f9 := (show 0 ≤ I6 0 1 ∧ I6 0 1 ≤ 8 from (hI6 0 1).1)
      have f10 := (show 0 ≤ I6 0 0 ∧ I6 0 0 ≤ 2 from (hI6 0 0).1)
      exact gv_zret hD rfl (by omega) ⟨I6, J7, rfl, hI6, FI6, FJ7, ⟨_, rfl, by omega⟩⟩
    refine gv_run 1 true hD (pc' := 21) (lv' := [(0, .inr (.inr (some 0)))]) (st' := []) (h' := gz_up (gr_h I J) 0 0 (.inl s1_3)) (C := (True ∧ True)) rfl ⟨trivial, trivial⟩ ?_
    refine gr_st hI FI rfl rfl ⟨⟨by show 0 ≤ _; omega, by show _ ≤ 2; omega⟩, trivial⟩ (fun I11 hI11 FI11 q12 p12 => ?_)
    have t13 := p12 0 1 (by decide)
    have f14 := (show 0 ≤ I11 0 1 ∧ I11 0 1 ≤ 8 from (hI11 0 1).1)
    have f15 := (show 0 ≤ I11 0 0 ∧ I11 0 0 ≤ 2 from (hI11 0 0).1)
    have f16 := (show 0 ≤ I11 0 0 ∧ I11 0 0 ≤ 2 from (hI11 0 0).1)
    refine gv_run 2 true hD (pc' := 25) (lv' := [(0, .inr (.inr (some 0)))]) (st' := [.inl (I11 0 0)]) (h' := gr_h I11 J) (C := ((True ∧ True) ∧ True)) rfl ⟨⟨trivial, trivial⟩, trivial⟩ ?_
    refine gv_if_eq (t := 32) hD rfl rfl ⟨by omega, by omega⟩ (fun c17 => ?_) (fun c17 => ?_)
    · refine gv_run 1 true hD (pc' := 33) (lv' := [(0, .inr (.inr (some 0)))]) (st' := [.inl 0]) (h' := gr_h I11 J) (C := (True ∧ True)) rfl ⟨trivial, trivial⟩ ?_
      refine gv_pick [] rfl ?_
      exact L33 I11 J 0 hI11 FI11 FJ (by omega)
    · refine gv_run 2 true hD (pc' := 33) (lv' := [(0, .inr (.inr (some 0)))]) (st' := [.inl 1]) (h' := gr_h I11 J) (C := ((True ∧ True) ∧ True)) rfl ⟨⟨trivial, trivial⟩, trivial⟩ ?_
      refine gv_pick [] rfl ?_
      exact L33 I11 J 1 hI11 FI11 FJ (by omega)
  have L13 : ((¬ (0 ≤ a1 ∧ a1 < I 0 1))) → gv_X (gr_E ws0 tb 0 (yX13_noTongue, cX13_noTongue, 2, (some .boolean)) kX13_noTongue) (gv_Q cX13_noTongue (some .boolean) (gr_sh ++ ext) (fun r h' => (∃ (I' : gr_I) (J' : gr_J), h' = gr_h I' J' ∧ gr_Inv I' ∧ gr_fr [0] [] I I' ∧ gr_fj [0] [] J J' ∧ (∃ z : Int, r = some (.inl z) ∧ 0 ≤ z ∧ z ≤ 1 ∧ (z = 0 → 0 ≤ a1 ∧ a1 < I 0 1 ∧ a1 ≤ 7) ∧ ((z = 0 ∧ (0 ≤ a1 ∧ a1 < I 0 1)) ∨ (z = 1 ∧ ¬ (0 ≤ a1 ∧ a1 < I 0 1))) ∧ (z = 0 → I' 0 0 = 0))))) (13, [(0, .inr (.inr (some 0)))], [.inr (.inr (some 0))], gr_sh ++ ext, gr_h I J) := by
    intro m_18
    have e0_18 := m_18
    have f19 := (show 0 ≤ I 0 1 ∧ I 0 1 ≤ 8 from (hI 0 1).1)
    have f20 := (show 0 ≤ I 0 0 ∧ I 0 0 ≤ 2 from (hI 0 0).1)
    refine gv_run 2 true hD (pc' := 18) (lv' := [(0, .inr (.inr (some 0)))]) (st' := [.inl 1, .inr (.inr (some 0))]) (h' := gr_h I J) (C := ((True ∧ True) ∧ True)) rfl ⟨⟨trivial, trivial⟩, trivial⟩ ?_
    exact L18 1 (by omega)
  refine gv_run 2 true hD (pc' := 2) (lv' := [(0, .inr (.inr (some 0))), (1, .inl a1)]) (st' := [.inl a1, .inr (.inr (some 0))]) (h' := gr_h I J) (C := ((True ∧ True) ∧ True)) rfl ⟨⟨trivial, trivial⟩, trivial⟩ ?_
  refine gv_if_lt (t := 13) hD rfl rfl ⟨by omega, by omega⟩ (fun c21 => ?_) (fun c21 => ?_)
  · refine gv_pick [0] rfl ?_
    exact L13 (by omega)
  · have f22 := (show 0 ≤ I 0 1 ∧ I 0 1 ≤ 8 from (hI 0 1).1)
    refine gv_run 3 true hD (pc' := 10) (lv' := [(0, .inr (.inr (some 0))), (1, .inl a1)]) (st' := [.inl (I 0 1), .inl a1, .inr (.inr (some 0))]) (h' := gr_h I J) (C := (((True ∧ True) ∧ True) ∧ True)) rfl ⟨⟨⟨trivial, trivial⟩, trivial⟩, trivial⟩ ?_
    refine gv_icmp_lt (t := 17) hD rfl rfl ⟨⟨by omega, by omega⟩, ⟨by omega, by omega⟩⟩ (fun c23 => ?_) (fun c23 => ?_)
    · refine gv_run 1 true hD (pc' := 18) (lv' := [(0, .inr (.inr (some 0))), (1, .inl a1)]) (st' := [.inl 0, .inr (.inr (some 0))]) (h' := gr_h I J) (C := (True ∧ True)) rfl ⟨trivial, trivial⟩ ?_
      refine gv_pick [0] rfl ?_
      exact L18 0 (by omega)
    · refine gv_pick [0] rfl ?_
      exact L13 (by omega)
set_option maxHeartbeats 4000000 in
set_option maxRecDepth 100000 in
theorem r_noKind_t {ws0 : List Cond} {tb : String → gz_T} (hws : ∀ w ∈ gr_ws, w ∈ ws0) (htb : tb RX13 = gr_T) (ext : gz_Sh) (I : gr_I) (J : gr_J) (hI : gr_Inv I) (a1 : Int) (ha1 : (-2147483648) ≤ a1 ∧ a1 ≤ 2147483647)  : ∃ r h', gz_Ev ws0 tb 1 (yX13_noKind, cX13_noKind, 2, (some .boolean)) [.inr (.inr (some 0)), .inl a1] (gr_sh ++ ext) (gr_h I J) r (gr_sh ++ ext) h' 0 0 ∧ (∃ (I' : gr_I) (J' : gr_J), h' = gr_h I' J' ∧ gr_Inv I' ∧ gr_fr [0] [] I I' ∧ gr_fj [0] [] J J' ∧ (∃ z : Int, r = some (.inl z) ∧ 0 ≤ z ∧ z ≤ 1 ∧ (z = 0 → 0 ≤ a1 ∧ a1 ≤ 31) ∧ ((z = 0 ∧ ((0 ≤ a1 ∧ a1 < I 0 2) ∧ I 0 0 = 0)) ∨ (z = 1 ∧ ¬ ((0 ≤ a1 ∧ a1 < I 0 2) ∧ I 0 0 = 0))) ∧ (z = 0 → I' 0 0 = 0))) := by
  have FI : gr_fr [0] [] I I := fun _ _ _ => rfl
  have FJ : gr_fj [0] [] J J := fun _ _ _ => rfl
  have hD : gv_D (gr_E ws0 tb 0 (yX13_noKind, cX13_noKind, 2, (some .boolean)) kX13_noKind) := gq_ok oX13_noKind
  refine gr_ev (d := 0) (l := kX13_noKind) (Po := fun r h' => (∃ (I' : gr_I) (J' : gr_J), h' = gr_h I' J' ∧ gr_Inv I' ∧ gr_fr [0] [] I I' ∧ gr_fj [0] [] J J' ∧ (∃ z : Int, r = some (.inl z) ∧ 0 ≤ z ∧ z ≤ 1 ∧ (z = 0 → 0 ≤ a1 ∧ a1 ≤ 31) ∧ ((z = 0 ∧ ((0 ≤ a1 ∧ a1 < I 0 2) ∧ I 0 0 = 0)) ∨ (z = 1 ∧ ¬ ((0 ≤ a1 ∧ a1 < I 0 2) ∧ I 0 0 = 0))) ∧ (z = 0 → I' 0 0 = 0)))) htb rfl (Nat.le_of_ble_eq_true rfl) ?_
  have f1 := (show 0 ≤ I 0 0 ∧ I 0 0 ≤ 2 from (hI 0 0).1)
  have f2 := (show 0 ≤ I 0 2 ∧ I 0 2 ≤ 32 from (hI 0 2).1)
  have L17 : ∀ (I3 : gr_I) (J4 : gr_J) , gr_Inv I3 → gr_fr [0] [] I I3 → gr_fj [0] [] J J4 → ((I3 0 0 = 0 → 0 ≤ a1 ∧ a1 ≤ 31) ∧ ((I3 0 0 = 0 ∧ ((0 ≤ a1 ∧ a1 < I 0 2) ∧ I 0 0 = 0)) ∨ (¬ I3 0 0 = 0 ∧ ¬ ((0 ≤ a1 ∧ a1 < I 0 2) ∧ I 0 0 = 0)))) → gv_X (gr_E ws0 tb 0 (yX13_noKind, cX13_noKind, 2, (some .boolean)) kX13_noKind) (gv_Q cX13_noKind (some .boolean) (gr_sh ++ ext) (fun r h' => (∃ (I' : gr_I) (J' : gr_J), h' = gr_h I' J' ∧ gr_Inv I' ∧ gr_fr [0] [] I I' ∧ gr_fj [0] [] J J' ∧ (∃ z : Int, r = some (.inl z) ∧ 0 ≤ z ∧ z ≤ 1 ∧ (z = 0 → 0 ≤ a1 ∧ a1 ≤ 31) ∧ ((z = 0 ∧ ((0 ≤ a1 ∧ a1 < I 0 2) ∧ I 0 0 = 0)) ∨ (z = 1 ∧ ¬ ((0 ≤ a1 ∧ a1 < I 0 2) ∧ I 0 0 = 0))) ∧ (z = 0 → I' 0 0 = 0))))) (17, [(0, .inr (.inr (some 0)))], [], gr_sh ++ ext, gr_h I3 J4) := by
    intro I3 J4 hI3 FI3 FJ4 m_5
    obtain ⟨e0_5, e1_5⟩ := m_5
    have f6 := (show 0 ≤ I3 0 0 ∧ I3 0 0 ≤ 2 from (hI3 0 0).1)
    have f7 := (show 0 ≤ I3 0 2 ∧ I3 0 2 ≤ 32 from (hI3 0 2).1)
    have L29 : ∀ (s0_8 : Int), ((0 ≤ s0_8 ∧ s0_8 ≤ 1) ∧ (s0_8 = 0 → 0 ≤ a1 ∧ a1 ≤ 31) ∧ ((s0_8 = 0 ∧ ((0 ≤ a1 ∧ a1 < I 0 2) ∧ I 0 0 = 0)) ∨ (s0_8 = 1 ∧ ¬ ((0 ≤ a1 ∧ a1 < I 0 2) ∧ I 0 0 = 0))) ∧ (s0_8 = 0 → I3 0 0 = 0)) → gv_X (gr_E ws0 tb 0 (yX13_noKind, cX13_noKind, 2, (some .boolean)) kX13_noKind) (gv_Q cX13_noKind (some .boolean) (gr_sh ++ ext) (fun r h' => (∃ (I' : gr_I) (J' : gr_J), h' = gr_h I' J' ∧ gr_Inv I' ∧ gr_fr [0] [] I I' ∧ gr_fj [0] [] J J' ∧ (∃ z : Int, r = some (.inl z) ∧ 0 ≤ z ∧ z ≤ 1 ∧ (z = 0 → 0 ≤ a1 ∧ a1 ≤ 31) ∧ ((z = 0 ∧ ((0 ≤ a1 ∧ a1 < I 0 2) ∧ I 0 0 = 0)) ∨ (z = 1 ∧ ¬ ((0 ≤ a1 ∧ a1 < I 0 2) ∧ I 0 0 = 0))) ∧ (z = 0 → I' 0 0 = 0))))) (29, [], [.inl s0_8], gr_sh ++ ext, gr_h I3 J4) := by
      intro s0_8 m_8
      obtain ⟨hs0_8, e0_8, e1_8, e2_8⟩ := m_8
      have f9 := (show 0 ≤ I3 0 0 ∧ I3 0 0 ≤ 2 from (hI3 0 0).1)
      have f10 := (show 0 ≤ I3 0 2 ∧ I3 0 2 ≤ 32 from (hI3 0 2).1)
      exact gv_zret hD rfl (by omega) ⟨I3, J4, rfl, hI3, FI3, FJ4, ⟨_, rfl, by omega⟩⟩
    have f11 := (show 0 ≤ I3 0 0 ∧ I3 0 0 ≤ 2 from (hI3 0 0).1)
    refine gv_run 2 true hD (pc' := 21) (lv' := [(0, .inr (.inr (some 0)))]) (st' := [.inl (I3 0 0)]) (h' := gr_h I3 J4) (C := ((True ∧ True) ∧ True)) rfl ⟨⟨trivial, trivial⟩, trivial⟩ ?_
    refine gv_if_eq (t := 28) hD rfl rfl ⟨by omega, by omega⟩ (fun c12 => ?_) (fun c12 => ?_)
    · refine gv_run 1 true hD (pc' := 29) (lv' := [(0, .inr (.inr (some 0)))]) (st' := [.inl 0]) (h' := gr_h I3 J4) (C := (True ∧ True)) rfl ⟨trivial, trivial⟩ ?_
      refine gv_pick [] rfl ?_
      exact L29 0 (by omega)
    · refine gv_run 2 true hD (pc' := 29) (lv' := [(0, .inr (.inr (some 0)))]) (st' := [.inl 1]) (h' := gr_h I3 J4) (C := ((True ∧ True) ∧ True)) rfl ⟨⟨trivial, trivial⟩, trivial⟩ ?_
      refine gv_pick [] rfl ?_
      exact L29 1 (by omega)
  have L12 : ((¬ (0 ≤ a1 ∧ a1 < I 0 2))) → gv_X (gr_E ws0 tb 0 (yX13_noKind, cX13_noKind, 2, (some .boolean)) kX13_noKind) (gv_Q cX13_noKind (some .boolean) (gr_sh ++ ext) (fun r h' => (∃ (I' : gr_I) (J' : gr_J), h' = gr_h I' J' ∧ gr_Inv I' ∧ gr_fr [0] [] I I' ∧ gr_fj [0] [] J J' ∧ (∃ z : Int, r = some (.inl z) ∧ 0 ≤ z ∧ z ≤ 1 ∧ (z = 0 → 0 ≤ a1 ∧ a1 ≤ 31) ∧ ((z = 0 ∧ ((0 ≤ a1 ∧ a1 < I 0 2) ∧ I 0 0 = 0)) ∨ (z = 1 ∧ ¬ ((0 ≤ a1 ∧ a1 < I 0 2) ∧ I 0 0 = 0))) ∧ (z = 0 → I' 0 0 = 0))))) (12, [(0, .inr (.inr (some 0)))], [], gr_sh ++ ext, gr_h I J) := by
    intro m_13
    have e0_13 := m_13
    have f14 := (show 0 ≤ I 0 0 ∧ I 0 0 ≤ 2 from (hI 0 0).1)
    have f15 := (show 0 ≤ I 0 2 ∧ I 0 2 ≤ 32 from (hI 0 2).1)
    refine gv_run 3 true hD (pc' := 17) (lv' := [(0, .inr (.inr (some 0)))]) (st' := []) (h' := gz_up (gr_h I J) 0 0 (.inl 1)) (C := (((True ∧ True) ∧ True) ∧ True)) rfl ⟨⟨⟨trivial, trivial⟩, trivial⟩, trivial⟩ ?_
    refine gr_st hI FI rfl rfl ⟨⟨by show 0 ≤ _; omega, by show _ ≤ 2; omega⟩, trivial⟩ (fun I16 hI16 FI16 q17 p17 => ?_)
    have t18 := p17 0 2 (by decide)
    have f19 := (show 0 ≤ I16 0 0 ∧ I16 0 0 ≤ 2 from (hI16 0 0).1)
    have f20 := (show 0 ≤ I16 0 2 ∧ I16 0 2 ≤ 32 from (hI16 0 2).1)
    exact L17 I16 J hI16 FI16 FJ (by omega)
  refine gv_run 1 true hD (pc' := 1) (lv' := [(0, .inr (.inr (some 0))), (1, .inl a1)]) (st' := [.inl a1]) (h' := gr_h I J) (C := (True ∧ True)) rfl ⟨trivial, trivial⟩ ?_
  refine gv_if_lt (t := 12) hD rfl rfl ⟨by omega, by omega⟩ (fun c21 => ?_) (fun c21 => ?_)
  · refine gv_pick [0] rfl ?_
    exact L12 (by omega)
  · have f22 := (show 0 ≤ I 0 2 ∧ I 0 2 ≤ 32 from (hI 0 2).1)
    refine gv_run 3 true hD (pc' := 9) (lv' := [(0, .inr (.inr (some 0))), (1, .inl a1)]) (st' := [.inl (I 0 2), .inl a1]) (h' := gr_h I J) (C := (((True ∧ True) ∧ True) ∧ True)) rfl ⟨⟨⟨trivial, trivial⟩, trivial⟩, trivial⟩ ?_
    refine gv_icmp_lt (t := 17) hD rfl rfl ⟨⟨by omega, by omega⟩, ⟨by omega, by omega⟩⟩ (fun c23 => ?_) (fun c23 => ?_)
    · refine gv_pick [0] rfl ?_
      exact L17 I J hI FI FJ (by omega)
    · refine gv_pick [0] rfl ?_
      exact L12 (by omega)
set_option maxHeartbeats 4000000 in
set_option maxRecDepth 100000 in
theorem r_reads_t {ws0 : List Cond} {tb : String → gz_T} (hws : ∀ w ∈ gr_ws, w ∈ ws0) (htb : tb RX13 = gr_T) (ext : gz_Sh) (I : gr_I) (J : gr_J) (hI : gr_Inv I)    : ∃ r h', gz_Ev ws0 tb 1 (yX13_reads, cX13_reads, 2, none) [.inr (.inr (some 0))] (gr_sh ++ ext) (gr_h I J) r (gr_sh ++ ext) h' 0 0 ∧ (∃ (I' : gr_I) (J' : gr_J), h' = gr_h I' J' ∧ gr_Inv I' ∧ gr_fr [68, 69] [57] I I' ∧ gr_fj [68, 69] [57] J J' ∧ r = none ∧ (I' 0 69 = I 0 68) ∧ (I' 0 68 = 0) ∧ (I' 0 68 = 0)) := by
  have FI : gr_fr [68, 69] [57] I I := fun _ _ _ => rfl
  have FJ : gr_fj [68, 69] [57] J J := fun _ _ _ => rfl
  have hD : gv_D (gr_E ws0 tb 0 (yX13_reads, cX13_reads, 2, none) kX13_reads) := gq_ok oX13_reads
  refine gr_ev (d := 0) (l := kX13_reads) (Po := fun r h' => (∃ (I' : gr_I) (J' : gr_J), h' = gr_h I' J' ∧ gr_Inv I' ∧ gr_fr [68, 69] [57] I I' ∧ gr_fj [68, 69] [57] J J' ∧ r = none ∧ (I' 0 69 = I 0 68) ∧ (I' 0 68 = 0) ∧ (I' 0 68 = 0))) htb rfl (Nat.le_of_ble_eq_true rfl) ?_
  have f1 := (show 0 ≤ I 0 68 ∧ I 0 68 ≤ 1000 from (hI 0 68).1)
  have f2 := (show 0 ≤ I 0 69 ∧ I 0 69 ≤ 1000 from (hI 0 69).1)
  have L10 : ∀ (n : Nat) (I3 : gr_I) (J4 : gr_J) (v1_5 : Int), (1001 - v1_5).toNat < n → gr_Inv I3 → gr_fr [68, 69] [57] I I3 → gr_fj [68, 69] [57] J J4 → ((0 ≤ v1_5 ∧ v1_5 ≤ 1000) ∧ (I3 0 69 = I 0 68) ∧ (I3 0 68 = I 0 68)) → gv_X (gr_E ws0 tb 0 (yX13_reads, cX13_reads, 2, none) kX13_reads) (gv_Q cX13_reads none (gr_sh ++ ext) (fun r h' => (∃ (I' : gr_I) (J' : gr_J), h' = gr_h I' J' ∧ gr_Inv I' ∧ gr_fr [68, 69] [57] I I' ∧ gr_fj [68, 69] [57] J J' ∧ r = none ∧ (I' 0 69 = I 0 68) ∧ (I' 0 68 = 0) ∧ (I' 0 68 = 0)))) (10, [(0, .inr (.inr (some 0))), (1, .inl v1_5)], [], gr_sh ++ ext, gr_h I3 J4) := by
    intro n
    induction n with
    | zero => intro I3 J4 v1_5 hn; omega
    | succ n ih10 =>
      intro I3 J4 v1_5 hn hI3 FI3 FJ4 m_5
      obtain ⟨hv1_5, e0_5, e1_5⟩ := m_5
      have f6 := (show 0 ≤ I3 0 68 ∧ I3 0 68 ≤ 1000 from (hI3 0 68).1)
      have f7 := (show 0 ≤ I3 0 69 ∧ I3 0 69 ≤ 1000 from (hI3 0 69).1)
      have f8 := (show 0 ≤ I3 0 68 ∧ I3 0 68 ≤ 1000 from (hI3 0 68).1)
      refine gv_run 3 true hD (pc' := 15) (lv' := [(0, .inr (.inr (some 0))), (1, .inl v1_5)]) (st' := [.inl (I3 0 68), .inl v1_5]) (h' := gr_h I3 J4) (C := (((True ∧ True) ∧ True) ∧ True)) rfl ⟨⟨⟨trivial, trivial⟩, trivial⟩, trivial⟩ ?_
      refine gv_icmp_ge (t := 36) hD rfl rfl ⟨⟨by omega, by omega⟩, ⟨by omega, by omega⟩⟩ (fun c9 => ?_) (fun c9 => ?_)
      · refine gv_run 3 true hD (pc' := 41) (lv' := [(0, .inr (.inr (some 0))), (1, .inl v1_5)]) (st' := []) (h' := gz_up (gr_h I3 J4) 0 68 (.inl 0)) (C := (((True ∧ True) ∧ True) ∧ True)) rfl ⟨⟨⟨trivial, trivial⟩, trivial⟩, trivial⟩ ?_
        refine gr_st hI3 FI3 rfl rfl ⟨⟨by show 0 ≤ _; omega, by show _ ≤ 1000; omega⟩, trivial⟩ (fun I10 hI10 FI10 q11 p11 => ?_)
        have t12 := p11 0 69 (by decide)
        have f13 := (show 0 ≤ I10 0 68 ∧ I10 0 68 ≤ 1000 from (hI10 0 68).1)
        have f14 := (show 0 ≤ I10 0 69 ∧ I10 0 69 ≤ 1000 from (hI10 0 69).1)
        exact gv_vret hD rfl ⟨I10, J4, rfl, hI10, FI10, FJ4, ⟨rfl, by omega⟩⟩
      · have f15 := (show (-128) ≤ I3 56 (Int.toNat v1_5) ∧ I3 56 (Int.toNat v1_5) ≤ 127 from (hI3 56 (Int.toNat v1_5)).1)
        refine gv_run 7 true hD (pc' := 29) (lv' := [(0, .inr (.inr (some 0))), (1, .inl v1_5)]) (st' := [.inl (I3 56 (Int.toNat v1_5)), .inl v1_5, .inr (.inr (some 57))]) (h' := gr_h I3 J4) (C := (((((((True ∧ True) ∧ True) ∧ True) ∧ True) ∧ True) ∧ True) ∧ (0 ≤ v1_5 ∧ v1_5 < ((1000 : Nat) : Int)))) rfl ⟨⟨⟨⟨⟨⟨⟨trivial, trivial⟩, trivial⟩, trivial⟩, trivial⟩, trivial⟩, trivial⟩, ⟨by omega, by omega⟩⟩ ?_
        have f16 := gw_nar_byte (x := ((I3 56 (Int.toNat v1_5))))
        refine gv_run 1 true hD (pc' := 30) (lv' := [(0, .inr (.inr (some 0))), (1, .inl v1_5)]) (st' := []) (h' := gz_up (gr_h I3 J4) 57 (Int.toNat v1_5) (.inl (((vp_nar .byte (Int32.ofInt ((I3 56 (Int.toNat v1_5))))).toInt)))) (C := (True ∧ (0 ≤ v1_5 ∧ v1_5 < ((1000 : Nat) : Int)))) rfl ⟨trivial, ⟨by omega, by omega⟩⟩ ?_
        refine gr_st hI3 FI3 rfl rfl ⟨⟨by show (-128) ≤ _; omega, by show _ ≤ 127; omega⟩, trivial⟩ (fun I17 hI17 FI17 q18 p18 => ?_)
        have t19 := p18 0 68 (fun q => absurd q.1 (by decide))
        have t20 := p18 0 69 (fun q => absurd q.1 (by decide))
        have f21 := (show 0 ≤ I17 0 68 ∧ I17 0 68 ≤ 1000 from (hI17 0 68).1)
        have f22 := (show 0 ≤ I17 0 69 ∧ I17 0 69 ≤ 1000 from (hI17 0 69).1)
        refine gv_run 2 true hD (pc' := 10) (lv' := [(1, .inl (v1_5 + 1)), (0, .inr (.inr (some 0)))]) (st' := []) (h' := gr_h I17 J4) (C := ((True ∧ True) ∧ True)) rfl ⟨⟨trivial, trivial⟩, trivial⟩ ?_
        refine gv_pick [1, 0] rfl ?_
        exact ih10 I17 J4 (v1_5 + 1) (by omega) hI17 FI17 FJ4 (by omega)
  have f23 := (show 0 ≤ I 0 68 ∧ I 0 68 ≤ 1000 from (hI 0 68).1)
  refine gv_run 3 true hD (pc' := 5) (lv' := [(0, .inr (.inr (some 0)))]) (st' := [.inl (I 0 68), .inr (.inr (some 0))]) (h' := gr_h I J) (C := (((True ∧ True) ∧ True) ∧ True)) rfl ⟨⟨⟨trivial, trivial⟩, trivial⟩, trivial⟩ ?_
  refine gv_run 1 true hD (pc' := 8) (lv' := [(0, .inr (.inr (some 0)))]) (st' := []) (h' := gz_up (gr_h I J) 0 69 (.inl (I 0 68))) (C := (True ∧ True)) rfl ⟨trivial, trivial⟩ ?_
  refine gr_st hI FI rfl rfl ⟨⟨by show 0 ≤ _; omega, by show _ ≤ 1000; omega⟩, trivial⟩ (fun I24 hI24 FI24 q25 p25 => ?_)
  have t26 := p25 0 68 (by decide)
  have f27 := (show 0 ≤ I24 0 68 ∧ I24 0 68 ≤ 1000 from (hI24 0 68).1)
  have f28 := (show 0 ≤ I24 0 69 ∧ I24 0 69 ≤ 1000 from (hI24 0 69).1)
  refine gv_run 2 true hD (pc' := 10) (lv' := [(1, .inl 0), (0, .inr (.inr (some 0)))]) (st' := []) (h' := gr_h I24 J) (C := ((True ∧ True) ∧ True)) rfl ⟨⟨trivial, trivial⟩, trivial⟩ ?_
  refine gv_pick [1, 0] rfl ?_
  exact L10 _ I24 J 0 (Nat.lt_succ_self _) hI24 FI24 FJ (by omega)
set_option maxHeartbeats 4000000 in
set_option maxRecDepth 100000 in
theorem r_oneWord_t {ws0 : List Cond} {tb : String → gz_T} (hws : ∀ w ∈ gr_ws, w ∈ ws0) (htb : tb RX13 = gr_T) (ext : gz_Sh) (I : gr_I) (J : gr_J) (hI : gr_Inv I)    : ∃ r h', gz_Ev ws0 tb 2 (yX13_oneWord, cX13_oneWord, 2, (some .boolean)) [.inr (.inr (some 0))] (gr_sh ++ ext) (gr_h I J) r (gr_sh ++ ext) h' 0 0 ∧ (∃ (I' : gr_I) (J' : gr_J), h' = gr_h I' J' ∧ gr_Inv I' ∧ gr_fr [68, 69, 126] [57, 76] I I' ∧ gr_fj [68, 69, 126] [57, 76] J J' ∧ (∃ z : Int, r = some (.inl z) ∧ 0 ≤ z ∧ z ≤ 1 ∧ (I' 0 68 = 0))) := by
  have FI : gr_fr [68, 69, 126] [57, 76] I I := fun _ _ _ => rfl
  have FJ : gr_fj [68, 69, 126] [57, 76] J J := fun _ _ _ => rfl
  have hD : gv_D (gr_E ws0 tb 1 (yX13_oneWord, cX13_oneWord, 2, (some .boolean)) kX13_oneWord) := gq_ok oX13_oneWord
  refine gr_ev (d := 1) (l := kX13_oneWord) (Po := fun r h' => (∃ (I' : gr_I) (J' : gr_J), h' = gr_h I' J' ∧ gr_Inv I' ∧ gr_fr [68, 69, 126] [57, 76] I I' ∧ gr_fj [68, 69, 126] [57, 76] J J' ∧ (∃ z : Int, r = some (.inl z) ∧ 0 ≤ z ∧ z ≤ 1 ∧ (I' 0 68 = 0)))) htb rfl (Nat.le_of_ble_eq_true rfl) ?_
  have f1 := (show 0 ≤ I 0 69 ∧ I 0 69 ≤ 1000 from (hI 0 69).1)
  have f2 := (show 0 ≤ I 0 68 ∧ I 0 68 ≤ 1000 from (hI 0 68).1)
  have L26 : ∀ (I3 : gr_I) (J4 : gr_J) , gr_Inv I3 → gr_fr [68, 69, 126] [57, 76] I I3 → gr_fj [68, 69, 126] [57, 76] J J4 → ((I3 0 68 = 0)) → gv_X (gr_E ws0 tb 1 (yX13_oneWord, cX13_oneWord, 2, (some .boolean)) kX13_oneWord) (gv_Q cX13_oneWord (some .boolean) (gr_sh ++ ext) (fun r h' => (∃ (I' : gr_I) (J' : gr_J), h' = gr_h I' J' ∧ gr_Inv I' ∧ gr_fr [68, 69, 126] [57, 76] I I' ∧ gr_fj [68, 69, 126] [57, 76] J J' ∧ (∃ z : Int, r = some (.inl z) ∧ 0 ≤ z ∧ z ≤ 1 ∧ (I' 0 68 = 0))))) (26, [], [], gr_sh ++ ext, gr_h I3 J4) := by
    intro I3 J4 hI3 FI3 FJ4 m_5
    have e0_5 := m_5
    have f6 := (show 0 ≤ I3 0 69 ∧ I3 0 69 ≤ 1000 from (hI3 0 69).1)
    have f7 := (show 0 ≤ I3 0 68 ∧ I3 0 68 ≤ 1000 from (hI3 0 68).1)
    refine gv_run 1 true hD (pc' := 27) (lv' := []) (st' := [.inl 0]) (h' := gr_h I3 J4) (C := (True ∧ True)) rfl ⟨trivial, trivial⟩ ?_
    exact gv_zret hD rfl (by omega) ⟨I3, J4, rfl, hI3, FI3, FJ4, ⟨_, rfl, by omega⟩⟩
  have L30 : ∀ (n : Nat) (I8 : gr_I) (J9 : gr_J) (v1_10 : Int), (25 - v1_10).toNat < n → gr_Inv I8 → gr_fr [68, 69, 126] [57, 76] I I8 → gr_fj [68, 69, 126] [57, 76] J J9 → ((0 ≤ v1_10 ∧ v1_10 ≤ 24) ∧ (I8 0 69 ≤ 24) ∧ (I8 0 68 = 0)) → gv_X (gr_E ws0 tb 1 (yX13_oneWord, cX13_oneWord, 2, (some .boolean)) kX13_oneWord) (gv_Q cX13_oneWord (some .boolean) (gr_sh ++ ext) (fun r h' => (∃ (I' : gr_I) (J' : gr_J), h' = gr_h I' J' ∧ gr_Inv I' ∧ gr_fr [68, 69, 126] [57, 76] I I' ∧ gr_fj [68, 69, 126] [57, 76] J J' ∧ (∃ z : Int, r = some (.inl z) ∧ 0 ≤ z ∧ z ≤ 1 ∧ (I' 0 68 = 0))))) (30, [(0, .inr (.inr (some 0))), (1, .inl v1_10)], [], gr_sh ++ ext, gr_h I8 J9) := by
    intro n
    induction n with
    | zero => intro I8 J9 v1_10 hn; omega
    | succ n ih30 =>
      intro I8 J9 v1_10 hn hI8 FI8 FJ9 m_10
      obtain ⟨hv1_10, e0_10, e1_10⟩ := m_10
      have f11 := (show 0 ≤ I8 0 69 ∧ I8 0 69 ≤ 1000 from (hI8 0 69).1)
      have f12 := (show 0 ≤ I8 0 68 ∧ I8 0 68 ≤ 1000 from (hI8 0 68).1)
      have f13 := (show 0 ≤ I8 0 69 ∧ I8 0 69 ≤ 1000 from (hI8 0 69).1)
      refine gv_run 3 true hD (pc' := 35) (lv' := [(0, .inr (.inr (some 0))), (1, .inl v1_10)]) (st' := [.inl (I8 0 69), .inl v1_10]) (h' := gr_h I8 J9) (C := (((True ∧ True) ∧ True) ∧ True)) rfl ⟨⟨⟨trivial, trivial⟩, trivial⟩, trivial⟩ ?_
      refine gv_icmp_ge (t := 66) hD rfl rfl ⟨⟨by omega, by omega⟩, ⟨by omega, by omega⟩⟩ (fun c14 => ?_) (fun c14 => ?_)
      · have f15 := (show 0 ≤ I8 0 69 ∧ I8 0 69 ≤ 1000 from (hI8 0 69).1)
        refine gv_run 3 true hD (pc' := 71) (lv' := [(0, .inr (.inr (some 0))), (1, .inl v1_10)]) (st' := [.inl (I8 0 69), .inr (.inr (some 0))]) (h' := gr_h I8 J9) (C := (((True ∧ True) ∧ True) ∧ True)) rfl ⟨⟨⟨trivial, trivial⟩, trivial⟩, trivial⟩ ?_
        refine gv_run 1 true hD (pc' := 74) (lv' := [(0, .inr (.inr (some 0))), (1, .inl v1_10)]) (st' := []) (h' := gz_up (gr_h I8 J9) 0 126 (.inl (I8 0 69))) (C := (True ∧ True)) rfl ⟨trivial, trivial⟩ ?_
        refine gr_st hI8 FI8 rfl rfl ⟨⟨by show 0 ≤ _; omega, by show _ ≤ 24; omega⟩, trivial⟩ (fun I16 hI16 FI16 q17 p17 => ?_)
        have t18 := p17 0 69 (by decide)
        have t19 := p17 0 68 (by decide)
        have f20 := (show 0 ≤ I16 0 69 ∧ I16 0 69 ≤ 1000 from (hI16 0 69).1)
        have f21 := (show 0 ≤ I16 0 68 ∧ I16 0 68 ≤ 1000 from (hI16 0 68).1)
        refine gv_run 1 true hD (pc' := 75) (lv' := [(0, .inr (.inr (some 0))), (1, .inl v1_10)]) (st' := [.inl 1]) (h' := gr_h I16 J9) (C := (True ∧ True)) rfl ⟨trivial, trivial⟩ ?_
        exact gv_zret hD rfl (by omega) ⟨I16, J9, rfl, hI16, FI16, FJ9, ⟨_, rfl, by omega⟩⟩
      · refine gv_run 2 true hD (pc' := 40) (lv' := [(0, .inr (.inr (some 0))), (1, .inl v1_10)]) (st' := [.inl v1_10, .inr (.inr (some 0))]) (h' := gr_h I8 J9) (C := ((True ∧ True) ∧ True)) rfl ⟨⟨trivial, trivial⟩, trivial⟩ ?_
        obtain ⟨r22, h22, E22, P22⟩ := r_low (ws0 := ws0) (tb := tb) hws htb ext I8 J9 hI8 v1_10 ⟨by omega, by omega⟩ 
        obtain ⟨rfl, ⟨z22, rfl, q22⟩⟩ := P22
        refine gv_callV hD rfl (As := [.inl v1_10]) (st := []) rfl (by decide) rfl rfl (gr_lV hws rfl) (Nat.le_of_ble_eq_true rfl) (gz_Ev_mono (d := 1) (by decide) E22) ?_
        show gv_X _ _ (43, [(0, .inr (.inr (some 0))), (1, .inl v1_10)], [.inl z22], gr_sh ++ ext, gr_h I8 J9)
        refine gv_if_ne (t := 48) hD rfl rfl ⟨by omega, by omega⟩ (fun c23 => ?_) (fun c23 => ?_)
        · have f24 := (show (-128) ≤ I8 57 (Int.toNat v1_10) ∧ I8 57 (Int.toNat v1_10) ≤ 127 from (hI8 57 (Int.toNat v1_10)).1)
          refine gv_run 7 true hD (pc' := 59) (lv' := [(0, .inr (.inr (some 0))), (1, .inl v1_10)]) (st' := [.inl (I8 57 (Int.toNat v1_10)), .inl v1_10, .inr (.inr (some 76))]) (h' := gr_h I8 J9) (C := (((((((True ∧ True) ∧ True) ∧ True) ∧ True) ∧ True) ∧ True) ∧ (0 ≤ v1_10 ∧ v1_10 < ((1000 : Nat) : Int)))) rfl ⟨⟨⟨⟨⟨⟨⟨trivial, trivial⟩, trivial⟩, trivial⟩, trivial⟩, trivial⟩, trivial⟩, ⟨by omega, by omega⟩⟩ ?_
          have f25 := gw_nar_byte (x := ((I8 57 (Int.toNat v1_10))))
          refine gv_run 1 true hD (pc' := 60) (lv' := [(0, .inr (.inr (some 0))), (1, .inl v1_10)]) (st' := []) (h' := gz_up (gr_h I8 J9) 76 (Int.toNat v1_10) (.inl (((vp_nar .byte (Int32.ofInt ((I8 57 (Int.toNat v1_10))))).toInt)))) (C := (True ∧ (0 ≤ v1_10 ∧ v1_10 < ((64 : Nat) : Int)))) rfl ⟨trivial, ⟨by omega, by omega⟩⟩ ?_
          refine gr_st hI8 FI8 rfl rfl ⟨⟨by show (-128) ≤ _; omega, by show _ ≤ 127; omega⟩, trivial⟩ (fun I26 hI26 FI26 q27 p27 => ?_)
          have t28 := p27 0 69 (fun q => absurd q.1 (by decide))
          have t29 := p27 0 68 (fun q => absurd q.1 (by decide))
          have f30 := (show 0 ≤ I26 0 69 ∧ I26 0 69 ≤ 1000 from (hI26 0 69).1)
          have f31 := (show 0 ≤ I26 0 68 ∧ I26 0 68 ≤ 1000 from (hI26 0 68).1)
          refine gv_run 2 true hD (pc' := 30) (lv' := [(1, .inl (v1_10 + 1)), (0, .inr (.inr (some 0)))]) (st' := []) (h' := gr_h I26 J9) (C := ((True ∧ True) ∧ True)) rfl ⟨⟨trivial, trivial⟩, trivial⟩ ?_
          refine gv_pick [1, 0] rfl ?_
          exact ih30 I26 J9 (v1_10 + 1) (by omega) hI26 FI26 FJ9 (by omega)
        · refine gv_run 1 true hD (pc' := 47) (lv' := [(0, .inr (.inr (some 0))), (1, .inl v1_10)]) (st' := [.inl 0]) (h' := gr_h I8 J9) (C := (True ∧ True)) rfl ⟨trivial, trivial⟩ ?_
          exact gv_zret hD rfl (by omega) ⟨I8, J9, rfl, hI8, FI8, FJ9, ⟨_, rfl, by omega⟩⟩
  refine gv_run 1 true hD (pc' := 1) (lv' := [(0, .inr (.inr (some 0)))]) (st' := [.inr (.inr (some 0))]) (h' := gr_h I J) (C := (True ∧ True)) rfl ⟨trivial, trivial⟩ ?_
  obtain ⟨r32, h32, E32, P32⟩ := r_reads_t (ws0 := ws0) (tb := tb) hws htb ext I J hI   
  obtain ⟨I33, J34, rfl, hI33, g32, k32, ⟨rfl, q32⟩⟩ := P32
  have FI33 := gr_frt FI g32 rfl rfl
  have FJ34 := gr_fjt FJ k32 rfl rfl
  have f35 := (show 0 ≤ I33 0 69 ∧ I33 0 69 ≤ 1000 from (hI33 0 69).1)
  have f36 := (show 0 ≤ I33 0 68 ∧ I33 0 68 ≤ 1000 from (hI33 0 68).1)
  refine gv_callV hD rfl (As := []) (st := []) rfl (by decide) rfl rfl (gr_lV hws rfl) (Nat.le_of_ble_eq_true rfl) (gz_Ev_mono (d := 1) (by decide) E32) ?_
  show gv_X _ _ (4, [(0, .inr (.inr (some 0)))], [], gr_sh ++ ext, gr_h I33 J34)
  refine gv_run 3 true hD (pc' := 9) (lv' := [(0, .inr (.inr (some 0)))]) (st' := []) (h' := gz_up (gr_h I33 J34) 0 126 (.inl 0)) (C := (((True ∧ True) ∧ True) ∧ True)) rfl ⟨⟨⟨trivial, trivial⟩, trivial⟩, trivial⟩ ?_
  refine gr_st hI33 FI33 rfl rfl ⟨⟨by show 0 ≤ _; omega, by show _ ≤ 24; omega⟩, trivial⟩ (fun I37 hI37 FI37 q38 p38 => ?_)
  have t39 := p38 0 69 (by decide)
  have t40 := p38 0 68 (by decide)
  have f41 := (show 0 ≤ I37 0 69 ∧ I37 0 69 ≤ 1000 from (hI37 0 69).1)
  have f42 := (show 0 ≤ I37 0 68 ∧ I37 0 68 ≤ 1000 from (hI37 0 68).1)
  have f43 := (show 0 ≤ I37 0 69 ∧ I37 0 69 ≤ 1000 from (hI37 0 69).1)
  refine gv_run 3 true hD (pc' := 14) (lv' := [(0, .inr (.inr (some 0)))]) (st' := [.inl 1, .inl (I37 0 69)]) (h' := gr_h I37 J34) (C := (((True ∧ True) ∧ True) ∧ True)) rfl ⟨⟨⟨trivial, trivial⟩, trivial⟩, trivial⟩ ?_
  refine gv_icmp_lt (t := 26) hD rfl rfl ⟨⟨by omega, by omega⟩, ⟨by omega, by omega⟩⟩ (fun c44 => ?_) (fun c44 => ?_)
  · refine gv_pick [] rfl ?_
    exact L26 I37 J34 hI37 FI37 FJ34 (by omega)
  · have f45 := (show 0 ≤ I37 0 69 ∧ I37 0 69 ≤ 1000 from (hI37 0 69).1)
    refine gv_run 3 true hD (pc' := 23) (lv' := [(0, .inr (.inr (some 0)))]) (st' := [.inl 24, .inl (I37 0 69)]) (h' := gr_h I37 J34) (C := (((True ∧ True) ∧ True) ∧ True)) rfl ⟨⟨⟨trivial, trivial⟩, trivial⟩, trivial⟩ ?_
    refine gv_icmp_le (t := 28) hD rfl rfl ⟨⟨by omega, by omega⟩, ⟨by omega, by omega⟩⟩ (fun c46 => ?_) (fun c46 => ?_)
    · refine gv_run 2 true hD (pc' := 30) (lv' := [(1, .inl 0), (0, .inr (.inr (some 0)))]) (st' := []) (h' := gr_h I37 J34) (C := ((True ∧ True) ∧ True)) rfl ⟨⟨trivial, trivial⟩, trivial⟩ ?_
      refine gv_pick [1, 0] rfl ?_
      exact L30 _ I37 J34 0 (Nat.lt_succ_self _) hI37 FI37 FJ34 (by omega)
    · refine gv_pick [] rfl ?_
      exact L26 I37 J34 hI37 FI37 FJ34 (by omega)
set_option maxHeartbeats 4000000 in
set_option maxRecDepth 100000 in
theorem r_sentence_t {ws0 : List Cond} {tb : String → gz_T} (hws : ∀ w ∈ gr_ws, w ∈ ws0) (htb : tb RX13 = gr_T) (ext : gz_Sh) (I : gr_I) (J : gr_J) (hI : gr_Inv I)    : ∃ r h', gz_Ev ws0 tb 2 (yX13_sentence, cX13_sentence, 3, (some .boolean)) [.inr (.inr (some 0))] (gr_sh ++ ext) (gr_h I J) r (gr_sh ++ ext) h' 0 0 ∧ (∃ (I' : gr_I) (J' : gr_J), h' = gr_h I' J' ∧ gr_Inv I' ∧ gr_fr [68, 69, 143] [57, 83, 85] I I' ∧ gr_fj [68, 69, 143] [57, 83, 85] J J' ∧ (∃ z : Int, r = some (.inl z) ∧ 0 ≤ z ∧ z ≤ 1 ∧ (I' 0 68 = 0))) := by
  have FI : gr_fr [68, 69, 143] [57, 83, 85] I I := fun _ _ _ => rfl
  have FJ : gr_fj [68, 69, 143] [57, 83, 85] J J := fun _ _ _ => rfl
  have hD : gv_D (gr_E ws0 tb 1 (yX13_sentence, cX13_sentence, 3, (some .boolean)) kX13_sentence) := gq_ok oX13_sentence
  refine gr_ev (d := 1) (l := kX13_sentence) (Po := fun r h' => (∃ (I' : gr_I) (J' : gr_J), h' = gr_h I' J' ∧ gr_Inv I' ∧ gr_fr [68, 69, 143] [57, 83, 85] I I' ∧ gr_fj [68, 69, 143] [57, 83, 85] J J' ∧ (∃ z : Int, r = some (.inl z) ∧ 0 ≤ z ∧ z ≤ 1 ∧ (I' 0 68 = 0)))) htb rfl (Nat.le_of_ble_eq_true rfl) ?_
  have f1 := (show 0 ≤ I 0 143 ∧ I 0 143 ≤ 24 from (hI 0 143).1)
  have f2 := (show 0 ≤ I 0 69 ∧ I 0 69 ≤ 1000 from (hI 0 69).1)
  have f3 := (show 0 ≤ I 0 68 ∧ I 0 68 ≤ 1000 from (hI 0 68).1)
  have L11 : ∀ (n : Nat) (I4 : gr_I) (J5 : gr_J) (v1_6 : Int), (1001 - v1_6).toNat < n → gr_Inv I4 → gr_fr [68, 69, 143] [57, 83, 85] I I4 → gr_fj [68, 69, 143] [57, 83, 85] J J5 → ((0 ≤ v1_6 ∧ v1_6 ≤ 1000) ∧ (I4 0 68 = 0)) → gv_X (gr_E ws0 tb 1 (yX13_sentence, cX13_sentence, 3, (some .boolean)) kX13_sentence) (gv_Q cX13_sentence (some .boolean) (gr_sh ++ ext) (fun r h' => (∃ (I' : gr_I) (J' : gr_J), h' = gr_h I' J' ∧ gr_Inv I' ∧ gr_fr [68, 69, 143] [57, 83, 85] I I' ∧ gr_fj [68, 69, 143] [57, 83, 85] J J' ∧ (∃ z : Int, r = some (.inl z) ∧ 0 ≤ z ∧ z ≤ 1 ∧ (I' 0 68 = 0))))) (11, [(0, .inr (.inr (some 0))), (1, .inl v1_6)], [], gr_sh ++ ext, gr_h I4 J5) := by
    intro n
    induction n with
    | zero => intro I4 J5 v1_6 hn; omega
    | succ n ih11 =>
      intro I4 J5 v1_6 hn hI4 FI4 FJ5 m_6
      obtain ⟨hv1_6, e0_6⟩ := m_6
      have f7 := (show 0 ≤ I4 0 143 ∧ I4 0 143 ≤ 24 from (hI4 0 143).1)
      have f8 := (show 0 ≤ I4 0 69 ∧ I4 0 69 ≤ 1000 from (hI4 0 69).1)
      have f9 := (show 0 ≤ I4 0 68 ∧ I4 0 68 ≤ 1000 from (hI4 0 68).1)
      have L36 : ((0 ≤ v1_6 ∧ v1_6 ≤ 1000) ∧ (v1_6 ≤ v1_6) ∧ (I4 0 68 = 0)) → gv_X (gr_E ws0 tb 1 (yX13_sentence, cX13_sentence, 3, (some .boolean)) kX13_sentence) (gv_Q cX13_sentence (some .boolean) (gr_sh ++ ext) (fun r h' => (∃ (I' : gr_I) (J' : gr_J), h' = gr_h I' J' ∧ gr_Inv I' ∧ gr_fr [68, 69, 143] [57, 83, 85] I I' ∧ gr_fj [68, 69, 143] [57, 83, 85] J J' ∧ (∃ z : Int, r = some (.inl z) ∧ 0 ≤ z ∧ z ≤ 1 ∧ (I' 0 68 = 0))))) (36, [(0, .inr (.inr (some 0))), (1, .inl v1_6)], [], gr_sh ++ ext, gr_h I4 J5) := by
        intro m_10
        obtain ⟨hv1_6_10, e0_10, e1_10⟩ := m_10
        have f11 := (show 0 ≤ I4 0 143 ∧ I4 0 143 ≤ 24 from (hI4 0 143).1)
        have f12 := (show 0 ≤ I4 0 69 ∧ I4 0 69 ≤ 1000 from (hI4 0 69).1)
        have f13 := (show 0 ≤ I4 0 68 ∧ I4 0 68 ≤ 1000 from (hI4 0 68).1)
        have L56 : ∀ (s0_14 : Int), ((0 ≤ s0_14 ∧ s0_14 ≤ 1) ∧ (I4 0 68 = 0)) → gv_X (gr_E ws0 tb 1 (yX13_sentence, cX13_sentence, 3, (some .boolean)) kX13_sentence) (gv_Q cX13_sentence (some .boolean) (gr_sh ++ ext) (fun r h' => (∃ (I' : gr_I) (J' : gr_J), h' = gr_h I' J' ∧ gr_Inv I' ∧ gr_fr [68, 69, 143] [57, 83, 85] I I' ∧ gr_fj [68, 69, 143] [57, 83, 85] J J' ∧ (∃ z : Int, r = some (.inl z) ∧ 0 ≤ z ∧ z ≤ 1 ∧ (I' 0 68 = 0))))) (56, [], [.inl s0_14], gr_sh ++ ext, gr_h I4 J5) := by
          intro s0_14 m_14
          obtain ⟨hs0_14, e0_14⟩ := m_14
          have f15 := (show 0 ≤ I4 0 143 ∧ I4 0 143 ≤ 24 from (hI4 0 143).1)
          have f16 := (show 0 ≤ I4 0 69 ∧ I4 0 69 ≤ 1000 from (hI4 0 69).1)
          have f17 := (show 0 ≤ I4 0 68 ∧ I4 0 68 ≤ 1000 from (hI4 0 68).1)
          exact gv_zret hD rfl (by omega) ⟨I4, J5, rfl, hI4, FI4, FJ5, ⟨_, rfl, by omega⟩⟩
        have L70 : ∀ (n : Nat) (I18 : gr_I) (J19 : gr_J) (v1_20 : Int) (v2_20 : Int), (1001 - v1_20).toNat < n → gr_Inv I18 → gr_fr [68, 69, 143] [57, 83, 85] I I18 → gr_fj [68, 69, 143] [57, 83, 85] J J19 → ((0 ≤ v1_20 ∧ v1_20 ≤ 1000) ∧ (0 ≤ v2_20 ∧ v2_20 ≤ 24) ∧ (I18 0 143 ≤ 23) ∧ (v1_6 + v2_20 ≤ v1_20) ∧ (I18 0 68 = 0)) → gv_X (gr_E ws0 tb 1 (yX13_sentence, cX13_sentence, 3, (some .boolean)) kX13_sentence) (gv_Q cX13_sentence (some .boolean) (gr_sh ++ ext) (fun r h' => (∃ (I' : gr_I) (J' : gr_J), h' = gr_h I' J' ∧ gr_Inv I' ∧ gr_fr [68, 69, 143] [57, 83, 85] I I' ∧ gr_fj [68, 69, 143] [57, 83, 85] J J' ∧ (∃ z : Int, r = some (.inl z) ∧ 0 ≤ z ∧ z ≤ 1 ∧ (I' 0 68 = 0))))) (70, [(0, .inr (.inr (some 0))), (1, .inl v1_20), (2, .inl v2_20)], [], gr_sh ++ ext, gr_h I18 J19) := by
          intro n
          induction n with
          | zero => intro I18 J19 v1_20 v2_20 hn; omega
          | succ n ih70 =>
            intro I18 J19 v1_20 v2_20 hn hI18 FI18 FJ19 m_20
            clear hv1_6_10 e0_10 e1_10 f11 f12 f13 hv1_6 e0_6 f7 f8 f9
            obtain ⟨hv1_20, hv2_20, e0_20, e1_20, e2_20⟩ := m_20
            have f21 := (show 0 ≤ I18 0 143 ∧ I18 0 143 ≤ 24 from (hI18 0 143).1)
            have f22 := (show 0 ≤ I18 0 69 ∧ I18 0 69 ≤ 1000 from (hI18 0 69).1)
            have f23 := (show 0 ≤ I18 0 68 ∧ I18 0 68 ≤ 1000 from (hI18 0 68).1)
            have L138 : ((I18 0 68 = 0)) → gv_X (gr_E ws0 tb 1 (yX13_sentence, cX13_sentence, 3, (some .boolean)) kX13_sentence) (gv_Q cX13_sentence (some .boolean) (gr_sh ++ ext) (fun r h' => (∃ (I' : gr_I) (J' : gr_J), h' = gr_h I' J' ∧ gr_Inv I' ∧ gr_fr [68, 69, 143] [57, 83, 85] I I' ∧ gr_fj [68, 69, 143] [57, 83, 85] J J' ∧ (∃ z : Int, r = some (.inl z) ∧ 0 ≤ z ∧ z ≤ 1 ∧ (I' 0 68 = 0))))) (138, [], [], gr_sh ++ ext, gr_h I18 J19) := by
              intro m_24
              have e0_24 := m_24
              have f25 := (show 0 ≤ I18 0 143 ∧ I18 0 143 ≤ 24 from (hI18 0 143).1)
              have f26 := (show 0 ≤ I18 0 69 ∧ I18 0 69 ≤ 1000 from (hI18 0 69).1)
              have f27 := (show 0 ≤ I18 0 68 ∧ I18 0 68 ≤ 1000 from (hI18 0 68).1)
              refine gv_run 1 true hD (pc' := 139) (lv' := []) (st' := [.inl 0]) (h' := gr_h I18 J19) (C := (True ∧ True)) rfl ⟨trivial, trivial⟩ ?_
              exact gv_zret hD rfl (by omega) ⟨I18, J19, rfl, hI18, FI18, FJ19, ⟨_, rfl, by omega⟩⟩
            have L140 : ((0 ≤ v1_20 ∧ v1_20 ≤ 1000) ∧ (1 ≤ v2_20 ∧ v2_20 ≤ 24) ∧ (I18 0 143 ≤ 23) ∧ (v1_6 + v2_20 ≤ v1_20) ∧ (I18 0 68 = 0)) → gv_X (gr_E ws0 tb 1 (yX13_sentence, cX13_sentence, 3, (some .boolean)) kX13_sentence) (gv_Q cX13_sentence (some .boolean) (gr_sh ++ ext) (fun r h' => (∃ (I' : gr_I) (J' : gr_J), h' = gr_h I' J' ∧ gr_Inv I' ∧ gr_fr [68, 69, 143] [57, 83, 85] I I' ∧ gr_fj [68, 69, 143] [57, 83, 85] J J' ∧ (∃ z : Int, r = some (.inl z) ∧ 0 ≤ z ∧ z ≤ 1 ∧ (I' 0 68 = 0))))) (140, [(0, .inr (.inr (some 0))), (1, .inl v1_20), (2, .inl v2_20)], [], gr_sh ++ ext, gr_h I18 J19) := by
              intro m_28
              obtain ⟨hv1_20_28, hv2_20_28, e0_28, e1_28, e2_28⟩ := m_28
              have f29 := (show 0 ≤ I18 0 143 ∧ I18 0 143 ≤ 24 from (hI18 0 143).1)
              have f30 := (show 0 ≤ I18 0 69 ∧ I18 0 69 ≤ 1000 from (hI18 0 69).1)
              have f31 := (show 0 ≤ I18 0 68 ∧ I18 0 68 ≤ 1000 from (hI18 0 68).1)
              have f32 := (show 0 ≤ I18 0 143 ∧ I18 0 143 ≤ 24 from (hI18 0 143).1)
              refine gv_run 7 true hD (pc' := 151) (lv' := [(0, .inr (.inr (some 0))), (1, .inl v1_20), (2, .inl v2_20)]) (st' := [.inl 1, .inl (I18 0 143), .inr (.inr (some 0)), .inl (I18 0 143), .inr (.inr (some 85))]) (h' := gr_h I18 J19) (C := (((((((True ∧ True) ∧ True) ∧ True) ∧ True) ∧ True) ∧ True) ∧ True)) rfl ⟨⟨⟨⟨⟨⟨⟨trivial, trivial⟩, trivial⟩, trivial⟩, trivial⟩, trivial⟩, trivial⟩, trivial⟩ ?_
              refine gv_run 2 true hD (pc' := 155) (lv' := [(0, .inr (.inr (some 0))), (1, .inl v1_20), (2, .inl v2_20)]) (st' := [.inl (I18 0 143), .inr (.inr (some 85))]) (h' := gz_up (gr_h I18 J19) 0 143 (.inl (((I18 0 143) + 1)))) (C := ((True ∧ True) ∧ True)) rfl ⟨⟨trivial, trivial⟩, trivial⟩ ?_
              refine gr_st hI18 FI18 rfl rfl ⟨⟨by show 0 ≤ _; omega, by show _ ≤ 24; omega⟩, trivial⟩ (fun I33 hI33 FI33 q34 p34 => ?_)
              have t35 := p34 0 69 (by decide)
              have t36 := p34 0 68 (by decide)
              have f37 := (show 0 ≤ I33 0 143 ∧ I33 0 143 ≤ 24 from (hI33 0 143).1)
              have f38 := (show 0 ≤ I33 0 69 ∧ I33 0 69 ≤ 1000 from (hI33 0 69).1)
              have f39 := (show 0 ≤ I33 0 68 ∧ I33 0 68 ≤ 1000 from (hI33 0 68).1)
              refine gv_run 2 true hD (pc' := 157) (lv' := [(0, .inr (.inr (some 0))), (1, .inl v1_20), (2, .inl v2_20)]) (st' := []) (h' := gz_up (gr_h I33 J19) 85 (Int.toNat ((I18 0 143))) (.inl v2_20)) (C := ((True ∧ True) ∧ (0 ≤ (I18 0 143) ∧ (I18 0 143) < ((24 : Nat) : Int)))) rfl ⟨⟨trivial, trivial⟩, ⟨by omega, by omega⟩⟩ ?_
              refine gr_st hI33 FI33 rfl rfl ⟨⟨by show 0 ≤ _; omega, by show _ ≤ 24; omega⟩, trivial⟩ (fun I40 hI40 FI40 q41 p41 => ?_)
              have t42 := p41 0 143 (fun q => absurd q.1 (by decide))
              have t43 := p41 0 69 (fun q => absurd q.1 (by decide))
              have t44 := p41 0 68 (fun q => absurd q.1 (by decide))
              have f45 := (show 0 ≤ I40 0 143 ∧ I40 0 143 ≤ 24 from (hI40 0 143).1)
              have f46 := (show 0 ≤ I40 0 69 ∧ I40 0 69 ≤ 1000 from (hI40 0 69).1)
              have f47 := (show 0 ≤ I40 0 68 ∧ I40 0 68 ≤ 1000 from (hI40 0 68).1)
              refine gv_run 1 true hD (pc' := 11) (lv' := [(0, .inr (.inr (some 0))), (1, .inl v1_20), (2, .inl v2_20)]) (st' := []) (h' := gr_h I40 J19) (C := (True ∧ True)) rfl ⟨trivial, trivial⟩ ?_
              refine gv_pick [0, 1] rfl ?_
              exact ih11 I40 J19 v1_20 (by omega) hI40 FI40 FJ19 (by omega)
            refine gv_run 2 true hD (pc' := 72) (lv' := [(0, .inr (.inr (some 0))), (1, .inl v1_20), (2, .inl v2_20)]) (st' := [.inl v1_20, .inr (.inr (some 0))]) (h' := gr_h I18 J19) (C := ((True ∧ True) ∧ True)) rfl ⟨⟨trivial, trivial⟩, trivial⟩ ?_
            obtain ⟨r48, h48, E48, P48⟩ := r_low (ws0 := ws0) (tb := tb) hws htb ext I18 J19 hI18 v1_20 ⟨by omega, by omega⟩ 
            obtain ⟨rfl, ⟨z48, rfl, q48⟩⟩ := P48
            refine gv_callV hD rfl (As := [.inl v1_20]) (st := []) rfl (by decide) rfl rfl (gr_lV hws rfl) (Nat.le_of_ble_eq_true rfl) (gz_Ev_mono (d := 1) (by decide) E48) ?_
            show gv_X _ _ (75, [(0, .inr (.inr (some 0))), (1, .inl v1_20), (2, .inl v2_20)], [.inl z48], gr_sh ++ ext, gr_h I18 J19)
            refine gv_if_eq (t := 115) hD rfl rfl ⟨by omega, by omega⟩ (fun c49 => ?_) (fun c49 => ?_)
            · refine gv_run 1 true hD (pc' := 116) (lv' := [(0, .inr (.inr (some 0))), (1, .inl v1_20), (2, .inl v2_20)]) (st' := [.inl v2_20]) (h' := gr_h I18 J19) (C := (True ∧ True)) rfl ⟨trivial, trivial⟩ ?_
              refine gv_if_eq (t := 138) hD rfl rfl ⟨by omega, by omega⟩ (fun c50 => ?_) (fun c50 => ?_)
              · refine gv_pick [] rfl ?_
                exact L138 (by omega)
              · have f51 := (show 0 ≤ I18 0 69 ∧ I18 0 69 ≤ 1000 from (hI18 0 69).1)
                refine gv_run 3 true hD (pc' := 124) (lv' := [(0, .inr (.inr (some 0))), (1, .inl v1_20), (2, .inl v2_20)]) (st' := [.inl (I18 0 69), .inl v1_20]) (h' := gr_h I18 J19) (C := (((True ∧ True) ∧ True) ∧ True)) rfl ⟨⟨⟨trivial, trivial⟩, trivial⟩, trivial⟩ ?_
                refine gv_icmp_ge (t := 140) hD rfl rfl ⟨⟨by omega, by omega⟩, ⟨by omega, by omega⟩⟩ (fun c52 => ?_) (fun c52 => ?_)
                · exact L140 (by omega)
                · have f53 := (show (-128) ≤ I18 57 (Int.toNat v1_20) ∧ I18 57 (Int.toNat v1_20) ≤ 127 from (hI18 57 (Int.toNat v1_20)).1)
                  refine gv_run 4 true hD (pc' := 133) (lv' := [(0, .inr (.inr (some 0))), (1, .inl v1_20), (2, .inl v2_20)]) (st' := [.inl (I18 57 (Int.toNat v1_20))]) (h' := gr_h I18 J19) (C := ((((True ∧ True) ∧ True) ∧ True) ∧ (0 ≤ v1_20 ∧ v1_20 < ((1000 : Nat) : Int)))) rfl ⟨⟨⟨⟨trivial, trivial⟩, trivial⟩, trivial⟩, ⟨by omega, by omega⟩⟩ ?_
                  refine gv_run 1 true hD (pc' := 135) (lv' := [(0, .inr (.inr (some 0))), (1, .inl v1_20), (2, .inl v2_20)]) (st' := [.inl 32, .inl (I18 57 (Int.toNat v1_20))]) (h' := gr_h I18 J19) (C := (True ∧ True)) rfl ⟨trivial, trivial⟩ ?_
                  refine gv_icmp_eq (t := 140) hD rfl rfl ⟨⟨by omega, by omega⟩, ⟨by omega, by omega⟩⟩ (fun c54 => ?_) (fun c54 => ?_)
                  · exact L140 (by omega)
                  · refine gv_pick [] rfl ?_
                    exact L138 (by omega)
            · refine gv_run 2 true hD (pc' := 81) (lv' := [(0, .inr (.inr (some 0))), (1, .inl v1_20), (2, .inl v2_20)]) (st' := [.inl 24, .inl v2_20]) (h' := gr_h I18 J19) (C := ((True ∧ True) ∧ True)) rfl ⟨⟨trivial, trivial⟩, trivial⟩ ?_
              refine gv_icmp_ne (t := 86) hD rfl rfl ⟨⟨by omega, by omega⟩, ⟨by omega, by omega⟩⟩ (fun c55 => ?_) (fun c55 => ?_)
              · have f56 := (show 0 ≤ I18 0 143 ∧ I18 0 143 ≤ 24 from (hI18 0 143).1)
                refine gv_run 7 true hD (pc' := 98) (lv' := [(0, .inr (.inr (some 0))), (1, .inl v1_20), (2, .inl v2_20)]) (st' := [.inl v2_20, .inl (24 * (I18 0 143)), .inr (.inr (some 83))]) (h' := gr_h I18 J19) (C := (((((((True ∧ True) ∧ True) ∧ True) ∧ True) ∧ True) ∧ True) ∧ True)) rfl ⟨⟨⟨⟨⟨⟨⟨trivial, trivial⟩, trivial⟩, trivial⟩, trivial⟩, trivial⟩, trivial⟩, trivial⟩ ?_
                have f57 := (show (-128) ≤ I18 57 (Int.toNat v1_20) ∧ I18 57 (Int.toNat v1_20) ≤ 127 from (hI18 57 (Int.toNat v1_20)).1)
                refine gv_run 7 true hD (pc' := 111) (lv' := [(1, .inl (v1_20 + 1)), (2, .inl (v2_20 + 1)), (0, .inr (.inr (some 0)))]) (st' := [.inl (I18 57 (Int.toNat v1_20)), .inl ((24 * (I18 0 143)) + v2_20), .inr (.inr (some 83))]) (h' := gr_h I18 J19) (C := (((((((True ∧ True) ∧ True) ∧ True) ∧ True) ∧ True) ∧ True) ∧ (0 ≤ v1_20 ∧ v1_20 < ((1000 : Nat) : Int)))) rfl ⟨⟨⟨⟨⟨⟨⟨trivial, trivial⟩, trivial⟩, trivial⟩, trivial⟩, trivial⟩, trivial⟩, ⟨by omega, by omega⟩⟩ ?_
                have f58 := gw_nar_byte (x := ((I18 57 (Int.toNat v1_20))))
                refine gv_run 1 true hD (pc' := 112) (lv' := [(1, .inl (v1_20 + 1)), (2, .inl (v2_20 + 1)), (0, .inr (.inr (some 0)))]) (st' := []) (h' := gz_up (gr_h I18 J19) 83 (Int.toNat (((24 * (I18 0 143)) + v2_20))) (.inl (((vp_nar .byte (Int32.ofInt ((I18 57 (Int.toNat v1_20))))).toInt)))) (C := (True ∧ (0 ≤ (((24 * (I18 0 143)) + v2_20)) ∧ (((24 * (I18 0 143)) + v2_20)) < ((576 : Nat) : Int)))) rfl ⟨trivial, ⟨by omega, by omega⟩⟩ ?_
                refine gr_st hI18 FI18 rfl rfl ⟨⟨by show (-128) ≤ _; omega, by show _ ≤ 127; omega⟩, trivial⟩ (fun I59 hI59 FI59 q60 p60 => ?_)
                have t61 := p60 0 143 (fun q => absurd q.1 (by decide))
                have t62 := p60 0 69 (fun q => absurd q.1 (by decide))
                have t63 := p60 0 68 (fun q => absurd q.1 (by decide))
                have f64 := (show 0 ≤ I59 0 143 ∧ I59 0 143 ≤ 24 from (hI59 0 143).1)
                have f65 := (show 0 ≤ I59 0 69 ∧ I59 0 69 ≤ 1000 from (hI59 0 69).1)
                have f66 := (show 0 ≤ I59 0 68 ∧ I59 0 68 ≤ 1000 from (hI59 0 68).1)
                refine gv_run 1 true hD (pc' := 70) (lv' := [(1, .inl (v1_20 + 1)), (2, .inl (v2_20 + 1)), (0, .inr (.inr (some 0)))]) (st' := []) (h' := gr_h I59 J19) (C := (True ∧ True)) rfl ⟨trivial, trivial⟩ ?_
                refine gv_pick [2, 0, 1] rfl ?_
                exact ih70 I59 J19 (v1_20 + 1) (v2_20 + 1) (by omega) hI59 FI59 FJ19 (by omega)
              · refine gv_run 1 true hD (pc' := 85) (lv' := [(0, .inr (.inr (some 0))), (1, .inl v1_20), (2, .inl v2_20)]) (st' := [.inl 0]) (h' := gr_h I18 J19) (C := (True ∧ True)) rfl ⟨trivial, trivial⟩ ?_
                exact gv_zret hD rfl (by omega) ⟨I18, J19, rfl, hI18, FI18, FJ19, ⟨_, rfl, by omega⟩⟩
        have f67 := (show 0 ≤ I4 0 69 ∧ I4 0 69 ≤ 1000 from (hI4 0 69).1)
        refine gv_run 3 true hD (pc' := 41) (lv' := [(0, .inr (.inr (some 0))), (1, .inl v1_6)]) (st' := [.inl (I4 0 69), .inl v1_6]) (h' := gr_h I4 J5) (C := (((True ∧ True) ∧ True) ∧ True)) rfl ⟨⟨⟨trivial, trivial⟩, trivial⟩, trivial⟩ ?_
        refine gv_icmp_ne (t := 57) hD rfl rfl ⟨⟨by omega, by omega⟩, ⟨by omega, by omega⟩⟩ (fun c68 => ?_) (fun c68 => ?_)
        · have f69 := (show 0 ≤ I4 0 143 ∧ I4 0 143 ≤ 24 from (hI4 0 143).1)
          refine gv_run 3 true hD (pc' := 63) (lv' := [(0, .inr (.inr (some 0))), (1, .inl v1_6)]) (st' := [.inl 24, .inl (I4 0 143)]) (h' := gr_h I4 J5) (C := (((True ∧ True) ∧ True) ∧ True)) rfl ⟨⟨⟨trivial, trivial⟩, trivial⟩, trivial⟩ ?_
          refine gv_icmp_ne (t := 68) hD rfl rfl ⟨⟨by omega, by omega⟩, ⟨by omega, by omega⟩⟩ (fun c70 => ?_) (fun c70 => ?_)
          · refine gv_run 2 true hD (pc' := 70) (lv' := [(2, .inl 0), (0, .inr (.inr (some 0))), (1, .inl v1_6)]) (st' := []) (h' := gr_h I4 J5) (C := ((True ∧ True) ∧ True)) rfl ⟨⟨trivial, trivial⟩, trivial⟩ ?_
            refine gv_pick [1, 2, 0] rfl ?_
            exact L70 _ I4 J5 v1_6 0 (Nat.lt_succ_self _) hI4 FI4 FJ5 (by omega)
          · refine gv_run 1 true hD (pc' := 67) (lv' := [(0, .inr (.inr (some 0))), (1, .inl v1_6)]) (st' := [.inl 0]) (h' := gr_h I4 J5) (C := (True ∧ True)) rfl ⟨trivial, trivial⟩ ?_
            exact gv_zret hD rfl (by omega) ⟨I4, J5, rfl, hI4, FI4, FJ5, ⟨_, rfl, by omega⟩⟩
        · have f71 := (show 0 ≤ I4 0 143 ∧ I4 0 143 ≤ 24 from (hI4 0 143).1)
          refine gv_run 2 true hD (pc' := 48) (lv' := [(0, .inr (.inr (some 0))), (1, .inl v1_6)]) (st' := [.inl (I4 0 143)]) (h' := gr_h I4 J5) (C := ((True ∧ True) ∧ True)) rfl ⟨⟨trivial, trivial⟩, trivial⟩ ?_
          refine gv_if_le (t := 55) hD rfl rfl ⟨by omega, by omega⟩ (fun c72 => ?_) (fun c72 => ?_)
          · refine gv_run 1 true hD (pc' := 56) (lv' := [(0, .inr (.inr (some 0))), (1, .inl v1_6)]) (st' := [.inl 0]) (h' := gr_h I4 J5) (C := (True ∧ True)) rfl ⟨trivial, trivial⟩ ?_
            refine gv_pick [] rfl ?_
            exact L56 0 (by omega)
          · refine gv_run 2 true hD (pc' := 56) (lv' := [(0, .inr (.inr (some 0))), (1, .inl v1_6)]) (st' := [.inl 1]) (h' := gr_h I4 J5) (C := ((True ∧ True) ∧ True)) rfl ⟨⟨trivial, trivial⟩, trivial⟩ ?_
            refine gv_pick [] rfl ?_
            exact L56 1 (by omega)
      have f73 := (show 0 ≤ I4 0 69 ∧ I4 0 69 ≤ 1000 from (hI4 0 69).1)
      refine gv_run 3 true hD (pc' := 16) (lv' := [(0, .inr (.inr (some 0))), (1, .inl v1_6)]) (st' := [.inl (I4 0 69), .inl v1_6]) (h' := gr_h I4 J5) (C := (((True ∧ True) ∧ True) ∧ True)) rfl ⟨⟨⟨trivial, trivial⟩, trivial⟩, trivial⟩ ?_
      refine gv_icmp_ge (t := 36) hD rfl rfl ⟨⟨by omega, by omega⟩, ⟨by omega, by omega⟩⟩ (fun c74 => ?_) (fun c74 => ?_)
      · exact L36 (by omega)
      · have f75 := (show (-128) ≤ I4 57 (Int.toNat v1_6) ∧ I4 57 (Int.toNat v1_6) ≤ 127 from (hI4 57 (Int.toNat v1_6)).1)
        refine gv_run 4 true hD (pc' := 25) (lv' := [(0, .inr (.inr (some 0))), (1, .inl v1_6)]) (st' := [.inl (I4 57 (Int.toNat v1_6))]) (h' := gr_h I4 J5) (C := ((((True ∧ True) ∧ True) ∧ True) ∧ (0 ≤ v1_6 ∧ v1_6 < ((1000 : Nat) : Int)))) rfl ⟨⟨⟨⟨trivial, trivial⟩, trivial⟩, trivial⟩, ⟨by omega, by omega⟩⟩ ?_
        refine gv_run 1 true hD (pc' := 27) (lv' := [(0, .inr (.inr (some 0))), (1, .inl v1_6)]) (st' := [.inl 32, .inl (I4 57 (Int.toNat v1_6))]) (h' := gr_h I4 J5) (C := (True ∧ True)) rfl ⟨trivial, trivial⟩ ?_
        refine gv_icmp_ne (t := 36) hD rfl rfl ⟨⟨by omega, by omega⟩, ⟨by omega, by omega⟩⟩ (fun c76 => ?_) (fun c76 => ?_)
        · exact L36 (by omega)
        · refine gv_run 2 true hD (pc' := 11) (lv' := [(1, .inl (v1_6 + 1)), (0, .inr (.inr (some 0)))]) (st' := []) (h' := gr_h I4 J5) (C := ((True ∧ True) ∧ True)) rfl ⟨⟨trivial, trivial⟩, trivial⟩ ?_
          refine gv_pick [1, 0] rfl ?_
          exact ih11 I4 J5 (v1_6 + 1) (by omega) hI4 FI4 FJ5 (by omega)
  refine gv_run 1 true hD (pc' := 1) (lv' := [(0, .inr (.inr (some 0)))]) (st' := [.inr (.inr (some 0))]) (h' := gr_h I J) (C := (True ∧ True)) rfl ⟨trivial, trivial⟩ ?_
  obtain ⟨r77, h77, E77, P77⟩ := r_reads_t (ws0 := ws0) (tb := tb) hws htb ext I J hI   
  obtain ⟨I78, J79, rfl, hI78, g77, k77, ⟨rfl, q77⟩⟩ := P77
  have FI78 := gr_frt FI g77 rfl rfl
  have FJ79 := gr_fjt FJ k77 rfl rfl
  have t80 := g77 0 143 rfl
  have f81 := (show 0 ≤ I78 0 143 ∧ I78 0 143 ≤ 24 from (hI78 0 143).1)
  have f82 := (show 0 ≤ I78 0 69 ∧ I78 0 69 ≤ 1000 from (hI78 0 69).1)
  have f83 := (show 0 ≤ I78 0 68 ∧ I78 0 68 ≤ 1000 from (hI78 0 68).1)
  refine gv_callV hD rfl (As := []) (st := []) rfl (by decide) rfl rfl (gr_lV hws rfl) (Nat.le_of_ble_eq_true rfl) (gz_Ev_mono (d := 1) (by decide) E77) ?_
  show gv_X _ _ (4, [(0, .inr (.inr (some 0)))], [], gr_sh ++ ext, gr_h I78 J79)
  refine gv_run 3 true hD (pc' := 9) (lv' := [(0, .inr (.inr (some 0)))]) (st' := []) (h' := gz_up (gr_h I78 J79) 0 143 (.inl 0)) (C := (((True ∧ True) ∧ True) ∧ True)) rfl ⟨⟨⟨trivial, trivial⟩, trivial⟩, trivial⟩ ?_
  refine gr_st hI78 FI78 rfl rfl ⟨⟨by show 0 ≤ _; omega, by show _ ≤ 24; omega⟩, trivial⟩ (fun I84 hI84 FI84 q85 p85 => ?_)
  have t86 := p85 0 69 (by decide)
  have t87 := p85 0 68 (by decide)
  have f88 := (show 0 ≤ I84 0 143 ∧ I84 0 143 ≤ 24 from (hI84 0 143).1)
  have f89 := (show 0 ≤ I84 0 69 ∧ I84 0 69 ≤ 1000 from (hI84 0 69).1)
  have f90 := (show 0 ≤ I84 0 68 ∧ I84 0 68 ≤ 1000 from (hI84 0 68).1)
  refine gv_run 2 true hD (pc' := 11) (lv' := [(1, .inl 0), (0, .inr (.inr (some 0)))]) (st' := []) (h' := gr_h I84 J79) (C := ((True ∧ True) ∧ True)) rfl ⟨⟨trivial, trivial⟩, trivial⟩ ?_
  refine gv_pick [1, 0] rfl ?_
  exact L11 _ I84 J79 0 (Nat.lt_succ_self _) hI84 FI84 FJ79 (by omega)
set_option maxHeartbeats 4000000 in
set_option maxRecDepth 100000 in
theorem r_end_t {ws0 : List Cond} {tb : String → gz_T} (hws : ∀ w ∈ gr_ws, w ∈ ws0) (htb : tb RX13 = gr_T) (ext : gz_Sh) (I : gr_I) (J : gr_J) (hI : gr_Inv I) (a1 : Int) (ha1 : (-2147483648) ≤ a1 ∧ a1 ≤ 2147483647)  : ∃ r h', gz_Ev ws0 tb 2 (yX13_end, cX13_end, 2, (some .int)) [.inr (.inr (some 0)), .inl a1] (gr_sh ++ ext) (gr_h I J) r (gr_sh ++ ext) h' 0 0 ∧ (∃ (I' : gr_I) (J' : gr_J), h' = gr_h I' J' ∧ gr_Inv I' ∧ gr_fr [0, 68] [] I I' ∧ gr_fj [0, 68] [] J J' ∧ (∃ z : Int, r = some (.inl z) ∧ 0 ≤ z ∧ z ≤ 1000 ∧ (((0 ≤ a1 ∧ a1 ≤ I 0 68) ∧ I' 0 68 = a1 ∧ z = a1 ∧ I' 0 0 = 0) ∨ (¬ (0 ≤ a1 ∧ a1 ≤ I 0 68) ∧ I' 0 68 = I 0 68 ∧ I' 0 0 = 1)))) := by
  have FI : gr_fr [0, 68] [] I I := fun _ _ _ => rfl
  have FJ : gr_fj [0, 68] [] J J := fun _ _ _ => rfl
  have hD : gv_D (gr_E ws0 tb 1 (yX13_end, cX13_end, 2, (some .int)) kX13_end) := gq_ok oX13_end
  refine gr_ev (d := 1) (l := kX13_end) (Po := fun r h' => (∃ (I' : gr_I) (J' : gr_J), h' = gr_h I' J' ∧ gr_Inv I' ∧ gr_fr [0, 68] [] I I' ∧ gr_fj [0, 68] [] J J' ∧ (∃ z : Int, r = some (.inl z) ∧ 0 ≤ z ∧ z ≤ 1000 ∧ (((0 ≤ a1 ∧ a1 ≤ I 0 68) ∧ I' 0 68 = a1 ∧ z = a1 ∧ I' 0 0 = 0) ∨ (¬ (0 ≤ a1 ∧ a1 ≤ I 0 68) ∧ I' 0 68 = I 0 68 ∧ I' 0 0 = 1))))) htb rfl (Nat.le_of_ble_eq_true rfl) ?_
  have f1 := (show 0 ≤ I 0 68 ∧ I 0 68 ≤ 1000 from (hI 0 68).1)
  have f2 := (show 0 ≤ I 0 0 ∧ I 0 0 ≤ 2 from (hI 0 0).1)
  have L17 : ∀ (I3 : gr_I) (J4 : gr_J) , gr_Inv I3 → gr_fr [0, 68] [] I I3 → gr_fj [0, 68] [] J J4 → ((¬ (0 ≤ a1 ∧ a1 ≤ I 0 68)) ∧ (I3 0 68 = I 0 68)) → gv_X (gr_E ws0 tb 1 (yX13_end, cX13_end, 2, (some .int)) kX13_end) (gv_Q cX13_end (some .int) (gr_sh ++ ext) (fun r h' => (∃ (I' : gr_I) (J' : gr_J), h' = gr_h I' J' ∧ gr_Inv I' ∧ gr_fr [0, 68] [] I I' ∧ gr_fj [0, 68] [] J J' ∧ (∃ z : Int, r = some (.inl z) ∧ 0 ≤ z ∧ z ≤ 1000 ∧ (((0 ≤ a1 ∧ a1 ≤ I 0 68) ∧ I' 0 68 = a1 ∧ z = a1 ∧ I' 0 0 = 0) ∨ (¬ (0 ≤ a1 ∧ a1 ≤ I 0 68) ∧ I' 0 68 = I 0 68 ∧ I' 0 0 = 1)))))) (17, [(0, .inr (.inr (some 0)))], [], gr_sh ++ ext, gr_h I3 J4) := by
    intro I3 J4 hI3 FI3 FJ4 m_5
    obtain ⟨e0_5, e1_5⟩ := m_5
    have f6 := (show 0 ≤ I3 0 68 ∧ I3 0 68 ≤ 1000 from (hI3 0 68).1)
    have f7 := (show 0 ≤ I3 0 0 ∧ I3 0 0 ≤ 2 from (hI3 0 0).1)
    refine gv_run 1 true hD (pc' := 18) (lv' := [(0, .inr (.inr (some 0)))]) (st' := [.inr (.inr (some 0))]) (h' := gr_h I3 J4) (C := (True ∧ True)) rfl ⟨trivial, trivial⟩ ?_
    obtain ⟨r8, h8, E8, P8⟩ := r_bad_t (ws0 := ws0) (tb := tb) hws htb ext I3 J4 hI3   
    obtain ⟨I9, J10, rfl, hI9, g8, k8, ⟨z8, rfl, q8⟩⟩ := P8
    have FI9 := gr_frt FI3 g8 rfl rfl
    have FJ10 := gr_fjt FJ4 k8 rfl rfl
    have t11 := g8 0 68 rfl
    have f12 := (show 0 ≤ I9 0 68 ∧ I9 0 68 ≤ 1000 from (hI9 0 68).1)
    have f13 := (show 0 ≤ I9 0 0 ∧ I9 0 0 ≤ 2 from (hI9 0 0).1)
    refine gv_callV hD rfl (As := []) (st := []) rfl (by decide) rfl rfl (gr_lV hws rfl) (Nat.le_of_ble_eq_true rfl) (gz_Ev_mono (d := 1) (by decide) E8) ?_
    show gv_X _ _ (21, [(0, .inr (.inr (some 0)))], [.inl z8], gr_sh ++ ext, gr_h I9 J10)
    exact gv_iret hD rfl ⟨I9, J10, rfl, hI9, FI9, FJ10, ⟨_, rfl, by omega⟩⟩
  refine gv_run 3 true hD (pc' := 5) (lv' := [(0, .inr (.inr (some 0))), (1, .inl a1)]) (st' := []) (h' := gz_up (gr_h I J) 0 0 (.inl 0)) (C := (((True ∧ True) ∧ True) ∧ True)) rfl ⟨⟨⟨trivial, trivial⟩, trivial⟩, trivial⟩ ?_
  refine gr_st hI FI rfl rfl ⟨⟨by show 0 ≤ _; omega, by show _ ≤ 2; omega⟩, trivial⟩ (fun I14 hI14 FI14 q15 p15 => ?_)
  have t16 := p15 0 68 (by decide)
  have f17 := (show 0 ≤ I14 0 68 ∧ I14 0 68 ≤ 1000 from (hI14 0 68).1)
  have f18 := (show 0 ≤ I14 0 0 ∧ I14 0 0 ≤ 2 from (hI14 0 0).1)
  refine gv_run 1 true hD (pc' := 6) (lv' := [(0, .inr (.inr (some 0))), (1, .inl a1)]) (st' := [.inl a1]) (h' := gr_h I14 J) (C := (True ∧ True)) rfl ⟨trivial, trivial⟩ ?_
  refine gv_if_lt (t := 17) hD rfl rfl ⟨by omega, by omega⟩ (fun c19 => ?_) (fun c19 => ?_)
  · refine gv_pick [0] rfl ?_
    exact L17 I14 J hI14 FI14 FJ (by omega)
  · have f20 := (show 0 ≤ I14 0 68 ∧ I14 0 68 ≤ 1000 from (hI14 0 68).1)
    refine gv_run 3 true hD (pc' := 14) (lv' := [(0, .inr (.inr (some 0))), (1, .inl a1)]) (st' := [.inl (I14 0 68), .inl a1]) (h' := gr_h I14 J) (C := (((True ∧ True) ∧ True) ∧ True)) rfl ⟨⟨⟨trivial, trivial⟩, trivial⟩, trivial⟩ ?_
    refine gv_icmp_le (t := 22) hD rfl rfl ⟨⟨by omega, by omega⟩, ⟨by omega, by omega⟩⟩ (fun c21 => ?_) (fun c21 => ?_)
    · refine gv_run 3 true hD (pc' := 27) (lv' := [(0, .inr (.inr (some 0))), (1, .inl a1)]) (st' := []) (h' := gz_up (gr_h I14 J) 0 68 (.inl a1)) (C := (((True ∧ True) ∧ True) ∧ True)) rfl ⟨⟨⟨trivial, trivial⟩, trivial⟩, trivial⟩ ?_
      refine gr_st hI14 FI14 rfl rfl ⟨⟨by show 0 ≤ _; omega, by show _ ≤ 1000; omega⟩, trivial⟩ (fun I22 hI22 FI22 q23 p23 => ?_)
      have t24 := p23 0 0 (by decide)
      have f25 := (show 0 ≤ I22 0 68 ∧ I22 0 68 ≤ 1000 from (hI22 0 68).1)
      have f26 := (show 0 ≤ I22 0 0 ∧ I22 0 0 ≤ 2 from (hI22 0 0).1)
      refine gv_run 1 true hD (pc' := 28) (lv' := [(0, .inr (.inr (some 0))), (1, .inl a1)]) (st' := [.inl a1]) (h' := gr_h I22 J) (C := (True ∧ True)) rfl ⟨trivial, trivial⟩ ?_
      exact gv_iret hD rfl ⟨I22, J, rfl, hI22, FI22, FJ, ⟨_, rfl, by omega⟩⟩
    · refine gv_pick [0] rfl ?_
      exact L17 I14 J hI14 FI14 FJ (by omega)
