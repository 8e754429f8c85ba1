set_option maxHeartbeats 8000000 in
set_option maxRecDepth 100000 in
theorem r_bad_t {ws0 : List Cond} {tb : String → gz_T} (hws : ∀ w ∈ gr_ws, w ∈ ws0) (htb : tb RX13 = gr_T) (ext : gz_Sh) (I : gr_I) (J : gr_J) (hI : gr_Inv I)    : ∃ r h', gz_Ev ws0 tb 1 (yX13_bad, cX13_bad, 1, (some .int)) [.inr (.inr (some 0))] (gr_sh ++ ext) (gr_h I J) r (gr_sh ++ ext) h' 0 0 ∧ (∃ (I' : gr_I) (J' : gr_J), h' = gr_h I' J' ∧ gr_Inv I' ∧ gr_fr [0] [] I I' ∧ gr_fj [0] [] J J' ∧ (∃ z : Int, r = some (.inl z) ∧ 0 ≤ z ∧ z ≤ 0 ∧ (I' 0 0 = 1))) := by
  have FI : gr_fr [0] [] I I := fun _ _ _ => rfl
  have FJ : gr_fj [0] [] J J := fun _ _ _ => rfl
  have hD : gv_D (gr_E ws0 tb 0 (yX13_bad, cX13_bad, 1, (some .int)) kX13_bad) := gq_of oX13_bad
  refine gr_ev (d := 0) (l := kX13_bad) (Po := fun r h' => (∃ (I' : gr_I) (J' : gr_J), h' = gr_h I' J' ∧ gr_Inv I' ∧ gr_fr [0] [] I I' ∧ gr_fj [0] [] J J' ∧ (∃ z : Int, r = some (.inl z) ∧ 0 ≤ z ∧ z ≤ 0 ∧ (I' 0 0 = 1)))) htb rfl (Nat.le_of_ble_eq_true rfl) ?_
  refine gv_run 3 true hD (pc' := 5) (lv' := [(0, .inr (.inr (some 0)))]) (st' := []) (h' := gz_up (gr_h I J) 0 0 (.inl 1)) (C := (((True ∧ True) ∧ True) ∧ True)) rfl ⟨⟨⟨trivial, trivial⟩, trivial⟩, trivial⟩ ?_
  refine gr_st hI FI rfl rfl ⟨⟨by show 0 ≤ _; exact gz_m 0 (by omega), by show _ ≤ 2; exact gz_m 1 (by omega)⟩, trivial⟩ (fun I1 hI1 FI1 q2 p2 => ?_)
  refine gv_run 1 true hD (pc' := 6) (lv' := [(0, .inr (.inr (some 0)))]) (st' := [.inl 0]) (h' := gr_h I1 J) (C := (True ∧ True)) rfl ⟨trivial, trivial⟩ ?_
  exact gv_iret hD rfl ⟨I1, J, rfl, hI1, FI1, FJ, ⟨_, rfl, by exact gz_m 2 (by omega)⟩⟩
set_option maxHeartbeats 8000000 in
set_option maxRecDepth 100000 in
theorem r_noTongue_t {ws0 : List Cond} {tb : String → gz_T} (hws : ∀ w ∈ gr_ws, w ∈ ws0) (htb : tb RX13 = gr_T) (ext : gz_Sh) (I : gr_I) (J : gr_J) (hI : gr_Inv I) (a1 : Int) (ha1 : (-2147483648) ≤ a1 ∧ a1 ≤ 2147483647)  : ∃ r h', gz_Ev ws0 tb 1 (yX13_noTongue, cX13_noTongue, 2, (some .boolean)) [.inr (.inr (some 0)), .inl a1] (gr_sh ++ ext) (gr_h I J) r (gr_sh ++ ext) h' 0 0 ∧ (∃ (I' : gr_I) (J' : gr_J), h' = gr_h I' J' ∧ gr_Inv I' ∧ gr_fr [0] [] I I' ∧ gr_fj [0] [] J J' ∧ (∃ z : Int, r = some (.inl z) ∧ 0 ≤ z ∧ z ≤ 1 ∧ (z = 0 → 0 ≤ a1 ∧ a1 < I 0 1 ∧ a1 ≤ 7) ∧ ((z = 0 ∧ (0 ≤ a1 ∧ a1 < I 0 1)) ∨ (z = 1 ∧ ¬ (0 ≤ a1 ∧ a1 < I 0 1))) ∧ (z = 0 → I' 0 0 = 0))) := by
  have FI : gr_fr [0] [] I I := fun _ _ _ => rfl
  have FJ : gr_fj [0] [] J J := fun _ _ _ => rfl
  have hD : gv_D (gr_E ws0 tb 0 (yX13_noTongue, cX13_noTongue, 2, (some .boolean)) kX13_noTongue) := gq_of oX13_noTongue
  refine gr_ev (d := 0) (l := kX13_noTongue) (Po := fun r h' => (∃ (I' : gr_I) (J' : gr_J), h' = gr_h I' J' ∧ gr_Inv I' ∧ gr_fr [0] [] I I' ∧ gr_fj [0] [] J J' ∧ (∃ z : Int, r = some (.inl z) ∧ 0 ≤ z ∧ z ≤ 1 ∧ (z = 0 → 0 ≤ a1 ∧ a1 < I 0 1 ∧ a1 ≤ 7) ∧ ((z = 0 ∧ (0 ≤ a1 ∧ a1 < I 0 1)) ∨ (z = 1 ∧ ¬ (0 ≤ a1 ∧ a1 < I 0 1))) ∧ (z = 0 → I' 0 0 = 0)))) htb rfl (Nat.le_of_ble_eq_true rfl) ?_
  have f1 := (gr_b_0_1 hI)
  have f2 := (gr_b_0_0 hI)
  have L18 : ∀ (s1_3 : Int), ((0 ≤ s1_3 ∧ s1_3 ≤ 1) ∧ (s1_3 = 0 → 0 ≤ a1 ∧ a1 < I 0 1 ∧ a1 ≤ 7) ∧ ((s1_3 = 0 ∧ (0 ≤ a1 ∧ a1 < I 0 1)) ∨ (s1_3 = 1 ∧ ¬ (0 ≤ a1 ∧ a1 < I 0 1)))) → gv_X (gr_E ws0 tb 0 (yX13_noTongue, cX13_noTongue, 2, (some .boolean)) kX13_noTongue) (gv_Q cX13_noTongue (some .boolean) (gr_sh ++ ext) (fun r h' => (∃ (I' : gr_I) (J' : gr_J), h' = gr_h I' J' ∧ gr_Inv I' ∧ gr_fr [0] [] I I' ∧ gr_fj [0] [] J J' ∧ (∃ z : Int, r = some (.inl z) ∧ 0 ≤ z ∧ z ≤ 1 ∧ (z = 0 → 0 ≤ a1 ∧ a1 < I 0 1 ∧ a1 ≤ 7) ∧ ((z = 0 ∧ (0 ≤ a1 ∧ a1 < I 0 1)) ∨ (z = 1 ∧ ¬ (0 ≤ a1 ∧ a1 < I 0 1))) ∧ (z = 0 → I' 0 0 = 0))))) (18, [(0, .inr (.inr (some 0)))], [.inl s1_3, .inr (.inr (some 0))], gr_sh ++ ext, gr_h I J) := by
    intro s1_3 m_3
    obtain ⟨hs1_3, e0_3, e1_3⟩ := m_3
    have f4 := (gr_b_0_1 hI)
    have f5 := (gr_b_0_0 hI)
    have L33 : ∀ (I6 : gr_I) (J7 : gr_J) (s0_8 : Int), gr_Inv I6 → gr_fr [0] [] I I6 → gr_fj [0] [] J J7 → ((0 ≤ s0_8 ∧ s0_8 ≤ 1) ∧ (s0_8 = 0 → 0 ≤ a1 ∧ a1 < I 0 1 ∧ a1 ≤ 7) ∧ ((s0_8 = 0 ∧ (0 ≤ a1 ∧ a1 < I 0 1)) ∨ (s0_8 = 1 ∧ ¬ (0 ≤ a1 ∧ a1 < I 0 1))) ∧ (s0_8 = 0 → I6 0 0 = 0)) → gv_X (gr_E ws0 tb 0 (yX13_noTongue, cX13_noTongue, 2, (some .boolean)) kX13_noTongue) (gv_Q cX13_noTongue (some .boolean) (gr_sh ++ ext) (fun r h' => (∃ (I' : gr_I) (J' : gr_J), h' = gr_h I' J' ∧ gr_Inv I' ∧ gr_fr [0] [] I I' ∧ gr_fj [0] [] J J' ∧ (∃ z : Int, r = some (.inl z) ∧ 0 ≤ z ∧ z ≤ 1 ∧ (z = 0 → 0 ≤ a1 ∧ a1 < I 0 1 ∧ a1 ≤ 7) ∧ ((z = 0 ∧ (0 ≤ a1 ∧ a1 < I 0 1)) ∨ (z = 1 ∧ ¬ (0 ≤ a1 ∧ a1 < I 0 1))) ∧ (z = 0 → I' 0 0 = 0))))) (33, [], [.inl s0_8], gr_sh ++ ext, gr_h I6 J7) := by
      intro I6 J7 s0_8 hI6 FI6 FJ7 m_8
      clear hs1_3 e0_3 e1_3 f4 f5
      obtain ⟨hs0_8, e0_8, e1_8, e2_8⟩ := m_8
      have f9 := (gr_b_0_1 hI6)
      have f10 := (gr_b_0_0 hI6)
      exact gv_zret hD rfl (by exact gz_m 0 (by omega)) ⟨I6, J7, rfl, hI6, FI6, FJ7, ⟨_, rfl, by exact gz_m 1 (by omega)⟩⟩
    refine gv_run 1 true hD (pc' := 21) (lv' := [(0, .inr (.inr (some 0)))]) (st' := []) (h' := gz_up (gr_h I J) 0 0 (.inl s1_3)) (C := (True ∧ True)) rfl ⟨trivial, trivial⟩ ?_
    refine gr_st hI FI rfl rfl ⟨⟨by show 0 ≤ _; exact gz_m 2 (by omega), by show _ ≤ 2; exact gz_m 3 (by omega)⟩, trivial⟩ (fun I11 hI11 FI11 q12 p12 => ?_)
    have t13 := p12 0 1 (by decide)
    have f14 := (gr_b_0_1 hI11)
    have f15 := (gr_b_0_0 hI11)
    have f16 := (gr_b_0_0 hI11)
    refine gv_run 2 true hD (pc' := 25) (lv' := [(0, .inr (.inr (some 0)))]) (st' := [.inl (I11 0 0)]) (h' := gr_h I11 J) (C := ((True ∧ True) ∧ True)) rfl ⟨⟨trivial, trivial⟩, trivial⟩ ?_
    refine gv_if_eq (t := 32) hD rfl rfl ⟨by exact gz_m 4 (by omega), by exact gz_m 5 (by omega)⟩ (fun c17 => ?_) (fun c17 => ?_)
    · refine gv_run 1 true hD (pc' := 33) (lv' := [(0, .inr (.inr (some 0)))]) (st' := [.inl 0]) (h' := gr_h I11 J) (C := (True ∧ True)) rfl ⟨trivial, trivial⟩ ?_
      refine gv_pick [] rfl ?_
      exact L33 I11 J 0 hI11 FI11 FJ (by exact gz_m 6 (by omega))
    · refine gv_run 2 true hD (pc' := 33) (lv' := [(0, .inr (.inr (some 0)))]) (st' := [.inl 1]) (h' := gr_h I11 J) (C := ((True ∧ True) ∧ True)) rfl ⟨⟨trivial, trivial⟩, trivial⟩ ?_
      refine gv_pick [] rfl ?_
      exact L33 I11 J 1 hI11 FI11 FJ (by exact gz_m 7 (by omega))
  have L13 : ((¬ (0 ≤ a1 ∧ a1 < I 0 1))) → gv_X (gr_E ws0 tb 0 (yX13_noTongue, cX13_noTongue, 2, (some .boolean)) kX13_noTongue) (gv_Q cX13_noTongue (some .boolean) (gr_sh ++ ext) (fun r h' => (∃ (I' : gr_I) (J' : gr_J), h' = gr_h I' J' ∧ gr_Inv I' ∧ gr_fr [0] [] I I' ∧ gr_fj [0] [] J J' ∧ (∃ z : Int, r = some (.inl z) ∧ 0 ≤ z ∧ z ≤ 1 ∧ (z = 0 → 0 ≤ a1 ∧ a1 < I 0 1 ∧ a1 ≤ 7) ∧ ((z = 0 ∧ (0 ≤ a1 ∧ a1 < I 0 1)) ∨ (z = 1 ∧ ¬ (0 ≤ a1 ∧ a1 < I 0 1))) ∧ (z = 0 → I' 0 0 = 0))))) (13, [(0, .inr (.inr (some 0)))], [.inr (.inr (some 0))], gr_sh ++ ext, gr_h I J) := by
    intro m_18
    have e0_18 := m_18
    have f19 := (gr_b_0_1 hI)
    have f20 := (gr_b_0_0 hI)
    refine gv_run 2 true hD (pc' := 18) (lv' := [(0, .inr (.inr (some 0)))]) (st' := [.inl 1, .inr (.inr (some 0))]) (h' := gr_h I J) (C := ((True ∧ True) ∧ True)) rfl ⟨⟨trivial, trivial⟩, trivial⟩ ?_
    exact L18 1 (by exact gz_m 8 (by omega))
  refine gv_run 2 true hD (pc' := 2) (lv' := [(0, .inr (.inr (some 0))), (1, .inl a1)]) (st' := [.inl a1, .inr (.inr (some 0))]) (h' := gr_h I J) (C := ((True ∧ True) ∧ True)) rfl ⟨⟨trivial, trivial⟩, trivial⟩ ?_
  refine gv_if_lt (t := 13) hD rfl rfl ⟨by exact gz_m 9 (by omega), by exact gz_m 10 (by omega)⟩ (fun c21 => ?_) (fun c21 => ?_)
  · refine gv_pick [0] rfl ?_
    exact L13 (by exact gz_m 11 (by omega))
  · have f22 := (gr_b_0_1 hI)
    refine gv_run 3 true hD (pc' := 10) (lv' := [(0, .inr (.inr (some 0))), (1, .inl a1)]) (st' := [.inl (I 0 1), .inl a1, .inr (.inr (some 0))]) (h' := gr_h I J) (C := (((True ∧ True) ∧ True) ∧ True)) rfl ⟨⟨⟨trivial, trivial⟩, trivial⟩, trivial⟩ ?_
    refine gv_icmp_lt (t := 17) hD rfl rfl ⟨⟨by exact gz_m 12 (by omega), by exact gz_m 13 (by omega)⟩, ⟨by exact gz_m 14 (by omega), by exact gz_m 15 (by omega)⟩⟩ (fun c23 => ?_) (fun c23 => ?_)
    · refine gv_run 1 true hD (pc' := 18) (lv' := [(0, .inr (.inr (some 0))), (1, .inl a1)]) (st' := [.inl 0, .inr (.inr (some 0))]) (h' := gr_h I J) (C := (True ∧ True)) rfl ⟨trivial, trivial⟩ ?_
      refine gv_pick [0] rfl ?_
      exact L18 0 (by exact gz_m 16 (by omega))
    · refine gv_pick [0] rfl ?_
      exact L13 (by exact gz_m 17 (by omega))
set_option maxHeartbeats 8000000 in
set_option maxRecDepth 100000 in
theorem r_noKind_t {ws0 : List Cond} {tb : String → gz_T} (hws : ∀ w ∈ gr_ws, w ∈ ws0) (htb : tb RX13 = gr_T) (ext : gz_Sh) (I : gr_I) (J : gr_J) (hI : gr_Inv I) (a1 : Int) (ha1 : (-2147483648) ≤ a1 ∧ a1 ≤ 2147483647)  : ∃ r h', gz_Ev ws0 tb 1 (yX13_noKind, cX13_noKind, 2, (some .boolean)) [.inr (.inr (some 0)), .inl a1] (gr_sh ++ ext) (gr_h I J) r (gr_sh ++ ext) h' 0 0 ∧ (∃ (I' : gr_I) (J' : gr_J), h' = gr_h I' J' ∧ gr_Inv I' ∧ gr_fr [0] [] I I' ∧ gr_fj [0] [] J J' ∧ (∃ z : Int, r = some (.inl z) ∧ 0 ≤ z ∧ z ≤ 1 ∧ (z = 0 → 0 ≤ a1 ∧ a1 ≤ 31) ∧ ((z = 0 ∧ ((0 ≤ a1 ∧ a1 < I 0 2) ∧ I 0 0 = 0)) ∨ (z = 1 ∧ ¬ ((0 ≤ a1 ∧ a1 < I 0 2) ∧ I 0 0 = 0))) ∧ (z = 0 → I' 0 0 = 0))) := by
  have FI : gr_fr [0] [] I I := fun _ _ _ => rfl
  have FJ : gr_fj [0] [] J J := fun _ _ _ => rfl
  have hD : gv_D (gr_E ws0 tb 0 (yX13_noKind, cX13_noKind, 2, (some .boolean)) kX13_noKind) := gq_of oX13_noKind
  refine gr_ev (d := 0) (l := kX13_noKind) (Po := fun r h' => (∃ (I' : gr_I) (J' : gr_J), h' = gr_h I' J' ∧ gr_Inv I' ∧ gr_fr [0] [] I I' ∧ gr_fj [0] [] J J' ∧ (∃ z : Int, r = some (.inl z) ∧ 0 ≤ z ∧ z ≤ 1 ∧ (z = 0 → 0 ≤ a1 ∧ a1 ≤ 31) ∧ ((z = 0 ∧ ((0 ≤ a1 ∧ a1 < I 0 2) ∧ I 0 0 = 0)) ∨ (z = 1 ∧ ¬ ((0 ≤ a1 ∧ a1 < I 0 2) ∧ I 0 0 = 0))) ∧ (z = 0 → I' 0 0 = 0)))) htb rfl (Nat.le_of_ble_eq_true rfl) ?_
  have f1 := (gr_b_0_0 hI)
  have f2 := (gr_b_0_2 hI)
  have L17 : ∀ (I3 : gr_I) (J4 : gr_J) , gr_Inv I3 → gr_fr [0] [] I I3 → gr_fj [0] [] J J4 → ((I3 0 0 = 0 → 0 ≤ a1 ∧ a1 ≤ 31) ∧ ((I3 0 0 = 0 ∧ ((0 ≤ a1 ∧ a1 < I 0 2) ∧ I 0 0 = 0)) ∨ (¬ I3 0 0 = 0 ∧ ¬ ((0 ≤ a1 ∧ a1 < I 0 2) ∧ I 0 0 = 0)))) → gv_X (gr_E ws0 tb 0 (yX13_noKind, cX13_noKind, 2, (some .boolean)) kX13_noKind) (gv_Q cX13_noKind (some .boolean) (gr_sh ++ ext) (fun r h' => (∃ (I' : gr_I) (J' : gr_J), h' = gr_h I' J' ∧ gr_Inv I' ∧ gr_fr [0] [] I I' ∧ gr_fj [0] [] J J' ∧ (∃ z : Int, r = some (.inl z) ∧ 0 ≤ z ∧ z ≤ 1 ∧ (z = 0 → 0 ≤ a1 ∧ a1 ≤ 31) ∧ ((z = 0 ∧ ((0 ≤ a1 ∧ a1 < I 0 2) ∧ I 0 0 = 0)) ∨ (z = 1 ∧ ¬ ((0 ≤ a1 ∧ a1 < I 0 2) ∧ I 0 0 = 0))) ∧ (z = 0 → I' 0 0 = 0))))) (17, [(0, .inr (.inr (some 0)))], [], gr_sh ++ ext, gr_h I3 J4) := by
    intro I3 J4 hI3 FI3 FJ4 m_5
    obtain ⟨e0_5, e1_5⟩ := m_5
    have f6 := (gr_b_0_0 hI3)
    have f7 := (gr_b_0_2 hI3)
    have L29 : ∀ (s0_8 : Int), ((0 ≤ s0_8 ∧ s0_8 ≤ 1) ∧ (s0_8 = 0 → 0 ≤ a1 ∧ a1 ≤ 31) ∧ ((s0_8 = 0 ∧ ((0 ≤ a1 ∧ a1 < I 0 2) ∧ I 0 0 = 0)) ∨ (s0_8 = 1 ∧ ¬ ((0 ≤ a1 ∧ a1 < I 0 2) ∧ I 0 0 = 0))) ∧ (s0_8 = 0 → I3 0 0 = 0)) → gv_X (gr_E ws0 tb 0 (yX13_noKind, cX13_noKind, 2, (some .boolean)) kX13_noKind) (gv_Q cX13_noKind (some .boolean) (gr_sh ++ ext) (fun r h' => (∃ (I' : gr_I) (J' : gr_J), h' = gr_h I' J' ∧ gr_Inv I' ∧ gr_fr [0] [] I I' ∧ gr_fj [0] [] J J' ∧ (∃ z : Int, r = some (.inl z) ∧ 0 ≤ z ∧ z ≤ 1 ∧ (z = 0 → 0 ≤ a1 ∧ a1 ≤ 31) ∧ ((z = 0 ∧ ((0 ≤ a1 ∧ a1 < I 0 2) ∧ I 0 0 = 0)) ∨ (z = 1 ∧ ¬ ((0 ≤ a1 ∧ a1 < I 0 2) ∧ I 0 0 = 0))) ∧ (z = 0 → I' 0 0 = 0))))) (29, [], [.inl s0_8], gr_sh ++ ext, gr_h I3 J4) := by
      intro s0_8 m_8
      obtain ⟨hs0_8, e0_8, e1_8, e2_8⟩ := m_8
      have f9 := (gr_b_0_0 hI3)
      have f10 := (gr_b_0_2 hI3)
      exact gv_zret hD rfl (by exact gz_m 0 (by omega)) ⟨I3, J4, rfl, hI3, FI3, FJ4, ⟨_, rfl, by exact gz_m 1 (by omega)⟩⟩
    have f11 := (gr_b_0_0 hI3)
    refine gv_run 2 true hD (pc' := 21) (lv' := [(0, .inr (.inr (some 0)))]) (st' := [.inl (I3 0 0)]) (h' := gr_h I3 J4) (C := ((True ∧ True) ∧ True)) rfl ⟨⟨trivial, trivial⟩, trivial⟩ ?_
    refine gv_if_eq (t := 28) hD rfl rfl ⟨by exact gz_m 2 (by omega), by exact gz_m 3 (by omega)⟩ (fun c12 => ?_) (fun c12 => ?_)
    · refine gv_run 1 true hD (pc' := 29) (lv' := [(0, .inr (.inr (some 0)))]) (st' := [.inl 0]) (h' := gr_h I3 J4) (C := (True ∧ True)) rfl ⟨trivial, trivial⟩ ?_
      refine gv_pick [] rfl ?_
      exact L29 0 (by exact gz_m 4 (by omega))
    · refine gv_run 2 true hD (pc' := 29) (lv' := [(0, .inr (.inr (some 0)))]) (st' := [.inl 1]) (h' := gr_h I3 J4) (C := ((True ∧ True) ∧ True)) rfl ⟨⟨trivial, trivial⟩, trivial⟩ ?_
      refine gv_pick [] rfl ?_
      exact L29 1 (by exact gz_m 5 (by omega))
  have L12 : ((¬ (0 ≤ a1 ∧ a1 < I 0 2))) → gv_X (gr_E ws0 tb 0 (yX13_noKind, cX13_noKind, 2, (some .boolean)) kX13_noKind) (gv_Q cX13_noKind (some .boolean) (gr_sh ++ ext) (fun r h' => (∃ (I' : gr_I) (J' : gr_J), h' = gr_h I' J' ∧ gr_Inv I' ∧ gr_fr [0] [] I I' ∧ gr_fj [0] [] J J' ∧ (∃ z : Int, r = some (.inl z) ∧ 0 ≤ z ∧ z ≤ 1 ∧ (z = 0 → 0 ≤ a1 ∧ a1 ≤ 31) ∧ ((z = 0 ∧ ((0 ≤ a1 ∧ a1 < I 0 2) ∧ I 0 0 = 0)) ∨ (z = 1 ∧ ¬ ((0 ≤ a1 ∧ a1 < I 0 2) ∧ I 0 0 = 0))) ∧ (z = 0 → I' 0 0 = 0))))) (12, [(0, .inr (.inr (some 0)))], [], gr_sh ++ ext, gr_h I J) := by
    intro m_13
    have e0_13 := m_13
    have f14 := (gr_b_0_0 hI)
    have f15 := (gr_b_0_2 hI)
    refine gv_run 3 true hD (pc' := 17) (lv' := [(0, .inr (.inr (some 0)))]) (st' := []) (h' := gz_up (gr_h I J) 0 0 (.inl 1)) (C := (((True ∧ True) ∧ True) ∧ True)) rfl ⟨⟨⟨trivial, trivial⟩, trivial⟩, trivial⟩ ?_
    refine gr_st hI FI rfl rfl ⟨⟨by show 0 ≤ _; exact gz_m 6 (by omega), by show _ ≤ 2; exact gz_m 7 (by omega)⟩, trivial⟩ (fun I16 hI16 FI16 q17 p17 => ?_)
    have t18 := p17 0 2 (by decide)
    have f19 := (gr_b_0_0 hI16)
    have f20 := (gr_b_0_2 hI16)
    exact L17 I16 J hI16 FI16 FJ (by exact gz_m 8 (by omega))
  refine gv_run 1 true hD (pc' := 1) (lv' := [(0, .inr (.inr (some 0))), (1, .inl a1)]) (st' := [.inl a1]) (h' := gr_h I J) (C := (True ∧ True)) rfl ⟨trivial, trivial⟩ ?_
  refine gv_if_lt (t := 12) hD rfl rfl ⟨by exact gz_m 9 (by omega), by exact gz_m 10 (by omega)⟩ (fun c21 => ?_) (fun c21 => ?_)
  · refine gv_pick [0] rfl ?_
    exact L12 (by exact gz_m 11 (by omega))
  · have f22 := (gr_b_0_2 hI)
    refine gv_run 3 true hD (pc' := 9) (lv' := [(0, .inr (.inr (some 0))), (1, .inl a1)]) (st' := [.inl (I 0 2), .inl a1]) (h' := gr_h I J) (C := (((True ∧ True) ∧ True) ∧ True)) rfl ⟨⟨⟨trivial, trivial⟩, trivial⟩, trivial⟩ ?_
    refine gv_icmp_lt (t := 17) hD rfl rfl ⟨⟨by exact gz_m 12 (by omega), by exact gz_m 13 (by omega)⟩, ⟨by exact gz_m 14 (by omega), by exact gz_m 15 (by omega)⟩⟩ (fun c23 => ?_) (fun c23 => ?_)
    · refine gv_pick [0] rfl ?_
      exact L17 I J hI FI FJ (by exact gz_m 16 (by omega))
    · refine gv_pick [0] rfl ?_
      exact L12 (by exact gz_m 17 (by omega))
set_option maxHeartbeats 8000000 in
set_option maxRecDepth 100000 in
theorem r_noPlace_t {ws0 : List Cond} {tb : String → gz_T} (hws : ∀ w ∈ gr_ws, w ∈ ws0) (htb : tb RX13 = gr_T) (ext : gz_Sh) (I : gr_I) (J : gr_J) (hI : gr_Inv I) (a1 : Int) (ha1 : (-2147483648) ≤ a1 ∧ a1 ≤ 2147483647)  : ∃ r h', gz_Ev ws0 tb 1 (yX13_noPlace, cX13_noPlace, 2, (some .boolean)) [.inr (.inr (some 0)), .inl a1] (gr_sh ++ ext) (gr_h I J) r (gr_sh ++ ext) h' 0 0 ∧ (∃ (I' : gr_I) (J' : gr_J), h' = gr_h I' J' ∧ gr_Inv I' ∧ gr_fr [0] [] I I' ∧ gr_fj [0] [] J J' ∧ (∃ z : Int, r = some (.inl z) ∧ 0 ≤ z ∧ z ≤ 1 ∧ (z = 0 → 0 ≤ a1 ∧ a1 ≤ 7) ∧ ((z = 0 ∧ (0 ≤ a1 ∧ a1 ≤ 7)) ∨ (z = 1 ∧ ¬ (0 ≤ a1 ∧ a1 ≤ 7))))) := by
  have FI : gr_fr [0] [] I I := fun _ _ _ => rfl
  have FJ : gr_fj [0] [] J J := fun _ _ _ => rfl
  have hD : gv_D (gr_E ws0 tb 0 (yX13_noPlace, cX13_noPlace, 2, (some .boolean)) kX13_noPlace) := gq_of oX13_noPlace
  refine gr_ev (d := 0) (l := kX13_noPlace) (Po := fun r h' => (∃ (I' : gr_I) (J' : gr_J), h' = gr_h I' J' ∧ gr_Inv I' ∧ gr_fr [0] [] I I' ∧ gr_fj [0] [] J J' ∧ (∃ z : Int, r = some (.inl z) ∧ 0 ≤ z ∧ z ≤ 1 ∧ (z = 0 → 0 ≤ a1 ∧ a1 ≤ 7) ∧ ((z = 0 ∧ (0 ≤ a1 ∧ a1 ≤ 7)) ∨ (z = 1 ∧ ¬ (0 ≤ a1 ∧ a1 ≤ 7)))))) htb rfl (Nat.le_of_ble_eq_true rfl) ?_
  have L16 : ∀ (s1_1 : Int), ((0 ≤ s1_1 ∧ s1_1 ≤ 1) ∧ (s1_1 = 0 → 0 ≤ a1 ∧ a1 ≤ 7) ∧ ((s1_1 = 0 ∧ (0 ≤ a1 ∧ a1 ≤ 7)) ∨ (s1_1 = 1 ∧ ¬ (0 ≤ a1 ∧ a1 ≤ 7)))) → gv_X (gr_E ws0 tb 0 (yX13_noPlace, cX13_noPlace, 2, (some .boolean)) kX13_noPlace) (gv_Q cX13_noPlace (some .boolean) (gr_sh ++ ext) (fun r h' => (∃ (I' : gr_I) (J' : gr_J), h' = gr_h I' J' ∧ gr_Inv I' ∧ gr_fr [0] [] I I' ∧ gr_fj [0] [] J J' ∧ (∃ z : Int, r = some (.inl z) ∧ 0 ≤ z ∧ z ≤ 1 ∧ (z = 0 → 0 ≤ a1 ∧ a1 ≤ 7) ∧ ((z = 0 ∧ (0 ≤ a1 ∧ a1 ≤ 7)) ∨ (z = 1 ∧ ¬ (0 ≤ a1 ∧ a1 ≤ 7))))))) (16, [(0, .inr (.inr (some 0)))], [.inl s1_1, .inr (.inr (some 0))], gr_sh ++ ext, gr_h I J) := by
    intro s1_1 m_1
    obtain ⟨hs1_1, e0_1, e1_1⟩ := m_1
    have L31 : ∀ (I2 : gr_I) (J3 : gr_J) (s0_4 : Int), gr_Inv I2 → gr_fr [0] [] I I2 → gr_fj [0] [] J J3 → ((0 ≤ s0_4 ∧ s0_4 ≤ 1) ∧ (s0_4 = 0 → 0 ≤ a1 ∧ a1 ≤ 7) ∧ ((s0_4 = 0 ∧ (0 ≤ a1 ∧ a1 ≤ 7)) ∨ (s0_4 = 1 ∧ ¬ (0 ≤ a1 ∧ a1 ≤ 7)))) → gv_X (gr_E ws0 tb 0 (yX13_noPlace, cX13_noPlace, 2, (some .boolean)) kX13_noPlace) (gv_Q cX13_noPlace (some .boolean) (gr_sh ++ ext) (fun r h' => (∃ (I' : gr_I) (J' : gr_J), h' = gr_h I' J' ∧ gr_Inv I' ∧ gr_fr [0] [] I I' ∧ gr_fj [0] [] J J' ∧ (∃ z : Int, r = some (.inl z) ∧ 0 ≤ z ∧ z ≤ 1 ∧ (z = 0 → 0 ≤ a1 ∧ a1 ≤ 7) ∧ ((z = 0 ∧ (0 ≤ a1 ∧ a1 ≤ 7)) ∨ (z = 1 ∧ ¬ (0 ≤ a1 ∧ a1 ≤ 7))))))) (31, [], [.inl s0_4], gr_sh ++ ext, gr_h I2 J3) := by
      intro I2 J3 s0_4 hI2 FI2 FJ3 m_4
      clear hs1_1 e0_1 e1_1
      obtain ⟨hs0_4, e0_4, e1_4⟩ := m_4
      exact gv_zret hD rfl (by exact gz_m 0 (by omega)) ⟨I2, J3, rfl, hI2, FI2, FJ3, ⟨_, rfl, by exact gz_m 1 (by omega)⟩⟩
    refine gv_run 1 true hD (pc' := 19) (lv' := [(0, .inr (.inr (some 0)))]) (st' := []) (h' := gz_up (gr_h I J) 0 0 (.inl s1_1)) (C := (True ∧ True)) rfl ⟨trivial, trivial⟩ ?_
    refine gr_st hI FI rfl rfl ⟨⟨by show 0 ≤ _; exact gz_m 2 (by omega), by show _ ≤ 2; exact gz_m 3 (by omega)⟩, trivial⟩ (fun I5 hI5 FI5 q6 p6 => ?_)
    have f7 := (gr_b_0_0 hI5)
    refine gv_run 2 true hD (pc' := 23) (lv' := [(0, .inr (.inr (some 0)))]) (st' := [.inl (I5 0 0)]) (h' := gr_h I5 J) (C := ((True ∧ True) ∧ True)) rfl ⟨⟨trivial, trivial⟩, trivial⟩ ?_
    refine gv_if_eq (t := 30) hD rfl rfl ⟨by exact gz_m 4 (by omega), by exact gz_m 5 (by omega)⟩ (fun c8 => ?_) (fun c8 => ?_)
    · refine gv_run 1 true hD (pc' := 31) (lv' := [(0, .inr (.inr (some 0)))]) (st' := [.inl 0]) (h' := gr_h I5 J) (C := (True ∧ True)) rfl ⟨trivial, trivial⟩ ?_
      refine gv_pick [] rfl ?_
      exact L31 I5 J 0 hI5 FI5 FJ (by exact gz_m 6 (by omega))
    · refine gv_run 2 true hD (pc' := 31) (lv' := [(0, .inr (.inr (some 0)))]) (st' := [.inl 1]) (h' := gr_h I5 J) (C := ((True ∧ True) ∧ True)) rfl ⟨⟨trivial, trivial⟩, trivial⟩ ?_
      refine gv_pick [] rfl ?_
      exact L31 I5 J 1 hI5 FI5 FJ (by exact gz_m 7 (by omega))
  have L11 : ((¬ (0 ≤ a1 ∧ a1 ≤ 7))) → gv_X (gr_E ws0 tb 0 (yX13_noPlace, cX13_noPlace, 2, (some .boolean)) kX13_noPlace) (gv_Q cX13_noPlace (some .boolean) (gr_sh ++ ext) (fun r h' => (∃ (I' : gr_I) (J' : gr_J), h' = gr_h I' J' ∧ gr_Inv I' ∧ gr_fr [0] [] I I' ∧ gr_fj [0] [] J J' ∧ (∃ z : Int, r = some (.inl z) ∧ 0 ≤ z ∧ z ≤ 1 ∧ (z = 0 → 0 ≤ a1 ∧ a1 ≤ 7) ∧ ((z = 0 ∧ (0 ≤ a1 ∧ a1 ≤ 7)) ∨ (z = 1 ∧ ¬ (0 ≤ a1 ∧ a1 ≤ 7))))))) (11, [(0, .inr (.inr (some 0)))], [.inr (.inr (some 0))], gr_sh ++ ext, gr_h I J) := by
    intro m_9
    have e0_9 := m_9
    refine gv_run 2 true hD (pc' := 16) (lv' := [(0, .inr (.inr (some 0)))]) (st' := [.inl 1, .inr (.inr (some 0))]) (h' := gr_h I J) (C := ((True ∧ True) ∧ True)) rfl ⟨⟨trivial, trivial⟩, trivial⟩ ?_
    exact L16 1 (by exact gz_m 8 (by omega))
  refine gv_run 2 true hD (pc' := 2) (lv' := [(0, .inr (.inr (some 0))), (1, .inl a1)]) (st' := [.inl a1, .inr (.inr (some 0))]) (h' := gr_h I J) (C := ((True ∧ True) ∧ True)) rfl ⟨⟨trivial, trivial⟩, trivial⟩ ?_
  refine gv_if_lt (t := 11) hD rfl rfl ⟨by exact gz_m 9 (by omega), by exact gz_m 10 (by omega)⟩ (fun c10 => ?_) (fun c10 => ?_)
  · refine gv_pick [0] rfl ?_
    exact L11 (by exact gz_m 11 (by omega))
  · refine gv_run 2 true hD (pc' := 8) (lv' := [(0, .inr (.inr (some 0))), (1, .inl a1)]) (st' := [.inl 7, .inl a1, .inr (.inr (some 0))]) (h' := gr_h I J) (C := ((True ∧ True) ∧ True)) rfl ⟨⟨trivial, trivial⟩, trivial⟩ ?_
    refine gv_icmp_le (t := 15) hD rfl rfl ⟨⟨by exact gz_m 12 (by omega), by exact gz_m 13 (by omega)⟩, ⟨by exact gz_m 14 (by omega), by exact gz_m 15 (by omega)⟩⟩ (fun c11 => ?_) (fun c11 => ?_)
    · refine gv_run 1 true hD (pc' := 16) (lv' := [(0, .inr (.inr (some 0))), (1, .inl a1)]) (st' := [.inl 0, .inr (.inr (some 0))]) (h' := gr_h I J) (C := (True ∧ True)) rfl ⟨trivial, trivial⟩ ?_
      refine gv_pick [0] rfl ?_
      exact L16 0 (by exact gz_m 16 (by omega))
    · refine gv_pick [0] rfl ?_
      exact L11 (by exact gz_m 17 (by omega))
set_option maxHeartbeats 8000000 in
set_option maxRecDepth 100000 in
theorem r_reads_t {ws0 : List Cond} {tb : String → gz_T} (hws : ∀ w ∈ gr_ws, w ∈ ws0) (htb : tb RX13 = gr_T) (ext : gz_Sh) (I : gr_I) (J : gr_J) (hI : gr_Inv I)    : ∃ r h', gz_Ev ws0 tb 1 (yX13_reads, cX13_reads, 2, none) [.inr (.inr (some 0))] (gr_sh ++ ext) (gr_h I J) r (gr_sh ++ ext) h' 0 0 ∧ (∃ (I' : gr_I) (J' : gr_J), h' = gr_h I' J' ∧ gr_Inv I' ∧ gr_fr [68, 69] [57] I I' ∧ gr_fj [68, 69] [57] J J' ∧ r = none ∧ (I' 0 69 = I 0 68) ∧ (I' 0 68 = 0) ∧ (I' 0 68 = 0)) := by
  have FI : gr_fr [68, 69] [57] I I := fun _ _ _ => rfl
  have FJ : gr_fj [68, 69] [57] J J := fun _ _ _ => rfl
  have hD : gv_D (gr_E ws0 tb 0 (yX13_reads, cX13_reads, 2, none) kX13_reads) := gq_of oX13_reads
  refine gr_ev (d := 0) (l := kX13_reads) (Po := fun r h' => (∃ (I' : gr_I) (J' : gr_J), h' = gr_h I' J' ∧ gr_Inv I' ∧ gr_fr [68, 69] [57] I I' ∧ gr_fj [68, 69] [57] J J' ∧ r = none ∧ (I' 0 69 = I 0 68) ∧ (I' 0 68 = 0) ∧ (I' 0 68 = 0))) htb rfl (Nat.le_of_ble_eq_true rfl) ?_
  have f1 := (gr_b_0_68 hI)
  have f2 := (gr_b_0_69 hI)
  have L10 : ∀ (n : Nat) (I3 : gr_I) (J4 : gr_J) (v1_5 : Int), (1001 - v1_5).toNat < n → gr_Inv I3 → gr_fr [68, 69] [57] I I3 → gr_fj [68, 69] [57] J J4 → ((0 ≤ v1_5 ∧ v1_5 ≤ 1000) ∧ (I3 0 69 = I 0 68) ∧ (I3 0 68 = I 0 68)) → gv_X (gr_E ws0 tb 0 (yX13_reads, cX13_reads, 2, none) kX13_reads) (gv_Q cX13_reads none (gr_sh ++ ext) (fun r h' => (∃ (I' : gr_I) (J' : gr_J), h' = gr_h I' J' ∧ gr_Inv I' ∧ gr_fr [68, 69] [57] I I' ∧ gr_fj [68, 69] [57] J J' ∧ r = none ∧ (I' 0 69 = I 0 68) ∧ (I' 0 68 = 0) ∧ (I' 0 68 = 0)))) (10, [(0, .inr (.inr (some 0))), (1, .inl v1_5)], [], gr_sh ++ ext, gr_h I3 J4) := by
    intro n
    induction n with
    | zero => intro I3 J4 v1_5 hn; exact gz_m 0 (by omega)
    | succ n ih10 =>
      intro I3 J4 v1_5 hn hI3 FI3 FJ4 m_5
      obtain ⟨hv1_5, e0_5, e1_5⟩ := m_5
      have f6 := (gr_b_0_68 hI3)
      have f7 := (gr_b_0_69 hI3)
      have f8 := (gr_b_0_68 hI3)
      refine gv_run 3 true hD (pc' := 15) (lv' := [(0, .inr (.inr (some 0))), (1, .inl v1_5)]) (st' := [.inl (I3 0 68), .inl v1_5]) (h' := gr_h I3 J4) (C := (((True ∧ True) ∧ True) ∧ True)) rfl ⟨⟨⟨trivial, trivial⟩, trivial⟩, trivial⟩ ?_
      refine gv_icmp_ge (t := 36) hD rfl rfl ⟨⟨by exact gz_m 1 (by omega), by exact gz_m 2 (by omega)⟩, ⟨by exact gz_m 3 (by omega), by exact gz_m 4 (by omega)⟩⟩ (fun c9 => ?_) (fun c9 => ?_)
      · refine gv_run 3 true hD (pc' := 41) (lv' := [(0, .inr (.inr (some 0))), (1, .inl v1_5)]) (st' := []) (h' := gz_up (gr_h I3 J4) 0 68 (.inl 0)) (C := (((True ∧ True) ∧ True) ∧ True)) rfl ⟨⟨⟨trivial, trivial⟩, trivial⟩, trivial⟩ ?_
        refine gr_st hI3 FI3 rfl rfl ⟨⟨by show 0 ≤ _; exact gz_m 5 (by omega), by show _ ≤ 1000; exact gz_m 6 (by omega)⟩, trivial⟩ (fun I10 hI10 FI10 q11 p11 => ?_)
        have t12 := p11 0 69 (by decide)
        have f13 := (gr_b_0_68 hI10)
        have f14 := (gr_b_0_69 hI10)
        exact gv_vret hD rfl ⟨I10, J4, rfl, hI10, FI10, FJ4, ⟨rfl, by exact gz_m 7 (by omega)⟩⟩
      · have f15 := (gr_b_56 hI3 (Int.toNat v1_5))
        refine gv_run 7 true hD (pc' := 29) (lv' := [(0, .inr (.inr (some 0))), (1, .inl v1_5)]) (st' := [.inl (I3 56 (Int.toNat v1_5)), .inl v1_5, .inr (.inr (some 57))]) (h' := gr_h I3 J4) (C := (((((((True ∧ True) ∧ True) ∧ True) ∧ True) ∧ True) ∧ True) ∧ (0 ≤ v1_5 ∧ v1_5 < ((1000 : Nat) : Int)))) rfl ⟨⟨⟨⟨⟨⟨⟨trivial, trivial⟩, trivial⟩, trivial⟩, trivial⟩, trivial⟩, trivial⟩, ⟨by exact gz_m 8 (by omega), by exact gz_m 9 (by omega)⟩⟩ ?_
        have f16 := gw_nar_byte (x := ((I3 56 (Int.toNat v1_5))))
        refine gv_run 1 true hD (pc' := 30) (lv' := [(0, .inr (.inr (some 0))), (1, .inl v1_5)]) (st' := []) (h' := gz_up (gr_h I3 J4) 57 (Int.toNat v1_5) (.inl (((vp_nar .byte (Int32.ofInt ((I3 56 (Int.toNat v1_5))))).toInt)))) (C := (True ∧ (0 ≤ v1_5 ∧ v1_5 < ((1000 : Nat) : Int)))) rfl ⟨trivial, ⟨by exact gz_m 10 (by omega), by exact gz_m 11 (by omega)⟩⟩ ?_
        refine gr_st hI3 FI3 rfl rfl ⟨⟨by show (-128) ≤ _; exact gz_m 12 (by omega), by show _ ≤ 127; exact gz_m 13 (by omega)⟩, trivial⟩ (fun I17 hI17 FI17 q18 p18 => ?_)
        have t19 := p18 0 68 (fun q => absurd q.1 (by decide))
        have t20 := p18 0 69 (fun q => absurd q.1 (by decide))
        have f21 := (gr_b_0_68 hI17)
        have f22 := (gr_b_0_69 hI17)
        refine gv_run 2 true hD (pc' := 10) (lv' := [(1, .inl (v1_5 + 1)), (0, .inr (.inr (some 0)))]) (st' := []) (h' := gr_h I17 J4) (C := ((True ∧ True) ∧ True)) rfl ⟨⟨trivial, trivial⟩, trivial⟩ ?_
        refine gv_pick [1, 0] rfl ?_
        exact ih10 I17 J4 (v1_5 + 1) (by exact gz_m 14 (by omega)) hI17 FI17 FJ4 (by exact gz_m 15 (by omega))
  have f23 := (gr_b_0_68 hI)
  refine gv_run 3 true hD (pc' := 5) (lv' := [(0, .inr (.inr (some 0)))]) (st' := [.inl (I 0 68), .inr (.inr (some 0))]) (h' := gr_h I J) (C := (((True ∧ True) ∧ True) ∧ True)) rfl ⟨⟨⟨trivial, trivial⟩, trivial⟩, trivial⟩ ?_
  refine gv_run 1 true hD (pc' := 8) (lv' := [(0, .inr (.inr (some 0)))]) (st' := []) (h' := gz_up (gr_h I J) 0 69 (.inl (I 0 68))) (C := (True ∧ True)) rfl ⟨trivial, trivial⟩ ?_
  refine gr_st hI FI rfl rfl ⟨⟨by show 0 ≤ _; exact gz_m 16 (by omega), by show _ ≤ 1000; exact gz_m 17 (by omega)⟩, trivial⟩ (fun I24 hI24 FI24 q25 p25 => ?_)
  have t26 := p25 0 68 (by decide)
  have f27 := (gr_b_0_68 hI24)
  have f28 := (gr_b_0_69 hI24)
  refine gv_run 2 true hD (pc' := 10) (lv' := [(1, .inl 0), (0, .inr (.inr (some 0)))]) (st' := []) (h' := gr_h I24 J) (C := ((True ∧ True) ∧ True)) rfl ⟨⟨trivial, trivial⟩, trivial⟩ ?_
  refine gv_pick [1, 0] rfl ?_
  exact L10 _ I24 J 0 (Nat.lt_succ_self _) hI24 FI24 FJ (by exact gz_m 18 (by omega))
set_option maxHeartbeats 8000000 in
set_option maxRecDepth 100000 in
theorem r_sentence_t {ws0 : List Cond} {tb : String → gz_T} (hws : ∀ w ∈ gr_ws, w ∈ ws0) (htb : tb RX13 = gr_T) (ext : gz_Sh) (I : gr_I) (J : gr_J) (hI : gr_Inv I)    : ∃ r h', gz_Ev ws0 tb 2 (yX13_sentence, cX13_sentence, 3, (some .boolean)) [.inr (.inr (some 0))] (gr_sh ++ ext) (gr_h I J) r (gr_sh ++ ext) h' 0 0 ∧ (∃ (I' : gr_I) (J' : gr_J), h' = gr_h I' J' ∧ gr_Inv I' ∧ gr_fr [68, 69, 143] [57, 83, 85] I I' ∧ gr_fj [68, 69, 143] [57, 83, 85] J J' ∧ (∃ z : Int, r = some (.inl z) ∧ 0 ≤ z ∧ z ≤ 1 ∧ (I' 0 68 = 0))) := by
  have FI : gr_fr [68, 69, 143] [57, 83, 85] I I := fun _ _ _ => rfl
  have FJ : gr_fj [68, 69, 143] [57, 83, 85] J J := fun _ _ _ => rfl
  have hD : gv_D (gr_E ws0 tb 1 (yX13_sentence, cX13_sentence, 3, (some .boolean)) kX13_sentence) := gq_of oX13_sentence
  refine gr_ev (d := 1) (l := kX13_sentence) (Po := fun r h' => (∃ (I' : gr_I) (J' : gr_J), h' = gr_h I' J' ∧ gr_Inv I' ∧ gr_fr [68, 69, 143] [57, 83, 85] I I' ∧ gr_fj [68, 69, 143] [57, 83, 85] J J' ∧ (∃ z : Int, r = some (.inl z) ∧ 0 ≤ z ∧ z ≤ 1 ∧ (I' 0 68 = 0)))) htb rfl (Nat.le_of_ble_eq_true rfl) ?_
  have f1 := (gr_b_0_143 hI)
  have f2 := (gr_b_0_69 hI)
  have f3 := (gr_b_0_68 hI)
  have L11 : ∀ (n : Nat) (I4 : gr_I) (J5 : gr_J) (v1_6 : Int), (1001 - v1_6).toNat < n → gr_Inv I4 → gr_fr [68, 69, 143] [57, 83, 85] I I4 → gr_fj [68, 69, 143] [57, 83, 85] J J5 → ((0 ≤ v1_6 ∧ v1_6 ≤ 1000) ∧ (I4 0 68 = 0)) → gv_X (gr_E ws0 tb 1 (yX13_sentence, cX13_sentence, 3, (some .boolean)) kX13_sentence) (gv_Q cX13_sentence (some .boolean) (gr_sh ++ ext) (fun r h' => (∃ (I' : gr_I) (J' : gr_J), h' = gr_h I' J' ∧ gr_Inv I' ∧ gr_fr [68, 69, 143] [57, 83, 85] I I' ∧ gr_fj [68, 69, 143] [57, 83, 85] J J' ∧ (∃ z : Int, r = some (.inl z) ∧ 0 ≤ z ∧ z ≤ 1 ∧ (I' 0 68 = 0))))) (11, [(0, .inr (.inr (some 0))), (1, .inl v1_6)], [], gr_sh ++ ext, gr_h I4 J5) := by
    intro n
    induction n with
    | zero => intro I4 J5 v1_6 hn; exact gz_m 0 (by omega)
    | succ n ih11 =>
      intro I4 J5 v1_6 hn hI4 FI4 FJ5 m_6
      obtain ⟨hv1_6, e0_6⟩ := m_6
      have f7 := (gr_b_0_143 hI4)
      have f8 := (gr_b_0_69 hI4)
      have f9 := (gr_b_0_68 hI4)
      have L36 : ((0 ≤ v1_6 ∧ v1_6 ≤ 1000) ∧ (v1_6 ≤ v1_6) ∧ (I4 0 68 = 0)) → gv_X (gr_E ws0 tb 1 (yX13_sentence, cX13_sentence, 3, (some .boolean)) kX13_sentence) (gv_Q cX13_sentence (some .boolean) (gr_sh ++ ext) (fun r h' => (∃ (I' : gr_I) (J' : gr_J), h' = gr_h I' J' ∧ gr_Inv I' ∧ gr_fr [68, 69, 143] [57, 83, 85] I I' ∧ gr_fj [68, 69, 143] [57, 83, 85] J J' ∧ (∃ z : Int, r = some (.inl z) ∧ 0 ≤ z ∧ z ≤ 1 ∧ (I' 0 68 = 0))))) (36, [(0, .inr (.inr (some 0))), (1, .inl v1_6)], [], gr_sh ++ ext, gr_h I4 J5) := by
        intro m_10
        obtain ⟨hv1_6_10, e0_10, e1_10⟩ := m_10
        have f11 := (gr_b_0_143 hI4)
        have f12 := (gr_b_0_69 hI4)
        have f13 := (gr_b_0_68 hI4)
        have L56 : ∀ (s0_14 : Int), ((0 ≤ s0_14 ∧ s0_14 ≤ 1) ∧ (I4 0 68 = 0)) → gv_X (gr_E ws0 tb 1 (yX13_sentence, cX13_sentence, 3, (some .boolean)) kX13_sentence) (gv_Q cX13_sentence (some .boolean) (gr_sh ++ ext) (fun r h' => (∃ (I' : gr_I) (J' : gr_J), h' = gr_h I' J' ∧ gr_Inv I' ∧ gr_fr [68, 69, 143] [57, 83, 85] I I' ∧ gr_fj [68, 69, 143] [57, 83, 85] J J' ∧ (∃ z : Int, r = some (.inl z) ∧ 0 ≤ z ∧ z ≤ 1 ∧ (I' 0 68 = 0))))) (56, [], [.inl s0_14], gr_sh ++ ext, gr_h I4 J5) := by
          intro s0_14 m_14
          obtain ⟨hs0_14, e0_14⟩ := m_14
          have f15 := (gr_b_0_143 hI4)
          have f16 := (gr_b_0_69 hI4)
          have f17 := (gr_b_0_68 hI4)
          exact gv_zret hD rfl (by exact gz_m 1 (by omega)) ⟨I4, J5, rfl, hI4, FI4, FJ5, ⟨_, rfl, by exact gz_m 2 (by omega)⟩⟩
        have L70 : ∀ (n : Nat) (I18 : gr_I) (J19 : gr_J) (v1_20 : Int) (v2_20 : Int), (1001 - v1_20).toNat < n → gr_Inv I18 → gr_fr [68, 69, 143] [57, 83, 85] I I18 → gr_fj [68, 69, 143] [57, 83, 85] J J19 → ((0 ≤ v1_20 ∧ v1_20 ≤ 1000) ∧ (0 ≤ v2_20 ∧ v2_20 ≤ 24) ∧ (I18 0 143 ≤ 23) ∧ (v1_6 + v2_20 ≤ v1_20) ∧ (I18 0 68 = 0)) → gv_X (gr_E ws0 tb 1 (yX13_sentence, cX13_sentence, 3, (some .boolean)) kX13_sentence) (gv_Q cX13_sentence (some .boolean) (gr_sh ++ ext) (fun r h' => (∃ (I' : gr_I) (J' : gr_J), h' = gr_h I' J' ∧ gr_Inv I' ∧ gr_fr [68, 69, 143] [57, 83, 85] I I' ∧ gr_fj [68, 69, 143] [57, 83, 85] J J' ∧ (∃ z : Int, r = some (.inl z) ∧ 0 ≤ z ∧ z ≤ 1 ∧ (I' 0 68 = 0))))) (70, [(0, .inr (.inr (some 0))), (1, .inl v1_20), (2, .inl v2_20)], [], gr_sh ++ ext, gr_h I18 J19) := by
          intro n
          induction n with
          | zero => intro I18 J19 v1_20 v2_20 hn; exact gz_m 3 (by omega)
          | succ n ih70 =>
            intro I18 J19 v1_20 v2_20 hn hI18 FI18 FJ19 m_20
            clear hv1_6_10 e0_10 e1_10 f11 f12 f13 hv1_6 e0_6 f7 f8 f9
            obtain ⟨hv1_20, hv2_20, e0_20, e1_20, e2_20⟩ := m_20
            have f21 := (gr_b_0_143 hI18)
            have f22 := (gr_b_0_69 hI18)
            have f23 := (gr_b_0_68 hI18)
            have L138 : ((I18 0 68 = 0)) → gv_X (gr_E ws0 tb 1 (yX13_sentence, cX13_sentence, 3, (some .boolean)) kX13_sentence) (gv_Q cX13_sentence (some .boolean) (gr_sh ++ ext) (fun r h' => (∃ (I' : gr_I) (J' : gr_J), h' = gr_h I' J' ∧ gr_Inv I' ∧ gr_fr [68, 69, 143] [57, 83, 85] I I' ∧ gr_fj [68, 69, 143] [57, 83, 85] J J' ∧ (∃ z : Int, r = some (.inl z) ∧ 0 ≤ z ∧ z ≤ 1 ∧ (I' 0 68 = 0))))) (138, [], [], gr_sh ++ ext, gr_h I18 J19) := by
              intro m_24
              have e0_24 := m_24
              have f25 := (gr_b_0_143 hI18)
              have f26 := (gr_b_0_69 hI18)
              have f27 := (gr_b_0_68 hI18)
              refine gv_run 1 true hD (pc' := 139) (lv' := []) (st' := [.inl 0]) (h' := gr_h I18 J19) (C := (True ∧ True)) rfl ⟨trivial, trivial⟩ ?_
              exact gv_zret hD rfl (by exact gz_m 4 (by omega)) ⟨I18, J19, rfl, hI18, FI18, FJ19, ⟨_, rfl, by exact gz_m 5 (by omega)⟩⟩
            have L140 : ((0 ≤ v1_20 ∧ v1_20 ≤ 1000) ∧ (1 ≤ v2_20 ∧ v2_20 ≤ 24) ∧ (I18 0 143 ≤ 23) ∧ (v1_6 + v2_20 ≤ v1_20) ∧ (I18 0 68 = 0)) → gv_X (gr_E ws0 tb 1 (yX13_sentence, cX13_sentence, 3, (some .boolean)) kX13_sentence) (gv_Q cX13_sentence (some .boolean) (gr_sh ++ ext) (fun r h' => (∃ (I' : gr_I) (J' : gr_J), h' = gr_h I' J' ∧ gr_Inv I' ∧ gr_fr [68, 69, 143] [57, 83, 85] I I' ∧ gr_fj [68, 69, 143] [57, 83, 85] J J' ∧ (∃ z : Int, r = some (.inl z) ∧ 0 ≤ z ∧ z ≤ 1 ∧ (I' 0 68 = 0))))) (140, [(0, .inr (.inr (some 0))), (1, .inl v1_20), (2, .inl v2_20)], [], gr_sh ++ ext, gr_h I18 J19) := by
              intro m_28
              obtain ⟨hv1_20_28, hv2_20_28, e0_28, e1_28, e2_28⟩ := m_28
              have f29 := (gr_b_0_143 hI18)
              have f30 := (gr_b_0_69 hI18)
              have f31 := (gr_b_0_68 hI18)
              have f32 := (gr_b_0_143 hI18)
              refine gv_run 7 true hD (pc' := 151) (lv' := [(0, .inr (.inr (some 0))), (1, .inl v1_20), (2, .inl v2_20)]) (st' := [.inl 1, .inl (I18 0 143), .inr (.inr (some 0)), .inl (I18 0 143), .inr (.inr (some 85))]) (h' := gr_h I18 J19) (C := (((((((True ∧ True) ∧ True) ∧ True) ∧ True) ∧ True) ∧ True) ∧ True)) rfl ⟨⟨⟨⟨⟨⟨⟨trivial, trivial⟩, trivial⟩, trivial⟩, trivial⟩, trivial⟩, trivial⟩, trivial⟩ ?_
              refine gv_run 2 true hD (pc' := 155) (lv' := [(0, .inr (.inr (some 0))), (1, .inl v1_20), (2, .inl v2_20)]) (st' := [.inl (I18 0 143), .inr (.inr (some 85))]) (h' := gz_up (gr_h I18 J19) 0 143 (.inl (((I18 0 143) + 1)))) (C := ((True ∧ True) ∧ True)) rfl ⟨⟨trivial, trivial⟩, trivial⟩ ?_
              refine gr_st hI18 FI18 rfl rfl ⟨⟨by show 0 ≤ _; exact gz_m 6 (by omega), by show _ ≤ 24; exact gz_m 7 (by omega)⟩, trivial⟩ (fun I33 hI33 FI33 q34 p34 => ?_)
              have t35 := p34 0 69 (by decide)
              have t36 := p34 0 68 (by decide)
              have f37 := (gr_b_0_143 hI33)
              have f38 := (gr_b_0_69 hI33)
              have f39 := (gr_b_0_68 hI33)
              refine gv_run 2 true hD (pc' := 157) (lv' := [(0, .inr (.inr (some 0))), (1, .inl v1_20), (2, .inl v2_20)]) (st' := []) (h' := gz_up (gr_h I33 J19) 85 (Int.toNat ((I18 0 143))) (.inl v2_20)) (C := ((True ∧ True) ∧ (0 ≤ (I18 0 143) ∧ (I18 0 143) < ((24 : Nat) : Int)))) rfl ⟨⟨trivial, trivial⟩, ⟨by exact gz_m 8 (by omega), by exact gz_m 9 (by omega)⟩⟩ ?_
              refine gr_st hI33 FI33 rfl rfl ⟨⟨by show 0 ≤ _; exact gz_m 10 (by omega), by show _ ≤ 24; exact gz_m 11 (by omega)⟩, trivial⟩ (fun I40 hI40 FI40 q41 p41 => ?_)
              have t42 := p41 0 143 (fun q => absurd q.1 (by decide))
              have t43 := p41 0 69 (fun q => absurd q.1 (by decide))
              have t44 := p41 0 68 (fun q => absurd q.1 (by decide))
              have f45 := (gr_b_0_143 hI40)
              have f46 := (gr_b_0_69 hI40)
              have f47 := (gr_b_0_68 hI40)
              refine gv_run 1 true hD (pc' := 11) (lv' := [(0, .inr (.inr (some 0))), (1, .inl v1_20), (2, .inl v2_20)]) (st' := []) (h' := gr_h I40 J19) (C := (True ∧ True)) rfl ⟨trivial, trivial⟩ ?_
              refine gv_pick [0, 1] rfl ?_
              exact ih11 I40 J19 v1_20 (by exact gz_m 12 (by omega)) hI40 FI40 FJ19 (by exact gz_m 13 (by omega))
            refine gv_run 2 true hD (pc' := 72) (lv' := [(0, .inr (.inr (some 0))), (1, .inl v1_20), (2, .inl v2_20)]) (st' := [.inl v1_20, .inr (.inr (some 0))]) (h' := gr_h I18 J19) (C := ((True ∧ True) ∧ True)) rfl ⟨⟨trivial, trivial⟩, trivial⟩ ?_
            obtain ⟨r48, h48, E48, P48⟩ := r_low (ws0 := ws0) (tb := tb) hws htb ext I18 J19 hI18 v1_20 ⟨by exact gz_m 14 (by omega), by exact gz_m 15 (by omega)⟩ 
            obtain ⟨rfl, ⟨z48, rfl, q48⟩⟩ := P48
            refine gv_callV hD rfl (As := [.inl v1_20]) (st := []) rfl (by decide) rfl rfl (gr_lV hws rfl) (Nat.le_of_ble_eq_true rfl) (gz_Ev_mono (d := 1) (by decide) E48) ?_
            show gv_X _ _ (75, [(0, .inr (.inr (some 0))), (1, .inl v1_20), (2, .inl v2_20)], [.inl z48], gr_sh ++ ext, gr_h I18 J19)
            refine gv_if_eq (t := 115) hD rfl rfl ⟨by exact gz_m 16 (by omega), by exact gz_m 17 (by omega)⟩ (fun c49 => ?_) (fun c49 => ?_)
            · refine gv_run 1 true hD (pc' := 116) (lv' := [(0, .inr (.inr (some 0))), (1, .inl v1_20), (2, .inl v2_20)]) (st' := [.inl v2_20]) (h' := gr_h I18 J19) (C := (True ∧ True)) rfl ⟨trivial, trivial⟩ ?_
              refine gv_if_eq (t := 138) hD rfl rfl ⟨by exact gz_m 18 (by omega), by exact gz_m 19 (by omega)⟩ (fun c50 => ?_) (fun c50 => ?_)
              · refine gv_pick [] rfl ?_
                exact L138 (by exact gz_m 20 (by omega))
              · have f51 := (gr_b_0_69 hI18)
                refine gv_run 3 true hD (pc' := 124) (lv' := [(0, .inr (.inr (some 0))), (1, .inl v1_20), (2, .inl v2_20)]) (st' := [.inl (I18 0 69), .inl v1_20]) (h' := gr_h I18 J19) (C := (((True ∧ True) ∧ True) ∧ True)) rfl ⟨⟨⟨trivial, trivial⟩, trivial⟩, trivial⟩ ?_
                refine gv_icmp_ge (t := 140) hD rfl rfl ⟨⟨by exact gz_m 21 (by omega), by exact gz_m 22 (by omega)⟩, ⟨by exact gz_m 23 (by omega), by exact gz_m 24 (by omega)⟩⟩ (fun c52 => ?_) (fun c52 => ?_)
                · exact L140 (by exact gz_m 25 (by omega))
                · have f53 := (gr_b_57 hI18 (Int.toNat v1_20))
                  refine gv_run 4 true hD (pc' := 133) (lv' := [(0, .inr (.inr (some 0))), (1, .inl v1_20), (2, .inl v2_20)]) (st' := [.inl (I18 57 (Int.toNat v1_20))]) (h' := gr_h I18 J19) (C := ((((True ∧ True) ∧ True) ∧ True) ∧ (0 ≤ v1_20 ∧ v1_20 < ((1000 : Nat) : Int)))) rfl ⟨⟨⟨⟨trivial, trivial⟩, trivial⟩, trivial⟩, ⟨by exact gz_m 26 (by omega), by exact gz_m 27 (by omega)⟩⟩ ?_
                  refine gv_run 1 true hD (pc' := 135) (lv' := [(0, .inr (.inr (some 0))), (1, .inl v1_20), (2, .inl v2_20)]) (st' := [.inl 32, .inl (I18 57 (Int.toNat v1_20))]) (h' := gr_h I18 J19) (C := (True ∧ True)) rfl ⟨trivial, trivial⟩ ?_
                  refine gv_icmp_eq (t := 140) hD rfl rfl ⟨⟨by exact gz_m 28 (by omega), by exact gz_m 29 (by omega)⟩, ⟨by exact gz_m 30 (by omega), by exact gz_m 31 (by omega)⟩⟩ (fun c54 => ?_) (fun c54 => ?_)
                  · exact L140 (by exact gz_m 32 (by omega))
                  · refine gv_pick [] rfl ?_
                    exact L138 (by exact gz_m 33 (by omega))
            · refine gv_run 2 true hD (pc' := 81) (lv' := [(0, .inr (.inr (some 0))), (1, .inl v1_20), (2, .inl v2_20)]) (st' := [.inl 24, .inl v2_20]) (h' := gr_h I18 J19) (C := ((True ∧ True) ∧ True)) rfl ⟨⟨trivial, trivial⟩, trivial⟩ ?_
              refine gv_icmp_ne (t := 86) hD rfl rfl ⟨⟨by exact gz_m 34 (by omega), by exact gz_m 35 (by omega)⟩, ⟨by exact gz_m 36 (by omega), by exact gz_m 37 (by omega)⟩⟩ (fun c55 => ?_) (fun c55 => ?_)
              · have f56 := (gr_b_0_143 hI18)
                refine gv_run 7 true hD (pc' := 98) (lv' := [(0, .inr (.inr (some 0))), (1, .inl v1_20), (2, .inl v2_20)]) (st' := [.inl v2_20, .inl (24 * (I18 0 143)), .inr (.inr (some 83))]) (h' := gr_h I18 J19) (C := (((((((True ∧ True) ∧ True) ∧ True) ∧ True) ∧ True) ∧ True) ∧ True)) rfl ⟨⟨⟨⟨⟨⟨⟨trivial, trivial⟩, trivial⟩, trivial⟩, trivial⟩, trivial⟩, trivial⟩, trivial⟩ ?_
                have f57 := (gr_b_57 hI18 (Int.toNat v1_20))
                refine gv_run 7 true hD (pc' := 111) (lv' := [(1, .inl (v1_20 + 1)), (2, .inl (v2_20 + 1)), (0, .inr (.inr (some 0)))]) (st' := [.inl (I18 57 (Int.toNat v1_20)), .inl ((24 * (I18 0 143)) + v2_20), .inr (.inr (some 83))]) (h' := gr_h I18 J19) (C := (((((((True ∧ True) ∧ True) ∧ True) ∧ True) ∧ True) ∧ True) ∧ (0 ≤ v1_20 ∧ v1_20 < ((1000 : Nat) : Int)))) rfl ⟨⟨⟨⟨⟨⟨⟨trivial, trivial⟩, trivial⟩, trivial⟩, trivial⟩, trivial⟩, trivial⟩, ⟨by exact gz_m 38 (by omega), by exact gz_m 39 (by omega)⟩⟩ ?_
                have f58 := gw_nar_byte (x := ((I18 57 (Int.toNat v1_20))))
                refine gv_run 1 true hD (pc' := 112) (lv' := [(1, .inl (v1_20 + 1)), (2, .inl (v2_20 + 1)), (0, .inr (.inr (some 0)))]) (st' := []) (h' := gz_up (gr_h I18 J19) 83 (Int.toNat (((24 * (I18 0 143)) + v2_20))) (.inl (((vp_nar .byte (Int32.ofInt ((I18 57 (Int.toNat v1_20))))).toInt)))) (C := (True ∧ (0 ≤ (((24 * (I18 0 143)) + v2_20)) ∧ (((24 * (I18 0 143)) + v2_20)) < ((576 : Nat) : Int)))) rfl ⟨trivial, ⟨by exact gz_m 40 (by omega), by exact gz_m 41 (by omega)⟩⟩ ?_
                refine gr_st hI18 FI18 rfl rfl ⟨⟨by show (-128) ≤ _; exact gz_m 42 (by omega), by show _ ≤ 127; exact gz_m 43 (by omega)⟩, trivial⟩ (fun I59 hI59 FI59 q60 p60 => ?_)
                have t61 := p60 0 143 (fun q => absurd q.1 (by decide))
                have t62 := p60 0 69 (fun q => absurd q.1 (by decide))
                have t63 := p60 0 68 (fun q => absurd q.1 (by decide))
                have f64 := (gr_b_0_143 hI59)
                have f65 := (gr_b_0_69 hI59)
                have f66 := (gr_b_0_68 hI59)
                refine gv_run 1 true hD (pc' := 70) (lv' := [(1, .inl (v1_20 + 1)), (2, .inl (v2_20 + 1)), (0, .inr (.inr (some 0)))]) (st' := []) (h' := gr_h I59 J19) (C := (True ∧ True)) rfl ⟨trivial, trivial⟩ ?_
                refine gv_pick [2, 0, 1] rfl ?_
                exact ih70 I59 J19 (v1_20 + 1) (v2_20 + 1) (by exact gz_m 44 (by omega)) hI59 FI59 FJ19 (by exact gz_m 45 (by omega))
              · refine gv_run 1 true hD (pc' := 85) (lv' := [(0, .inr (.inr (some 0))), (1, .inl v1_20), (2, .inl v2_20)]) (st' := [.inl 0]) (h' := gr_h I18 J19) (C := (True ∧ True)) rfl ⟨trivial, trivial⟩ ?_
                exact gv_zret hD rfl (by exact gz_m 46 (by omega)) ⟨I18, J19, rfl, hI18, FI18, FJ19, ⟨_, rfl, by exact gz_m 47 (by omega)⟩⟩
        have f67 := (gr_b_0_69 hI4)
        refine gv_run 3 true hD (pc' := 41) (lv' := [(0, .inr (.inr (some 0))), (1, .inl v1_6)]) (st' := [.inl (I4 0 69), .inl v1_6]) (h' := gr_h I4 J5) (C := (((True ∧ True) ∧ True) ∧ True)) rfl ⟨⟨⟨trivial, trivial⟩, trivial⟩, trivial⟩ ?_
        refine gv_icmp_ne (t := 57) hD rfl rfl ⟨⟨by exact gz_m 48 (by omega), by exact gz_m 49 (by omega)⟩, ⟨by exact gz_m 50 (by omega), by exact gz_m 51 (by omega)⟩⟩ (fun c68 => ?_) (fun c68 => ?_)
        · have f69 := (gr_b_0_143 hI4)
          refine gv_run 3 true hD (pc' := 63) (lv' := [(0, .inr (.inr (some 0))), (1, .inl v1_6)]) (st' := [.inl 24, .inl (I4 0 143)]) (h' := gr_h I4 J5) (C := (((True ∧ True) ∧ True) ∧ True)) rfl ⟨⟨⟨trivial, trivial⟩, trivial⟩, trivial⟩ ?_
          refine gv_icmp_ne (t := 68) hD rfl rfl ⟨⟨by exact gz_m 52 (by omega), by exact gz_m 53 (by omega)⟩, ⟨by exact gz_m 54 (by omega), by exact gz_m 55 (by omega)⟩⟩ (fun c70 => ?_) (fun c70 => ?_)
          · refine gv_run 2 true hD (pc' := 70) (lv' := [(2, .inl 0), (0, .inr (.inr (some 0))), (1, .inl v1_6)]) (st' := []) (h' := gr_h I4 J5) (C := ((True ∧ True) ∧ True)) rfl ⟨⟨trivial, trivial⟩, trivial⟩ ?_
            refine gv_pick [1, 2, 0] rfl ?_
            exact L70 _ I4 J5 v1_6 0 (Nat.lt_succ_self _) hI4 FI4 FJ5 (by exact gz_m 56 (by omega))
          · refine gv_run 1 true hD (pc' := 67) (lv' := [(0, .inr (.inr (some 0))), (1, .inl v1_6)]) (st' := [.inl 0]) (h' := gr_h I4 J5) (C := (True ∧ True)) rfl ⟨trivial, trivial⟩ ?_
            exact gv_zret hD rfl (by exact gz_m 57 (by omega)) ⟨I4, J5, rfl, hI4, FI4, FJ5, ⟨_, rfl, by exact gz_m 58 (by omega)⟩⟩
        · have f71 := (gr_b_0_143 hI4)
          refine gv_run 2 true hD (pc' := 48) (lv' := [(0, .inr (.inr (some 0))), (1, .inl v1_6)]) (st' := [.inl (I4 0 143)]) (h' := gr_h I4 J5) (C := ((True ∧ True) ∧ True)) rfl ⟨⟨trivial, trivial⟩, trivial⟩ ?_
          refine gv_if_le (t := 55) hD rfl rfl ⟨by exact gz_m 59 (by omega), by exact gz_m 60 (by omega)⟩ (fun c72 => ?_) (fun c72 => ?_)
          · refine gv_run 1 true hD (pc' := 56) (lv' := [(0, .inr (.inr (some 0))), (1, .inl v1_6)]) (st' := [.inl 0]) (h' := gr_h I4 J5) (C := (True ∧ True)) rfl ⟨trivial, trivial⟩ ?_
            refine gv_pick [] rfl ?_
            exact L56 0 (by exact gz_m 61 (by omega))
          · refine gv_run 2 true hD (pc' := 56) (lv' := [(0, .inr (.inr (some 0))), (1, .inl v1_6)]) (st' := [.inl 1]) (h' := gr_h I4 J5) (C := ((True ∧ True) ∧ True)) rfl ⟨⟨trivial, trivial⟩, trivial⟩ ?_
            refine gv_pick [] rfl ?_
            exact L56 1 (by exact gz_m 62 (by omega))
      have f73 := (gr_b_0_69 hI4)
      refine gv_run 3 true hD (pc' := 16) (lv' := [(0, .inr (.inr (some 0))), (1, .inl v1_6)]) (st' := [.inl (I4 0 69), .inl v1_6]) (h' := gr_h I4 J5) (C := (((True ∧ True) ∧ True) ∧ True)) rfl ⟨⟨⟨trivial, trivial⟩, trivial⟩, trivial⟩ ?_
      refine gv_icmp_ge (t := 36) hD rfl rfl ⟨⟨by exact gz_m 63 (by omega), by exact gz_m 64 (by omega)⟩, ⟨by exact gz_m 65 (by omega), by exact gz_m 66 (by omega)⟩⟩ (fun c74 => ?_) (fun c74 => ?_)
      · exact L36 (by exact gz_m 67 (by omega))
      · have f75 := (gr_b_57 hI4 (Int.toNat v1_6))
        refine gv_run 4 true hD (pc' := 25) (lv' := [(0, .inr (.inr (some 0))), (1, .inl v1_6)]) (st' := [.inl (I4 57 (Int.toNat v1_6))]) (h' := gr_h I4 J5) (C := ((((True ∧ True) ∧ True) ∧ True) ∧ (0 ≤ v1_6 ∧ v1_6 < ((1000 : Nat) : Int)))) rfl ⟨⟨⟨⟨trivial, trivial⟩, trivial⟩, trivial⟩, ⟨by exact gz_m 68 (by omega), by exact gz_m 69 (by omega)⟩⟩ ?_
        refine gv_run 1 true hD (pc' := 27) (lv' := [(0, .inr (.inr (some 0))), (1, .inl v1_6)]) (st' := [.inl 32, .inl (I4 57 (Int.toNat v1_6))]) (h' := gr_h I4 J5) (C := (True ∧ True)) rfl ⟨trivial, trivial⟩ ?_
        refine gv_icmp_ne (t := 36) hD rfl rfl ⟨⟨by exact gz_m 70 (by omega), by exact gz_m 71 (by omega)⟩, ⟨by exact gz_m 72 (by omega), by exact gz_m 73 (by omega)⟩⟩ (fun c76 => ?_) (fun c76 => ?_)
        · exact L36 (by exact gz_m 74 (by omega))
        · refine gv_run 2 true hD (pc' := 11) (lv' := [(1, .inl (v1_6 + 1)), (0, .inr (.inr (some 0)))]) (st' := []) (h' := gr_h I4 J5) (C := ((True ∧ True) ∧ True)) rfl ⟨⟨trivial, trivial⟩, trivial⟩ ?_
          refine gv_pick [1, 0] rfl ?_
          exact ih11 I4 J5 (v1_6 + 1) (by exact gz_m 75 (by omega)) hI4 FI4 FJ5 (by exact gz_m 76 (by omega))
  refine gv_run 1 true hD (pc' := 1) (lv' := [(0, .inr (.inr (some 0)))]) (st' := [.inr (.inr (some 0))]) (h' := gr_h I J) (C := (True ∧ True)) rfl ⟨trivial, trivial⟩ ?_
  obtain ⟨r77, h77, E77, P77⟩ := r_reads_t (ws0 := ws0) (tb := tb) hws htb ext I J hI   
  obtain ⟨I78, J79, rfl, hI78, g77, k77, ⟨rfl, q77⟩⟩ := P77
  have FI78 := gr_frt FI g77 rfl rfl
  have FJ79 := gr_fjt FJ k77 rfl rfl
  have t80 := g77 0 143 rfl
  have f81 := (gr_b_0_143 hI78)
  have f82 := (gr_b_0_69 hI78)
  have f83 := (gr_b_0_68 hI78)
  refine gv_callV hD rfl (As := []) (st := []) rfl (by decide) rfl rfl (gr_lV hws rfl) (Nat.le_of_ble_eq_true rfl) (gz_Ev_mono (d := 1) (by decide) E77) ?_
  show gv_X _ _ (4, [(0, .inr (.inr (some 0)))], [], gr_sh ++ ext, gr_h I78 J79)
  refine gv_run 3 true hD (pc' := 9) (lv' := [(0, .inr (.inr (some 0)))]) (st' := []) (h' := gz_up (gr_h I78 J79) 0 143 (.inl 0)) (C := (((True ∧ True) ∧ True) ∧ True)) rfl ⟨⟨⟨trivial, trivial⟩, trivial⟩, trivial⟩ ?_
  refine gr_st hI78 FI78 rfl rfl ⟨⟨by show 0 ≤ _; exact gz_m 77 (by omega), by show _ ≤ 24; exact gz_m 78 (by omega)⟩, trivial⟩ (fun I84 hI84 FI84 q85 p85 => ?_)
  have t86 := p85 0 69 (by decide)
  have t87 := p85 0 68 (by decide)
  have f88 := (gr_b_0_143 hI84)
  have f89 := (gr_b_0_69 hI84)
  have f90 := (gr_b_0_68 hI84)
  refine gv_run 2 true hD (pc' := 11) (lv' := [(1, .inl 0), (0, .inr (.inr (some 0)))]) (st' := []) (h' := gr_h I84 J79) (C := ((True ∧ True) ∧ True)) rfl ⟨⟨trivial, trivial⟩, trivial⟩ ?_
  refine gv_pick [1, 0] rfl ?_
  exact L11 _ I84 J79 0 (Nat.lt_succ_self _) hI84 FI84 FJ79 (by exact gz_m 79 (by omega))
set_option maxHeartbeats 8000000 in
set_option maxRecDepth 100000 in
theorem r_end_t {ws0 : List Cond} {tb : String → gz_T} (hws : ∀ w ∈ gr_ws, w ∈ ws0) (htb : tb RX13 = gr_T) (ext : gz_Sh) (I : gr_I) (J : gr_J) (hI : gr_Inv I) (a1 : Int) (ha1 : (-2147483648) ≤ a1 ∧ a1 ≤ 2147483647)  : ∃ r h', gz_Ev ws0 tb 2 (yX13_end, cX13_end, 2, (some .int)) [.inr (.inr (some 0)), .inl a1] (gr_sh ++ ext) (gr_h I J) r (gr_sh ++ ext) h' 0 0 ∧ (∃ (I' : gr_I) (J' : gr_J), h' = gr_h I' J' ∧ gr_Inv I' ∧ gr_fr [0, 68] [] I I' ∧ gr_fj [0, 68] [] J J' ∧ (∃ z : Int, r = some (.inl z) ∧ 0 ≤ z ∧ z ≤ 1000 ∧ (((0 ≤ a1 ∧ a1 ≤ I 0 68) ∧ I' 0 68 = a1 ∧ z = a1 ∧ I' 0 0 = 0) ∨ (¬ (0 ≤ a1 ∧ a1 ≤ I 0 68) ∧ I' 0 68 = I 0 68 ∧ I' 0 0 = 1)))) := by
  have FI : gr_fr [0, 68] [] I I := fun _ _ _ => rfl
  have FJ : gr_fj [0, 68] [] J J := fun _ _ _ => rfl
  have hD : gv_D (gr_E ws0 tb 1 (yX13_end, cX13_end, 2, (some .int)) kX13_end) := gq_of oX13_end
  refine gr_ev (d := 1) (l := kX13_end) (Po := fun r h' => (∃ (I' : gr_I) (J' : gr_J), h' = gr_h I' J' ∧ gr_Inv I' ∧ gr_fr [0, 68] [] I I' ∧ gr_fj [0, 68] [] J J' ∧ (∃ z : Int, r = some (.inl z) ∧ 0 ≤ z ∧ z ≤ 1000 ∧ (((0 ≤ a1 ∧ a1 ≤ I 0 68) ∧ I' 0 68 = a1 ∧ z = a1 ∧ I' 0 0 = 0) ∨ (¬ (0 ≤ a1 ∧ a1 ≤ I 0 68) ∧ I' 0 68 = I 0 68 ∧ I' 0 0 = 1))))) htb rfl (Nat.le_of_ble_eq_true rfl) ?_
  have f1 := (gr_b_0_68 hI)
  have f2 := (gr_b_0_0 hI)
  have L17 : ∀ (I3 : gr_I) (J4 : gr_J) , gr_Inv I3 → gr_fr [0, 68] [] I I3 → gr_fj [0, 68] [] J J4 → ((¬ (0 ≤ a1 ∧ a1 ≤ I 0 68)) ∧ (I3 0 68 = I 0 68)) → gv_X (gr_E ws0 tb 1 (yX13_end, cX13_end, 2, (some .int)) kX13_end) (gv_Q cX13_end (some .int) (gr_sh ++ ext) (fun r h' => (∃ (I' : gr_I) (J' : gr_J), h' = gr_h I' J' ∧ gr_Inv I' ∧ gr_fr [0, 68] [] I I' ∧ gr_fj [0, 68] [] J J' ∧ (∃ z : Int, r = some (.inl z) ∧ 0 ≤ z ∧ z ≤ 1000 ∧ (((0 ≤ a1 ∧ a1 ≤ I 0 68) ∧ I' 0 68 = a1 ∧ z = a1 ∧ I' 0 0 = 0) ∨ (¬ (0 ≤ a1 ∧ a1 ≤ I 0 68) ∧ I' 0 68 = I 0 68 ∧ I' 0 0 = 1)))))) (17, [(0, .inr (.inr (some 0)))], [], gr_sh ++ ext, gr_h I3 J4) := by
    intro I3 J4 hI3 FI3 FJ4 m_5
    obtain ⟨e0_5, e1_5⟩ := m_5
    have f6 := (gr_b_0_68 hI3)
    have f7 := (gr_b_0_0 hI3)
    refine gv_run 1 true hD (pc' := 18) (lv' := [(0, .inr (.inr (some 0)))]) (st' := [.inr (.inr (some 0))]) (h' := gr_h I3 J4) (C := (True ∧ True)) rfl ⟨trivial, trivial⟩ ?_
    obtain ⟨r8, h8, E8, P8⟩ := r_bad_t (ws0 := ws0) (tb := tb) hws htb ext I3 J4 hI3   
    obtain ⟨I9, J10, rfl, hI9, g8, k8, ⟨z8, rfl, q8⟩⟩ := P8
    have FI9 := gr_frt FI3 g8 rfl rfl
    have FJ10 := gr_fjt FJ4 k8 rfl rfl
    have t11 := g8 0 68 rfl
    have f12 := (gr_b_0_68 hI9)
    have f13 := (gr_b_0_0 hI9)
    refine gv_callV hD rfl (As := []) (st := []) rfl (by decide) rfl rfl (gr_lV hws rfl) (Nat.le_of_ble_eq_true rfl) (gz_Ev_mono (d := 1) (by decide) E8) ?_
    show gv_X _ _ (21, [(0, .inr (.inr (some 0)))], [.inl z8], gr_sh ++ ext, gr_h I9 J10)
    exact gv_iret hD rfl ⟨I9, J10, rfl, hI9, FI9, FJ10, ⟨_, rfl, by exact gz_m 0 (by omega)⟩⟩
  refine gv_run 3 true hD (pc' := 5) (lv' := [(0, .inr (.inr (some 0))), (1, .inl a1)]) (st' := []) (h' := gz_up (gr_h I J) 0 0 (.inl 0)) (C := (((True ∧ True) ∧ True) ∧ True)) rfl ⟨⟨⟨trivial, trivial⟩, trivial⟩, trivial⟩ ?_
  refine gr_st hI FI rfl rfl ⟨⟨by show 0 ≤ _; exact gz_m 1 (by omega), by show _ ≤ 2; exact gz_m 2 (by omega)⟩, trivial⟩ (fun I14 hI14 FI14 q15 p15 => ?_)
  have t16 := p15 0 68 (by decide)
  have f17 := (gr_b_0_68 hI14)
  have f18 := (gr_b_0_0 hI14)
  refine gv_run 1 true hD (pc' := 6) (lv' := [(0, .inr (.inr (some 0))), (1, .inl a1)]) (st' := [.inl a1]) (h' := gr_h I14 J) (C := (True ∧ True)) rfl ⟨trivial, trivial⟩ ?_
  refine gv_if_lt (t := 17) hD rfl rfl ⟨by exact gz_m 3 (by omega), by exact gz_m 4 (by omega)⟩ (fun c19 => ?_) (fun c19 => ?_)
  · refine gv_pick [0] rfl ?_
    exact L17 I14 J hI14 FI14 FJ (by exact gz_m 5 (by omega))
  · have f20 := (gr_b_0_68 hI14)
    refine gv_run 3 true hD (pc' := 14) (lv' := [(0, .inr (.inr (some 0))), (1, .inl a1)]) (st' := [.inl (I14 0 68), .inl a1]) (h' := gr_h I14 J) (C := (((True ∧ True) ∧ True) ∧ True)) rfl ⟨⟨⟨trivial, trivial⟩, trivial⟩, trivial⟩ ?_
    refine gv_icmp_le (t := 22) hD rfl rfl ⟨⟨by exact gz_m 6 (by omega), by exact gz_m 7 (by omega)⟩, ⟨by exact gz_m 8 (by omega), by exact gz_m 9 (by omega)⟩⟩ (fun c21 => ?_) (fun c21 => ?_)
    · refine gv_run 3 true hD (pc' := 27) (lv' := [(0, .inr (.inr (some 0))), (1, .inl a1)]) (st' := []) (h' := gz_up (gr_h I14 J) 0 68 (.inl a1)) (C := (((True ∧ True) ∧ True) ∧ True)) rfl ⟨⟨⟨trivial, trivial⟩, trivial⟩, trivial⟩ ?_
      refine gr_st hI14 FI14 rfl rfl ⟨⟨by show 0 ≤ _; exact gz_m 10 (by omega), by show _ ≤ 1000; exact gz_m 11 (by omega)⟩, trivial⟩ (fun I22 hI22 FI22 q23 p23 => ?_)
      have t24 := p23 0 0 (by decide)
      have f25 := (gr_b_0_68 hI22)
      have f26 := (gr_b_0_0 hI22)
      refine gv_run 1 true hD (pc' := 28) (lv' := [(0, .inr (.inr (some 0))), (1, .inl a1)]) (st' := [.inl a1]) (h' := gr_h I22 J) (C := (True ∧ True)) rfl ⟨trivial, trivial⟩ ?_
      exact gv_iret hD rfl ⟨I22, J, rfl, hI22, FI22, FJ, ⟨_, rfl, by exact gz_m 12 (by omega)⟩⟩
    · refine gv_pick [0] rfl ?_
      exact L17 I14 J hI14 FI14 FJ (by exact gz_m 13 (by omega))
