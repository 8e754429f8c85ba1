set_option maxHeartbeats 4000000 in
set_option maxRecDepth 100000 in
theorem r_no_ {ws0 : List Cond} {tb : String → gz_T} (hws : ∀ w ∈ gr_ws, w ∈ ws0) (htb : tb RX13 = gr_T) (ext : gz_Sh) (I : gr_I) (J : gr_J) (hI : gr_Inv I) (a1 : Int) (ha1 : 0 ≤ a1 ∧ a1 ≤ 6)  : ∃ r h', gz_Ev ws0 tb 2 (yX13_no_, cX13_no_, 2, (some .boolean)) [.inr (.inr (some 0)), .inl a1] (gr_sh ++ ext) (gr_h I J) r (gr_sh ++ ext) h' 0 0 ∧ (∃ (I' : gr_I) (J' : gr_J), h' = gr_h I' J' ∧ gr_Inv I' ∧ gr_fr [76, 77] [] I I' ∧ gr_fj [76, 77] [] J J' ∧ (∃ z : Int, r = some (.inl z) ∧ 0 ≤ z ∧ z ≤ 1 ∧ (z = 0))) := by
  have FI : gr_fr [76, 77] [] I I := fun _ _ _ => rfl
  have FJ : gr_fj [76, 77] [] J J := fun _ _ _ => rfl
  have hD : gv_D (gr_E ws0 tb 1 (yX13_no_, cX13_no_, 2, (some .boolean)) kX13_no_) := gq_ok oX13_no_
  refine gr_ev (d := 1) (l := kX13_no_) (Po := fun r h' => (∃ (I' : gr_I) (J' : gr_J), h' = gr_h I' J' ∧ gr_Inv I' ∧ gr_fr [76, 77] [] I I' ∧ gr_fj [76, 77] [] J J' ∧ (∃ z : Int, r = some (.inl z) ∧ 0 ≤ z ∧ z ≤ 1 ∧ (z = 0)))) htb rfl (Nat.le_of_ble_eq_true rfl) ?_
  have L20 : ∀ (s1_1 : Int) (s2_1 : Int), ((0 ≤ s1_1 ∧ s1_1 ≤ 6) ∧ (0 ≤ s2_1 ∧ s2_1 ≤ 1000)) → gv_X (gr_E ws0 tb 1 (yX13_no_, cX13_no_, 2, (some .boolean)) kX13_no_) (gv_Q cX13_no_ (some .boolean) (gr_sh ++ ext) (fun r h' => (∃ (I' : gr_I) (J' : gr_J), h' = gr_h I' J' ∧ gr_Inv I' ∧ gr_fr [76, 77] [] I I' ∧ gr_fj [76, 77] [] J J' ∧ (∃ z : Int, r = some (.inl z) ∧ 0 ≤ z ∧ z ≤ 1 ∧ (z = 0))))) (20, [], [.inl s2_1, .inl s1_1, .inr (.inr (some 0))], gr_sh ++ ext, gr_h I J) := by
    intro s1_1 s2_1 m_1
    obtain ⟨hs1_1, hs2_1⟩ := m_1
    obtain ⟨r2, h2, E2, P2⟩ := r_no (ws0 := ws0) (tb := tb) hws htb ext I J hI s1_1 s2_1 ⟨by omega, by omega⟩ ⟨by omega, by omega⟩ 
    obtain ⟨I3, J4, rfl, hI3, g2, k2, ⟨z2, rfl, q2⟩⟩ := P2
    have FI3 := gr_frt FI g2 rfl rfl
    have FJ4 := gr_fjt FJ k2 rfl rfl
    refine gv_callV hD rfl (As := [.inl s1_1, .inl s2_1]) (st := []) rfl (by decide) rfl rfl (gr_lV hws rfl) (Nat.le_of_ble_eq_true rfl) (gz_Ev_mono (d := 1) (by decide) E2) ?_
    show gv_X _ _ (23, [], [.inl z2], gr_sh ++ ext, gr_h I3 J4)
    exact gv_zret hD rfl (by omega) ⟨I3, J4, rfl, hI3, FI3, FJ4, ⟨_, rfl, by omega⟩⟩
  have f5 := (show 0 ≤ I 0 71 ∧ I 0 71 ≤ 5 from (hI 0 71).1)
  refine gv_run 4 true hD (pc' := 6) (lv' := [(0, .inr (.inr (some 0))), (1, .inl a1)]) (st' := [.inl (I 0 71), .inl a1, .inr (.inr (some 0))]) (h' := gr_h I J) (C := ((((True ∧ True) ∧ True) ∧ True) ∧ True)) rfl ⟨⟨⟨⟨trivial, trivial⟩, trivial⟩, trivial⟩, trivial⟩ ?_
  refine gv_if_ne (t := 16) hD rfl rfl ⟨by omega, by omega⟩ (fun c6 => ?_) (fun c6 => ?_)
  · have f7 := (show 0 ≤ I 0 72 ∧ I 0 72 ≤ 1000 from (hI 0 72).1)
    refine gv_run 2 true hD (pc' := 20) (lv' := [(0, .inr (.inr (some 0))), (1, .inl a1)]) (st' := [.inl (I 0 72), .inl a1, .inr (.inr (some 0))]) (h' := gr_h I J) (C := ((True ∧ True) ∧ True)) rfl ⟨⟨trivial, trivial⟩, trivial⟩ ?_
    refine gv_pick [] rfl ?_
    exact L20 a1 (I 0 72) (by omega)
  · have f8 := (show 0 ≤ I 0 69 ∧ I 0 69 ≤ 1000 from (hI 0 69).1)
    refine gv_run 3 true hD (pc' := 20) (lv' := [(0, .inr (.inr (some 0))), (1, .inl a1)]) (st' := [.inl (I 0 69), .inl a1, .inr (.inr (some 0))]) (h' := gr_h I J) (C := (((True ∧ True) ∧ True) ∧ True)) rfl ⟨⟨⟨trivial, trivial⟩, trivial⟩, trivial⟩ ?_
    refine gv_pick [] rfl ?_
    exact L20 a1 (I 0 69) (by omega)
set_option maxHeartbeats 4000000 in
set_option maxRecDepth 100000 in
theorem r_none {ws0 : List Cond} {tb : String → gz_T} (hws : ∀ w ∈ gr_ws, w ∈ ws0) (htb : tb RX13 = gr_T) (ext : gz_Sh) (I : gr_I) (J : gr_J) (hI : gr_Inv I) (a1 : Int) (ha1 : 0 ≤ a1 ∧ a1 ≤ 6)  : ∃ r h', gz_Ev ws0 tb 3 (yX13_none, cX13_none, 2, (some .int)) [.inr (.inr (some 0)), .inl a1] (gr_sh ++ ext) (gr_h I J) r (gr_sh ++ ext) h' 0 0 ∧ (∃ (I' : gr_I) (J' : gr_J), h' = gr_h I' J' ∧ gr_Inv I' ∧ gr_fr [76, 77] [] I I' ∧ gr_fj [76, 77] [] J J' ∧ (∃ z : Int, r = some (.inl z) ∧ (-1) ≤ z ∧ z ≤ (-1))) := by
  have FI : gr_fr [76, 77] [] I I := fun _ _ _ => rfl
  have FJ : gr_fj [76, 77] [] J J := fun _ _ _ => rfl
  have hD : gv_D (gr_E ws0 tb 2 (yX13_none, cX13_none, 2, (some .int)) kX13_none) := gq_ok oX13_none
  refine gr_ev (d := 2) (l := kX13_none) (Po := fun r h' => (∃ (I' : gr_I) (J' : gr_J), h' = gr_h I' J' ∧ gr_Inv I' ∧ gr_fr [76, 77] [] I I' ∧ gr_fj [76, 77] [] J J' ∧ (∃ z : Int, r = some (.inl z) ∧ (-1) ≤ z ∧ z ≤ (-1)))) htb rfl (Nat.le_of_ble_eq_true rfl) ?_
  refine gv_run 2 true hD (pc' := 2) (lv' := [(0, .inr (.inr (some 0))), (1, .inl a1)]) (st' := [.inl a1, .inr (.inr (some 0))]) (h' := gr_h I J) (C := ((True ∧ True) ∧ True)) rfl ⟨⟨trivial, trivial⟩, trivial⟩ ?_
  obtain ⟨r1, h1, E1, P1⟩ := r_no_ (ws0 := ws0) (tb := tb) hws htb ext I J hI a1 ⟨by omega, by omega⟩ 
  obtain ⟨I2, J3, rfl, hI2, g1, k1, ⟨z1, rfl, q1⟩⟩ := P1
  have FI2 := gr_frt FI g1 rfl rfl
  have FJ3 := gr_fjt FJ k1 rfl rfl
  refine gv_callV hD rfl (As := [.inl a1]) (st := []) rfl (by decide) rfl rfl (gr_lV hws rfl) (Nat.le_of_ble_eq_true rfl) (gz_Ev_mono (d := 2) (by decide) E1) ?_
  show gv_X _ _ (5, [(0, .inr (.inr (some 0))), (1, .inl a1)], [.inl z1], gr_sh ++ ext, gr_h I2 J3)
  refine gv_run 2 true hD (pc' := 7) (lv' := [(0, .inr (.inr (some 0))), (1, .inl a1)]) (st' := [.inl (-1)]) (h' := gr_h I2 J3) (C := ((True ∧ True) ∧ True)) rfl ⟨⟨trivial, trivial⟩, trivial⟩ ?_
  exact gv_iret hD rfl ⟨I2, J3, rfl, hI2, FI2, FJ3, ⟨_, rfl, by omega⟩⟩
set_option maxHeartbeats 4000000 in
set_option maxRecDepth 100000 in
theorem r_name {ws0 : List Cond} {tb : String → gz_T} (hws : ∀ w ∈ gr_ws, w ∈ ws0) (htb : tb RX13 = gr_T) (ext : gz_Sh) (I : gr_I) (J : gr_J) (hI : gr_Inv I)    : ∃ r h', gz_Ev ws0 tb 3 (yX13_name, cX13_name, 1, (some .boolean)) [.inr (.inr (some 0))] (gr_sh ++ ext) (gr_h I J) r (gr_sh ++ ext) h' 0 0 ∧ (∃ (I' : gr_I) (J' : gr_J), h' = gr_h I' J' ∧ gr_Inv I' ∧ gr_fr [76, 77] [] I I' ∧ gr_fj [76, 77] [] J J' ∧ (∃ z : Int, r = some (.inl z) ∧ 0 ≤ z ∧ z ≤ 1 ∧ (z = 0 ∨ I 0 71 = 1))) := by
  have FI : gr_fr [76, 77] [] I I := fun _ _ _ => rfl
  have FJ : gr_fj [76, 77] [] J J := fun _ _ _ => rfl
  have hD : gv_D (gr_E ws0 tb 2 (yX13_name, cX13_name, 1, (some .boolean)) kX13_name) := gq_ok oX13_name
  refine gr_ev (d := 2) (l := kX13_name) (Po := fun r h' => (∃ (I' : gr_I) (J' : gr_J), h' = gr_h I' J' ∧ gr_Inv I' ∧ gr_fr [76, 77] [] I I' ∧ gr_fj [76, 77] [] J J' ∧ (∃ z : Int, r = some (.inl z) ∧ 0 ≤ z ∧ z ≤ 1 ∧ (z = 0 ∨ I 0 71 = 1)))) htb rfl (Nat.le_of_ble_eq_true rfl) ?_
  have f1 := (show 0 ≤ I 0 71 ∧ I 0 71 ≤ 5 from (hI 0 71).1)
  have L21 : ∀ (I2 : gr_I) (J3 : gr_J) (s0_4 : Int), gr_Inv I2 → gr_fr [76, 77] [] I I2 → gr_fj [76, 77] [] J J3 → ((0 ≤ s0_4 ∧ s0_4 ≤ 1) ∧ (s0_4 = 0 ∨ I 0 71 = 1)) → gv_X (gr_E ws0 tb 2 (yX13_name, cX13_name, 1, (some .boolean)) kX13_name) (gv_Q cX13_name (some .boolean) (gr_sh ++ ext) (fun r h' => (∃ (I' : gr_I) (J' : gr_J), h' = gr_h I' J' ∧ gr_Inv I' ∧ gr_fr [76, 77] [] I I' ∧ gr_fj [76, 77] [] J J' ∧ (∃ z : Int, r = some (.inl z) ∧ 0 ≤ z ∧ z ≤ 1 ∧ (z = 0 ∨ I 0 71 = 1))))) (21, [], [.inl s0_4], gr_sh ++ ext, gr_h I2 J3) := by
    intro I2 J3 s0_4 hI2 FI2 FJ3 m_4
    obtain ⟨hs0_4, e0_4⟩ := m_4
    have f5 := (show 0 ≤ I2 0 71 ∧ I2 0 71 ≤ 5 from (hI2 0 71).1)
    exact gv_zret hD rfl (by omega) ⟨I2, J3, rfl, hI2, FI2, FJ3, ⟨_, rfl, by omega⟩⟩
  have L16 : ∀ (I6 : gr_I) (J7 : gr_J) , gr_Inv I6 → gr_fr [76, 77] [] I I6 → gr_fj [76, 77] [] J J7 → ((I 0 71 = 1)) → gv_X (gr_E ws0 tb 2 (yX13_name, cX13_name, 1, (some .boolean)) kX13_name) (gv_Q cX13_name (some .boolean) (gr_sh ++ ext) (fun r h' => (∃ (I' : gr_I) (J' : gr_J), h' = gr_h I' J' ∧ gr_Inv I' ∧ gr_fr [76, 77] [] I I' ∧ gr_fj [76, 77] [] J J' ∧ (∃ z : Int, r = some (.inl z) ∧ 0 ≤ z ∧ z ≤ 1 ∧ (z = 0 ∨ I 0 71 = 1))))) (16, [], [], gr_sh ++ ext, gr_h I6 J7) := by
    intro I6 J7 hI6 FI6 FJ7 m_8
    have e0_8 := m_8
    have f9 := (show 0 ≤ I6 0 71 ∧ I6 0 71 ≤ 5 from (hI6 0 71).1)
    refine gv_run 2 true hD (pc' := 21) (lv' := []) (st' := [.inl 1]) (h' := gr_h I6 J7) (C := ((True ∧ True) ∧ True)) rfl ⟨⟨trivial, trivial⟩, trivial⟩ ?_
    exact L21 I6 J7 1 hI6 FI6 FJ7 (by omega)
  have f10 := (show 0 ≤ I 0 71 ∧ I 0 71 ≤ 5 from (hI 0 71).1)
  refine gv_run 3 true hD (pc' := 5) (lv' := [(0, .inr (.inr (some 0)))]) (st' := [.inl 1, .inl (I 0 71)]) (h' := gr_h I J) (C := (((True ∧ True) ∧ True) ∧ True)) rfl ⟨⟨⟨trivial, trivial⟩, trivial⟩, trivial⟩ ?_
  refine gv_icmp_eq (t := 16) hD rfl rfl ⟨⟨by omega, by omega⟩, ⟨by omega, by omega⟩⟩ (fun c11 => ?_) (fun c11 => ?_)
  · refine gv_pick [] rfl ?_
    exact L16 I J hI FI FJ (by omega)
  · refine gv_run 2 true hD (pc' := 10) (lv' := [(0, .inr (.inr (some 0)))]) (st' := [.inl 1, .inr (.inr (some 0))]) (h' := gr_h I J) (C := ((True ∧ True) ∧ True)) rfl ⟨⟨trivial, trivial⟩, trivial⟩ ?_
    obtain ⟨r12, h12, E12, P12⟩ := r_no_ (ws0 := ws0) (tb := tb) hws htb ext I J hI 1 ⟨by omega, by omega⟩ 
    obtain ⟨I13, J14, rfl, hI13, g12, k12, ⟨z12, rfl, q12⟩⟩ := P12
    have FI13 := gr_frt FI g12 rfl rfl
    have FJ14 := gr_fjt FJ k12 rfl rfl
    have t15 := g12 0 71 rfl
    have f16 := (show 0 ≤ I13 0 71 ∧ I13 0 71 ≤ 5 from (hI13 0 71).1)
    refine gv_callV hD rfl (As := [.inl 1]) (st := []) rfl (by decide) rfl rfl (gr_lV hws rfl) (Nat.le_of_ble_eq_true rfl) (gz_Ev_mono (d := 2) (by decide) E12) ?_
    show gv_X _ _ (13, [(0, .inr (.inr (some 0)))], [.inl z12], gr_sh ++ ext, gr_h I13 J14)
    refine gv_if_eq (t := 20) hD rfl rfl ⟨by omega, by omega⟩ (fun c17 => ?_) (fun c17 => ?_)
    · refine gv_run 1 true hD (pc' := 21) (lv' := [(0, .inr (.inr (some 0)))]) (st' := [.inl 0]) (h' := gr_h I13 J14) (C := (True ∧ True)) rfl ⟨trivial, trivial⟩ ?_
      refine gv_pick [] rfl ?_
      exact L21 I13 J14 0 hI13 FI13 FJ14 (by omega)
    · refine gv_pick [] rfl ?_
      exact L16 I13 J14 hI13 FI13 FJ14 (by omega)
set_option maxHeartbeats 4000000 in
set_option maxRecDepth 100000 in
theorem r_sign {ws0 : List Cond} {tb : String → gz_T} (hws : ∀ w ∈ gr_ws, w ∈ ws0) (htb : tb RX13 = gr_T) (ext : gz_Sh) (I : gr_I) (J : gr_J) (hI : gr_Inv I) (a1 : Int) (ha1 : 0 ≤ a1 ∧ a1 ≤ 127) (x0 : I 0 71 = 4 → I 0 72 ≤ 999) : ∃ r h', gz_Ev ws0 tb 1 (yX13_sign, cX13_sign, 2, (some .boolean)) [.inr (.inr (some 0)), .inl a1] (gr_sh ++ ext) (gr_h I J) r (gr_sh ++ ext) h' 0 0 ∧ (h' = gr_h I J ∧ (∃ z : Int, r = some (.inl z) ∧ 0 ≤ z ∧ z ≤ 1 ∧ (z = 0 ∨ I 0 71 = 4))) := by
  have hD : gv_D (gr_E ws0 tb 0 (yX13_sign, cX13_sign, 2, (some .boolean)) kX13_sign) := gq_ok oX13_sign
  refine gr_ev (d := 0) (l := kX13_sign) (Po := fun r h' => (h' = gr_h I J ∧ (∃ z : Int, r = some (.inl z) ∧ 0 ≤ z ∧ z ≤ 1 ∧ (z = 0 ∨ I 0 71 = 4)))) htb rfl (Nat.le_of_ble_eq_true rfl) ?_
  have f1 := (show 0 ≤ I 0 71 ∧ I 0 71 ≤ 5 from (hI 0 71).1)
  have L26 : ∀ (s0_2 : Int), ((0 ≤ s0_2 ∧ s0_2 ≤ 1) ∧ (s0_2 = 0 ∨ I 0 71 = 4)) → gv_X (gr_E ws0 tb 0 (yX13_sign, cX13_sign, 2, (some .boolean)) kX13_sign) (gv_Q cX13_sign (some .boolean) (gr_sh ++ ext) (fun r h' => (h' = gr_h I J ∧ (∃ z : Int, r = some (.inl z) ∧ 0 ≤ z ∧ z ≤ 1 ∧ (z = 0 ∨ I 0 71 = 4))))) (26, [], [.inl s0_2], gr_sh ++ ext, gr_h I J) := by
    intro s0_2 m_2
    obtain ⟨hs0_2, e0_2⟩ := m_2
    have f3 := (show 0 ≤ I 0 71 ∧ I 0 71 ≤ 5 from (hI 0 71).1)
    exact gv_zret hD rfl (by omega) ⟨rfl, ⟨_, rfl, by omega⟩⟩
  have L25 : gv_X (gr_E ws0 tb 0 (yX13_sign, cX13_sign, 2, (some .boolean)) kX13_sign) (gv_Q cX13_sign (some .boolean) (gr_sh ++ ext) (fun r h' => (h' = gr_h I J ∧ (∃ z : Int, r = some (.inl z) ∧ 0 ≤ z ∧ z ≤ 1 ∧ (z = 0 ∨ I 0 71 = 4))))) (25, [], [], gr_sh ++ ext, gr_h I J) := by
    have f5 := (show 0 ≤ I 0 71 ∧ I 0 71 ≤ 5 from (hI 0 71).1)
    refine gv_run 1 true hD (pc' := 26) (lv' := []) (st' := [.inl 0]) (h' := gr_h I J) (C := (True ∧ True)) rfl ⟨trivial, trivial⟩ ?_
    exact L26 0 (by omega)
  have f6 := (show 0 ≤ I 0 71 ∧ I 0 71 ≤ 5 from (hI 0 71).1)
  refine gv_run 3 true hD (pc' := 5) (lv' := [(0, .inr (.inr (some 0))), (1, .inl a1)]) (st' := [.inl 4, .inl (I 0 71)]) (h' := gr_h I J) (C := (((True ∧ True) ∧ True) ∧ True)) rfl ⟨⟨⟨trivial, trivial⟩, trivial⟩, trivial⟩ ?_
  refine gv_icmp_ne (t := 25) hD rfl rfl ⟨⟨by omega, by omega⟩, ⟨by omega, by omega⟩⟩ (fun c7 => ?_) (fun c7 => ?_)
  · refine gv_pick [] rfl ?_
    exact L25 
  · have f8 := (show 0 ≤ I 0 72 ∧ I 0 72 ≤ 1000 from (hI 0 72).1)
    have f9 := (show (-128) ≤ I 57 (Int.toNat ((I 0 72))) ∧ I 57 (Int.toNat ((I 0 72))) ≤ 127 from (hI 57 (Int.toNat ((I 0 72)))).1)
    refine gv_run 5 true hD (pc' := 17) (lv' := [(0, .inr (.inr (some 0))), (1, .inl a1)]) (st' := [.inl (I 57 (Int.toNat ((I 0 72))))]) (h' := gr_h I J) (C := (((((True ∧ True) ∧ True) ∧ True) ∧ True) ∧ (0 ≤ (I 0 72) ∧ (I 0 72) < ((1000 : Nat) : Int)))) rfl ⟨⟨⟨⟨⟨trivial, trivial⟩, trivial⟩, trivial⟩, trivial⟩, ⟨by omega, by omega⟩⟩ ?_
    refine gv_run 1 true hD (pc' := 18) (lv' := [(0, .inr (.inr (some 0))), (1, .inl a1)]) (st' := [.inl a1, .inl (I 57 (Int.toNat ((I 0 72))))]) (h' := gr_h I J) (C := (True ∧ True)) rfl ⟨trivial, trivial⟩ ?_
    refine gv_icmp_ne (t := 25) hD rfl rfl ⟨⟨by omega, by omega⟩, ⟨by omega, by omega⟩⟩ (fun c10 => ?_) (fun c10 => ?_)
    · refine gv_pick [] rfl ?_
      exact L25 
    · refine gv_run 2 true hD (pc' := 26) (lv' := [(0, .inr (.inr (some 0))), (1, .inl a1)]) (st' := [.inl 1]) (h' := gr_h I J) (C := ((True ∧ True) ∧ True)) rfl ⟨⟨trivial, trivial⟩, trivial⟩ ?_
      refine gv_pick [] rfl ?_
      exact L26 1 (by omega)
set_option maxHeartbeats 4000000 in
set_option maxRecDepth 100000 in
theorem r_same {ws0 : List Cond} {tb : String → gz_T} (hws : ∀ w ∈ gr_ws, w ∈ ws0) (htb : tb RX13 = gr_T) (ext : gz_Sh) (I : gr_I) (J : gr_J) (hI : gr_Inv I) (a1 : Int) (a2 : Int) (ha1 : (-2147483648) ≤ a1 ∧ a1 ≤ 2147483647) (ha2 : (-2147483648) ≤ a2 ∧ a2 ≤ 2147483647)  : ∃ r h', gz_Ev ws0 tb 1 (yX13_same, cX13_same, 4, (some .boolean)) [.inr (.inr (some 0)), .inl a1, .inl a2] (gr_sh ++ ext) (gr_h I J) r (gr_sh ++ ext) h' 0 0 ∧ (∃ (I' : gr_I) (J' : gr_J), h' = gr_h I' J' ∧ gr_Inv I' ∧ gr_fr [0] [] I I' ∧ gr_fj [0] [] J J' ∧ (∃ z : Int, r = some (.inl z) ∧ 0 ≤ z ∧ z ≤ 1)) := by
  have FI : gr_fr [0] [] I I := fun _ _ _ => rfl
  have FJ : gr_fj [0] [] J J := fun _ _ _ => rfl
  have hD : gv_D (gr_E ws0 tb 0 (yX13_same, cX13_same, 4, (some .boolean)) kX13_same) := gq_ok oX13_same
  refine gr_ev (d := 0) (l := kX13_same) (Po := fun r h' => (∃ (I' : gr_I) (J' : gr_J), h' = gr_h I' J' ∧ gr_Inv I' ∧ gr_fr [0] [] I I' ∧ gr_fj [0] [] J J' ∧ (∃ z : Int, r = some (.inl z) ∧ 0 ≤ z ∧ z ≤ 1))) htb rfl (Nat.le_of_ble_eq_true rfl) ?_
  have f1 := (show 0 ≤ I 0 0 ∧ I 0 0 ≤ 2 from (hI 0 0).1)
  have L26 : ∀ (s1_2 : Int), (((-2147483648) ≤ a1 ∧ a1 ≤ 2147483647) ∧ ((-2147483648) ≤ a2 ∧ a2 ≤ 2147483647) ∧ (0 ≤ s1_2 ∧ s1_2 ≤ 1) ∧ (s1_2 = 0 → 0 ≤ a1 ∧ a1 ≤ 7 ∧ 0 ≤ a2 ∧ a2 ≤ 7)) → gv_X (gr_E ws0 tb 0 (yX13_same, cX13_same, 4, (some .boolean)) kX13_same) (gv_Q cX13_same (some .boolean) (gr_sh ++ ext) (fun r h' => (∃ (I' : gr_I) (J' : gr_J), h' = gr_h I' J' ∧ gr_Inv I' ∧ gr_fr [0] [] I I' ∧ gr_fj [0] [] J J' ∧ (∃ z : Int, r = some (.inl z) ∧ 0 ≤ z ∧ z ≤ 1)))) (26, [(0, .inr (.inr (some 0))), (1, .inl a1), (2, .inl a2)], [.inl s1_2, .inr (.inr (some 0))], gr_sh ++ ext, gr_h I J) := by
    intro s1_2 m_2
    obtain ⟨ha1_2, ha2_2, hs1_2, e0_2⟩ := m_2
    have f3 := (show 0 ≤ I 0 0 ∧ I 0 0 ≤ 2 from (hI 0 0).1)
    have L51 : ∀ (I4 : gr_I) (J5 : gr_J) , gr_Inv I4 → gr_fr [0] [] I I4 → gr_fj [0] [] J J5 → gv_X (gr_E ws0 tb 0 (yX13_same, cX13_same, 4, (some .boolean)) kX13_same) (gv_Q cX13_same (some .boolean) (gr_sh ++ ext) (fun r h' => (∃ (I' : gr_I) (J' : gr_J), h' = gr_h I' J' ∧ gr_Inv I' ∧ gr_fr [0] [] I I' ∧ gr_fj [0] [] J J' ∧ (∃ z : Int, r = some (.inl z) ∧ 0 ≤ z ∧ z ≤ 1)))) (51, [], [], gr_sh ++ ext, gr_h I4 J5) := by
      intro I4 J5 hI4 FI4 FJ5
      have f7 := (show 0 ≤ I4 0 0 ∧ I4 0 0 ≤ 2 from (hI4 0 0).1)
      refine gv_run 1 true hD (pc' := 52) (lv' := []) (st' := [.inl 0]) (h' := gr_h I4 J5) (C := (True ∧ True)) rfl ⟨trivial, trivial⟩ ?_
      exact gv_zret hD rfl (by omega) ⟨I4, J5, rfl, hI4, FI4, FJ5, ⟨_, rfl, by omega⟩⟩
    have L55 : ∀ (n : Nat) (I8 : gr_I) (J9 : gr_J) (v3_10 : Int), (61 - v3_10).toNat < n → gr_Inv I8 → gr_fr [0] [] I I8 → gr_fj [0] [] J J9 → ((0 ≤ a1 ∧ a1 ≤ 7) ∧ (0 ≤ a2 ∧ a2 ≤ 7) ∧ (0 ≤ v3_10 ∧ v3_10 ≤ 60)) → gv_X (gr_E ws0 tb 0 (yX13_same, cX13_same, 4, (some .boolean)) kX13_same) (gv_Q cX13_same (some .boolean) (gr_sh ++ ext) (fun r h' => (∃ (I' : gr_I) (J' : gr_J), h' = gr_h I' J' ∧ gr_Inv I' ∧ gr_fr [0] [] I I' ∧ gr_fj [0] [] J J' ∧ (∃ z : Int, r = some (.inl z) ∧ 0 ≤ z ∧ z ≤ 1)))) (55, [(0, .inr (.inr (some 0))), (1, .inl a1), (2, .inl a2), (3, .inl v3_10)], [], gr_sh ++ ext, gr_h I8 J9) := by
      intro n
      induction n with
      | zero => intro I8 J9 v3_10 hn; omega
      | succ n ih55 =>
        intro I8 J9 v3_10 hn hI8 FI8 FJ9 m_10
        obtain ⟨ha1_10, ha2_10, hv3_10⟩ := m_10
        have f11 := (show 0 ≤ I8 0 0 ∧ I8 0 0 ≤ 2 from (hI8 0 0).1)
        have f12 := (show 0 ≤ I8 115 (Int.toNat a1) ∧ I8 115 (Int.toNat a1) ≤ 60 from (hI8 115 (Int.toNat a1)).1)
        refine gv_run 5 true hD (pc' := 62) (lv' := [(0, .inr (.inr (some 0))), (1, .inl a1), (2, .inl a2), (3, .inl v3_10)]) (st' := [.inl (I8 115 (Int.toNat a1)), .inl v3_10]) (h' := gr_h I8 J9) (C := (((((True ∧ True) ∧ True) ∧ True) ∧ True) ∧ (0 ≤ a1 ∧ a1 < ((8 : Nat) : Int)))) rfl ⟨⟨⟨⟨⟨trivial, trivial⟩, trivial⟩, trivial⟩, trivial⟩, ⟨by omega, by omega⟩⟩ ?_
        refine gv_icmp_ge (t := 98) hD rfl rfl ⟨⟨by omega, by omega⟩, ⟨by omega, by omega⟩⟩ (fun c13 => ?_) (fun c13 => ?_)
        · refine gv_run 1 true hD (pc' := 99) (lv' := [(0, .inr (.inr (some 0))), (1, .inl a1), (2, .inl a2), (3, .inl v3_10)]) (st' := [.inl 1]) (h' := gr_h I8 J9) (C := (True ∧ True)) rfl ⟨trivial, trivial⟩ ?_
          exact gv_zret hD rfl (by omega) ⟨I8, J9, rfl, hI8, FI8, FJ9, ⟨_, rfl, by omega⟩⟩
        · refine gv_run 7 true hD (pc' := 75) (lv' := [(0, .inr (.inr (some 0))), (1, .inl a1), (2, .inl a2), (3, .inl v3_10)]) (st' := [.inl ((60 * a1) + v3_10), .inr (.inr (some 114))]) (h' := gr_h I8 J9) (C := (((((((True ∧ True) ∧ True) ∧ True) ∧ True) ∧ True) ∧ True) ∧ True)) rfl ⟨⟨⟨⟨⟨⟨⟨trivial, trivial⟩, trivial⟩, trivial⟩, trivial⟩, trivial⟩, trivial⟩, trivial⟩ ?_
          have f14 := (show 0 ≤ I8 114 (Int.toNat (((60 * a1) + v3_10))) ∧ I8 114 (Int.toNat (((60 * a1) + v3_10))) ≤ 95 from (hI8 114 (Int.toNat (((60 * a1) + v3_10)))).1)
          refine gv_run 1 true hD (pc' := 76) (lv' := [(0, .inr (.inr (some 0))), (1, .inl a1), (2, .inl a2), (3, .inl v3_10)]) (st' := [.inl (I8 114 (Int.toNat (((60 * a1) + v3_10))))]) (h' := gr_h I8 J9) (C := (True ∧ (0 ≤ (((60 * a1) + v3_10)) ∧ (((60 * a1) + v3_10)) < ((480 : Nat) : Int)))) rfl ⟨trivial, ⟨by omega, by omega⟩⟩ ?_
          refine gv_run 7 true hD (pc' := 86) (lv' := [(0, .inr (.inr (some 0))), (1, .inl a1), (2, .inl a2), (3, .inl v3_10)]) (st' := [.inl ((60 * a2) + v3_10), .inr (.inr (some 114)), .inl (I8 114 (Int.toNat (((60 * a1) + v3_10))))]) (h' := gr_h I8 J9) (C := (((((((True ∧ True) ∧ True) ∧ True) ∧ True) ∧ True) ∧ True) ∧ True)) rfl ⟨⟨⟨⟨⟨⟨⟨trivial, trivial⟩, trivial⟩, trivial⟩, trivial⟩, trivial⟩, trivial⟩, trivial⟩ ?_
          have f15 := (show 0 ≤ I8 114 (Int.toNat (((60 * a2) + v3_10))) ∧ I8 114 (Int.toNat (((60 * a2) + v3_10))) ≤ 95 from (hI8 114 (Int.toNat (((60 * a2) + v3_10)))).1)
          refine gv_run 1 true hD (pc' := 87) (lv' := [(0, .inr (.inr (some 0))), (1, .inl a1), (2, .inl a2), (3, .inl v3_10)]) (st' := [.inl (I8 114 (Int.toNat (((60 * a2) + v3_10)))), .inl (I8 114 (Int.toNat (((60 * a1) + v3_10))))]) (h' := gr_h I8 J9) (C := (True ∧ (0 ≤ (((60 * a2) + v3_10)) ∧ (((60 * a2) + v3_10)) < ((480 : Nat) : Int)))) rfl ⟨trivial, ⟨by omega, by omega⟩⟩ ?_
          refine gv_icmp_eq (t := 92) hD rfl rfl ⟨⟨by omega, by omega⟩, ⟨by omega, by omega⟩⟩ (fun c16 => ?_) (fun c16 => ?_)
          · refine gv_run 2 true hD (pc' := 55) (lv' := [(3, .inl (v3_10 + 1)), (0, .inr (.inr (some 0))), (1, .inl a1), (2, .inl a2)]) (st' := []) (h' := gr_h I8 J9) (C := ((True ∧ True) ∧ True)) rfl ⟨⟨trivial, trivial⟩, trivial⟩ ?_
            refine gv_pick [1, 2, 3, 0] rfl ?_
            exact ih55 I8 J9 (v3_10 + 1) (by omega) hI8 FI8 FJ9 (by omega)
          · refine gv_run 1 true hD (pc' := 91) (lv' := [(0, .inr (.inr (some 0))), (1, .inl a1), (2, .inl a2), (3, .inl v3_10)]) (st' := [.inl 0]) (h' := gr_h I8 J9) (C := (True ∧ True)) rfl ⟨trivial, trivial⟩ ?_
            exact gv_zret hD rfl (by omega) ⟨I8, J9, rfl, hI8, FI8, FJ9, ⟨_, rfl, by omega⟩⟩
    refine gv_run 1 true hD (pc' := 29) (lv' := [(0, .inr (.inr (some 0))), (1, .inl a1), (2, .inl a2)]) (st' := []) (h' := gz_up (gr_h I J) 0 0 (.inl s1_2)) (C := (True ∧ True)) rfl ⟨trivial, trivial⟩ ?_
    refine gr_st hI FI rfl rfl ⟨⟨by show 0 ≤ _; omega, by show _ ≤ 2; omega⟩, trivial⟩ (fun I17 hI17 FI17 q18 p18 => ?_)
    have f19 := (show 0 ≤ I17 0 0 ∧ I17 0 0 ≤ 2 from (hI17 0 0).1)
    have f20 := (show 0 ≤ I17 0 0 ∧ I17 0 0 ≤ 2 from (hI17 0 0).1)
    refine gv_run 2 true hD (pc' := 33) (lv' := [(0, .inr (.inr (some 0))), (1, .inl a1), (2, .inl a2)]) (st' := [.inl (I17 0 0)]) (h' := gr_h I17 J) (C := ((True ∧ True) ∧ True)) rfl ⟨⟨trivial, trivial⟩, trivial⟩ ?_
    refine gv_if_ne (t := 51) hD rfl rfl ⟨by omega, by omega⟩ (fun c21 => ?_) (fun c21 => ?_)
    · refine gv_pick [] rfl ?_
      exact L51 I17 J hI17 FI17 FJ
    · have f22 := (show 0 ≤ I17 115 (Int.toNat a1) ∧ I17 115 (Int.toNat a1) ≤ 60 from (hI17 115 (Int.toNat a1)).1)
      refine gv_run 4 true hD (pc' := 42) (lv' := [(0, .inr (.inr (some 0))), (1, .inl a1), (2, .inl a2)]) (st' := [.inl (I17 115 (Int.toNat a1))]) (h' := gr_h I17 J) (C := ((((True ∧ True) ∧ True) ∧ True) ∧ (0 ≤ a1 ∧ a1 < ((8 : Nat) : Int)))) rfl ⟨⟨⟨⟨trivial, trivial⟩, trivial⟩, trivial⟩, ⟨by omega, by omega⟩⟩ ?_
      have f23 := (show 0 ≤ I17 115 (Int.toNat a2) ∧ I17 115 (Int.toNat a2) ≤ 60 from (hI17 115 (Int.toNat a2)).1)
      refine gv_run 4 true hD (pc' := 48) (lv' := [(0, .inr (.inr (some 0))), (1, .inl a1), (2, .inl a2)]) (st' := [.inl (I17 115 (Int.toNat a2)), .inl (I17 115 (Int.toNat a1))]) (h' := gr_h I17 J) (C := ((((True ∧ True) ∧ True) ∧ True) ∧ (0 ≤ a2 ∧ a2 < ((8 : Nat) : Int)))) rfl ⟨⟨⟨⟨trivial, trivial⟩, trivial⟩, trivial⟩, ⟨by omega, by omega⟩⟩ ?_
      refine gv_icmp_eq (t := 53) hD rfl rfl ⟨⟨by omega, by omega⟩, ⟨by omega, by omega⟩⟩ (fun c24 => ?_) (fun c24 => ?_)
      · refine gv_run 2 true hD (pc' := 55) (lv' := [(3, .inl 0), (0, .inr (.inr (some 0))), (1, .inl a1), (2, .inl a2)]) (st' := []) (h' := gr_h I17 J) (C := ((True ∧ True) ∧ True)) rfl ⟨⟨trivial, trivial⟩, trivial⟩ ?_
        refine gv_pick [1, 2, 3, 0] rfl ?_
        exact L55 _ I17 J 0 (Nat.lt_succ_self _) hI17 FI17 FJ (by omega)
      · refine gv_pick [] rfl ?_
        exact L51 I17 J hI17 FI17 FJ
  have L21 : (((-2147483648) ≤ a1 ∧ a1 ≤ 2147483647) ∧ ((-2147483648) ≤ a2 ∧ a2 ≤ 2147483647)) → gv_X (gr_E ws0 tb 0 (yX13_same, cX13_same, 4, (some .boolean)) kX13_same) (gv_Q cX13_same (some .boolean) (gr_sh ++ ext) (fun r h' => (∃ (I' : gr_I) (J' : gr_J), h' = gr_h I' J' ∧ gr_Inv I' ∧ gr_fr [0] [] I I' ∧ gr_fj [0] [] J J' ∧ (∃ z : Int, r = some (.inl z) ∧ 0 ≤ z ∧ z ≤ 1)))) (21, [(0, .inr (.inr (some 0))), (1, .inl a1), (2, .inl a2)], [.inr (.inr (some 0))], gr_sh ++ ext, gr_h I J) := by
    intro m_25
    obtain ⟨ha1_25, ha2_25⟩ := m_25
    have f26 := (show 0 ≤ I 0 0 ∧ I 0 0 ≤ 2 from (hI 0 0).1)
    refine gv_run 2 true hD (pc' := 26) (lv' := [(0, .inr (.inr (some 0))), (1, .inl a1), (2, .inl a2)]) (st' := [.inl 1, .inr (.inr (some 0))]) (h' := gr_h I J) (C := ((True ∧ True) ∧ True)) rfl ⟨⟨trivial, trivial⟩, trivial⟩ ?_
    exact L26 1 (by omega)
  refine gv_run 2 true hD (pc' := 2) (lv' := [(0, .inr (.inr (some 0))), (1, .inl a1), (2, .inl a2)]) (st' := [.inl a1, .inr (.inr (some 0))]) (h' := gr_h I J) (C := ((True ∧ True) ∧ True)) rfl ⟨⟨trivial, trivial⟩, trivial⟩ ?_
  refine gv_if_lt (t := 21) hD rfl rfl ⟨by omega, by omega⟩ (fun c27 => ?_) (fun c27 => ?_)
  · exact L21 (by omega)
  · refine gv_run 2 true hD (pc' := 8) (lv' := [(0, .inr (.inr (some 0))), (1, .inl a1), (2, .inl a2)]) (st' := [.inl 7, .inl a1, .inr (.inr (some 0))]) (h' := gr_h I J) (C := ((True ∧ True) ∧ True)) rfl ⟨⟨trivial, trivial⟩, trivial⟩ ?_
    refine gv_icmp_gt (t := 21) hD rfl rfl ⟨⟨by omega, by omega⟩, ⟨by omega, by omega⟩⟩ (fun c28 => ?_) (fun c28 => ?_)
    · exact L21 (by omega)
    · refine gv_run 1 true hD (pc' := 12) (lv' := [(0, .inr (.inr (some 0))), (1, .inl a1), (2, .inl a2)]) (st' := [.inl a2, .inr (.inr (some 0))]) (h' := gr_h I J) (C := (True ∧ True)) rfl ⟨trivial, trivial⟩ ?_
      refine gv_if_lt (t := 21) hD rfl rfl ⟨by omega, by omega⟩ (fun c29 => ?_) (fun c29 => ?_)
      · exact L21 (by omega)
      · refine gv_run 2 true hD (pc' := 18) (lv' := [(0, .inr (.inr (some 0))), (1, .inl a1), (2, .inl a2)]) (st' := [.inl 7, .inl a2, .inr (.inr (some 0))]) (h' := gr_h I J) (C := ((True ∧ True) ∧ True)) rfl ⟨⟨trivial, trivial⟩, trivial⟩ ?_
        refine gv_icmp_le (t := 25) hD rfl rfl ⟨⟨by omega, by omega⟩, ⟨by omega, by omega⟩⟩ (fun c30 => ?_) (fun c30 => ?_)
        · refine gv_run 1 true hD (pc' := 26) (lv' := [(0, .inr (.inr (some 0))), (1, .inl a1), (2, .inl a2)]) (st' := [.inl 0, .inr (.inr (some 0))]) (h' := gr_h I J) (C := (True ∧ True)) rfl ⟨trivial, trivial⟩ ?_
          exact L26 0 (by omega)
        · exact L21 (by omega)
set_option maxHeartbeats 4000000 in
set_option maxRecDepth 100000 in
theorem r_times {ws0 : List Cond} {tb : String → gz_T} (hws : ∀ w ∈ gr_ws, w ∈ ws0) (htb : tb RX13 = gr_T) (ext : gz_Sh) (I : gr_I) (J : gr_J) (hI : gr_Inv I) (a1 : Int64) (a2 : Int64)   : ∃ r h', gz_Ev ws0 tb 1 (yX13_times, cX13_times, 4, (some .long)) [.inr (.inl a1), .inr (.inl a2)] (gr_sh ++ ext) (gr_h I J) r (gr_sh ++ ext) h' 0 0 ∧ (h' = gr_h I J ∧ (∃ z : Int64, r = some (.inr (.inl z)))) := by
  have hD : gv_D (gr_E ws0 tb 0 (yX13_times, cX13_times, 4, (some .long)) kX13_times) := gq_ok oX13_times
  refine gr_ev (d := 0) (l := kX13_times) (Po := fun r h' => (h' = gr_h I J ∧ (∃ z : Int64, r = some (.inr (.inl z))))) htb rfl (Nat.le_of_ble_eq_true rfl) ?_
  have L25 : ∀ (s0_1 : Int64), gv_X (gr_E ws0 tb 0 (yX13_times, cX13_times, 4, (some .long)) kX13_times) (gv_Q cX13_times (some .long) (gr_sh ++ ext) (fun r h' => (h' = gr_h I J ∧ (∃ z : Int64, r = some (.inr (.inl z)))))) (25, [], [.inr (.inl s0_1)], gr_sh ++ ext, gr_h I J) := by
    intro s0_1
    exact gv_lret hD rfl ⟨rfl, ⟨_, rfl⟩⟩
  have L22 : gv_X (gr_E ws0 tb 0 (yX13_times, cX13_times, 4, (some .long)) kX13_times) (gv_Q cX13_times (some .long) (gr_sh ++ ext) (fun r h' => (h' = gr_h I J ∧ (∃ z : Int64, r = some (.inr (.inl z)))))) (22, [(0, .inr (.inl a1)), (2, .inr (.inl a2))], [], gr_sh ++ ext, gr_h I J) := by
    refine gv_run 3 true hD (pc' := 25) (lv' := [(0, .inr (.inl a1)), (2, .inr (.inl a2))]) (st' := [.inr (.inl (a1 * a2))]) (h' := gr_h I J) (C := (((True ∧ True) ∧ True) ∧ True)) rfl ⟨⟨⟨trivial, trivial⟩, trivial⟩, trivial⟩ ?_
    refine gv_pick [] rfl ?_
    exact L25 (a1 * a2)
  have f3 := gw_cmp (a1) ((Int64.ofNat 0))
  refine gv_run 3 true hD (pc' := 3) (lv' := [(0, .inr (.inl a1)), (2, .inr (.inl a2))]) (st' := [.inl ((lg_cmp (a1) ((Int64.ofNat 0))).toInt)]) (h' := gr_h I J) (C := (((True ∧ True) ∧ True) ∧ True)) rfl ⟨⟨⟨trivial, trivial⟩, trivial⟩, trivial⟩ ?_
  refine gv_if_eq (t := 22) hD rfl rfl ⟨by omega, by omega⟩ (fun c4 => ?_) (fun c4 => ?_)
  · exact L22
  · have f5 := gw_cmp (a2) (((1000000000000000000) / a1))
    refine gv_run 5 true hD (pc' := 13) (lv' := [(0, .inr (.inl a1)), (2, .inr (.inl a2))]) (st' := [.inl ((lg_cmp (a2) (((1000000000000000000) / a1))).toInt)]) (h' := gr_h I J) (C := (((((True ∧ True) ∧ True) ∧ True) ∧ (¬ a1 = 0)) ∧ True)) rfl ⟨⟨⟨⟨⟨trivial, trivial⟩, trivial⟩, trivial⟩, (by intro q; subst q; exact absurd (show (lg_cmp 0 (Int64.ofNat 0)).toInt = 0 by decide) (by assumption))⟩, trivial⟩ ?_
    refine gv_if_le (t := 22) hD rfl rfl ⟨by omega, by omega⟩ (fun c6 => ?_) (fun c6 => ?_)
    · exact L22
    · refine gv_run 2 true hD (pc' := 25) (lv' := [(0, .inr (.inl a1)), (2, .inr (.inl a2))]) (st' := [.inr (.inl (1000000000000000000))]) (h' := gr_h I J) (C := ((True ∧ True) ∧ True)) rfl ⟨⟨trivial, trivial⟩, trivial⟩ ?_
      refine gv_pick [] rfl ?_
      exact L25 (1000000000000000000)
set_option maxHeartbeats 4000000 in
set_option maxRecDepth 100000 in
theorem r_add {ws0 : List Cond} {tb : String → gz_T} (hws : ∀ w ∈ gr_ws, w ∈ ws0) (htb : tb RX13 = gr_T) (ext : gz_Sh) (I : gr_I) (J : gr_J) (hI : gr_Inv I) (a1 : Int) (ha1 : (-2147483648) ≤ a1 ∧ a1 ≤ 2147483647)  : ∃ r h', gz_Ev ws0 tb 3 (yX13_add, cX13_add, 4, (some .int)) [.inr (.inr (some 0)), .inl a1] (gr_sh ++ ext) (gr_h I J) r (gr_sh ++ ext) h' 0 0 ∧ (∃ (I' : gr_I) (J' : gr_J), h' = gr_h I' J' ∧ gr_Inv I' ∧ gr_fr [0, 68, 69, 143, 206] [56, 57, 83, 85, 126, 127, 128, 129] I I' ∧ gr_fj [0, 68, 69, 143, 206] [56, 57, 83, 85, 126, 127, 128, 129] J J' ∧ (∃ z : Int, r = some (.inl z) ∧ (-3) ≤ z ∧ z ≤ 101)) := by
  have FI : gr_fr [0, 68, 69, 143, 206] [56, 57, 83, 85, 126, 127, 128, 129] I I := fun _ _ _ => rfl
  have FJ : gr_fj [0, 68, 69, 143, 206] [56, 57, 83, 85, 126, 127, 128, 129] J J := fun _ _ _ => rfl
  have hD : gv_D (gr_E ws0 tb 2 (yX13_add, cX13_add, 4, (some .int)) kX13_add) := gq_ok oX13_add
  refine gr_ev (d := 2) (l := kX13_add) (Po := fun r h' => (∃ (I' : gr_I) (J' : gr_J), h' = gr_h I' J' ∧ gr_Inv I' ∧ gr_fr [0, 68, 69, 143, 206] [56, 57, 83, 85, 126, 127, 128, 129] I I' ∧ gr_fj [0, 68, 69, 143, 206] [56, 57, 83, 85, 126, 127, 128, 129] J J' ∧ (∃ z : Int, r = some (.inl z) ∧ (-3) ≤ z ∧ z ≤ 101))) htb rfl (Nat.le_of_ble_eq_true rfl) ?_
  have f1 := (show 0 ≤ I 0 206 ∧ I 0 206 ≤ 100 from (hI 0 206).1)
  have f2 := (show 0 ≤ I 0 143 ∧ I 0 143 ≤ 24 from (hI 0 143).1)
  have L61 : ∀ (n : Nat) (I3 : gr_I) (J4 : gr_J) (v2_5 : Int), (25 - v2_5).toNat < n → gr_Inv I3 → gr_fr [0, 68, 69, 143, 206] [56, 57, 83, 85, 126, 127, 128, 129] I I3 → gr_fj [0, 68, 69, 143, 206] [56, 57, 83, 85, 126, 127, 128, 129] J J4 → ((0 ≤ v2_5 ∧ v2_5 ≤ 24) ∧ (I3 0 206 ≤ 99)) → gv_X (gr_E ws0 tb 2 (yX13_add, cX13_add, 4, (some .int)) kX13_add) (gv_Q cX13_add (some .int) (gr_sh ++ ext) (fun r h' => (∃ (I' : gr_I) (J' : gr_J), h' = gr_h I' J' ∧ gr_Inv I' ∧ gr_fr [0, 68, 69, 143, 206] [56, 57, 83, 85, 126, 127, 128, 129] I I' ∧ gr_fj [0, 68, 69, 143, 206] [56, 57, 83, 85, 126, 127, 128, 129] J J' ∧ (∃ z : Int, r = some (.inl z) ∧ (-3) ≤ z ∧ z ≤ 101)))) (61, [(0, .inr (.inr (some 0))), (2, .inl v2_5)], [], gr_sh ++ ext, gr_h I3 J4) := by
    intro n
    induction n with
    | zero => intro I3 J4 v2_5 hn; omega
    | succ n ih61 =>
      intro I3 J4 v2_5 hn hI3 FI3 FJ4 m_5
      obtain ⟨hv2_5, e0_5⟩ := m_5
      have f6 := (show 0 ≤ I3 0 206 ∧ I3 0 206 ≤ 100 from (hI3 0 206).1)
      have f7 := (show 0 ≤ I3 0 143 ∧ I3 0 143 ≤ 24 from (hI3 0 143).1)
      have L91 : ∀ (n : Nat) (I8 : gr_I) (J9 : gr_J) (v3_10 : Int), (25 - v3_10).toNat < n → gr_Inv I8 → gr_fr [0, 68, 69, 143, 206] [56, 57, 83, 85, 126, 127, 128, 129] I I8 → gr_fj [0, 68, 69, 143, 206] [56, 57, 83, 85, 126, 127, 128, 129] J J9 → ((0 ≤ v2_5 ∧ v2_5 ≤ 23) ∧ (0 ≤ v3_10 ∧ v3_10 ≤ 24) ∧ (I8 0 206 ≤ 99)) → gv_X (gr_E ws0 tb 2 (yX13_add, cX13_add, 4, (some .int)) kX13_add) (gv_Q cX13_add (some .int) (gr_sh ++ ext) (fun r h' => (∃ (I' : gr_I) (J' : gr_J), h' = gr_h I' J' ∧ gr_Inv I' ∧ gr_fr [0, 68, 69, 143, 206] [56, 57, 83, 85, 126, 127, 128, 129] I I' ∧ gr_fj [0, 68, 69, 143, 206] [56, 57, 83, 85, 126, 127, 128, 129] J J' ∧ (∃ z : Int, r = some (.inl z) ∧ (-3) ≤ z ∧ z ≤ 101)))) (91, [(0, .inr (.inr (some 0))), (2, .inl v2_5), (3, .inl v3_10)], [], gr_sh ++ ext, gr_h I8 J9) := by
        intro n
        induction n with
        | zero => intro I8 J9 v3_10 hn; omega
        | succ n ih91 =>
          intro I8 J9 v3_10 hn hI8 FI8 FJ9 m_10
          obtain ⟨hv2_5_10, hv3_10, e0_10⟩ := m_10
          have f11 := (show 0 ≤ I8 0 206 ∧ I8 0 206 ≤ 100 from (hI8 0 206).1)
          have f12 := (show 0 ≤ I8 0 143 ∧ I8 0 143 ≤ 24 from (hI8 0 143).1)
          have f13 := (show 0 ≤ I8 85 (Int.toNat v2_5) ∧ I8 85 (Int.toNat v2_5) ≤ 24 from (hI8 85 (Int.toNat v2_5)).1)
          refine gv_run 5 true hD (pc' := 98) (lv' := [(0, .inr (.inr (some 0))), (2, .inl v2_5), (3, .inl v3_10)]) (st' := [.inl (I8 85 (Int.toNat v2_5)), .inl v3_10]) (h' := gr_h I8 J9) (C := (((((True ∧ True) ∧ True) ∧ True) ∧ True) ∧ (0 ≤ v2_5 ∧ v2_5 < ((24 : Nat) : Int)))) rfl ⟨⟨⟨⟨⟨trivial, trivial⟩, trivial⟩, trivial⟩, trivial⟩, ⟨by omega, by omega⟩⟩ ?_
          refine gv_icmp_ge (t := 137) hD rfl rfl ⟨⟨by omega, by omega⟩, ⟨by omega, by omega⟩⟩ (fun c14 => ?_) (fun c14 => ?_)
          · refine gv_run 2 true hD (pc' := 61) (lv' := [(2, .inl (v2_5 + 1)), (0, .inr (.inr (some 0))), (3, .inl v3_10)]) (st' := []) (h' := gr_h I8 J9) (C := ((True ∧ True) ∧ True)) rfl ⟨⟨trivial, trivial⟩, trivial⟩ ?_
            refine gv_pick [1, 0] rfl ?_
            exact ih61 I8 J9 (v2_5 + 1) (by omega) hI8 FI8 FJ9 (by omega)
          · have f15 := (show 0 ≤ I8 0 206 ∧ I8 0 206 ≤ 100 from (hI8 0 206).1)
            refine gv_run 7 true hD (pc' := 113) (lv' := [(0, .inr (.inr (some 0))), (2, .inl v2_5), (3, .inl v3_10)]) (st' := [.inl v2_5, .inl (24 * (I8 0 206)), .inr (.inr (some 126))]) (h' := gr_h I8 J9) (C := (((((((True ∧ True) ∧ True) ∧ True) ∧ True) ∧ True) ∧ True) ∧ True)) rfl ⟨⟨⟨⟨⟨⟨⟨trivial, trivial⟩, trivial⟩, trivial⟩, trivial⟩, trivial⟩, trivial⟩, trivial⟩ ?_
            refine gv_run 7 true hD (pc' := 123) (lv' := [(0, .inr (.inr (some 0))), (2, .inl v2_5), (3, .inl v3_10)]) (st' := [.inr (.inr (some 83)), .inl ((((24 * (I8 0 206)) + v2_5) * 24) + v3_10), .inr (.inr (some 126))]) (h' := gr_h I8 J9) (C := (((((((True ∧ True) ∧ True) ∧ True) ∧ True) ∧ True) ∧ True) ∧ True)) rfl ⟨⟨⟨⟨⟨⟨⟨trivial, trivial⟩, trivial⟩, trivial⟩, trivial⟩, trivial⟩, trivial⟩, trivial⟩ ?_
            have f16 := (show (-128) ≤ I8 83 (Int.toNat (((24 * v2_5) + v3_10))) ∧ I8 83 (Int.toNat (((24 * v2_5) + v3_10))) ≤ 127 from (hI8 83 (Int.toNat (((24 * v2_5) + v3_10)))).1)
            refine gv_run 6 true hD (pc' := 130) (lv' := [(0, .inr (.inr (some 0))), (2, .inl v2_5), (3, .inl v3_10)]) (st' := [.inl (I8 83 (Int.toNat (((24 * v2_5) + v3_10)))), .inl ((((24 * (I8 0 206)) + v2_5) * 24) + v3_10), .inr (.inr (some 126))]) (h' := gr_h I8 J9) (C := ((((((True ∧ True) ∧ True) ∧ True) ∧ True) ∧ True) ∧ (0 ≤ (((24 * v2_5) + v3_10)) ∧ (((24 * v2_5) + v3_10)) < ((576 : Nat) : Int)))) rfl ⟨⟨⟨⟨⟨⟨trivial, trivial⟩, trivial⟩, trivial⟩, trivial⟩, trivial⟩, ⟨by omega, by omega⟩⟩ ?_
            have f17 := gw_nar_byte (x := ((I8 83 (Int.toNat (((24 * v2_5) + v3_10))))))
            refine gv_run 1 true hD (pc' := 131) (lv' := [(0, .inr (.inr (some 0))), (2, .inl v2_5), (3, .inl v3_10)]) (st' := []) (h' := gz_up (gr_h I8 J9) 126 (Int.toNat (((((24 * (I8 0 206)) + v2_5) * 24) + v3_10))) (.inl (((vp_nar .byte (Int32.ofInt ((I8 83 (Int.toNat (((24 * v2_5) + v3_10))))))).toInt)))) (C := (True ∧ (0 ≤ (((((24 * (I8 0 206)) + v2_5) * 24) + v3_10)) ∧ (((((24 * (I8 0 206)) + v2_5) * 24) + v3_10)) < ((57600 : Nat) : Int)))) rfl ⟨trivial, ⟨by omega, by omega⟩⟩ ?_
            refine gr_st hI8 FI8 rfl rfl ⟨⟨by show (-128) ≤ _; omega, by show _ ≤ 127; omega⟩, trivial⟩ (fun I18 hI18 FI18 q19 p19 => ?_)
            have t20 := p19 0 206 (fun q => absurd q.1 (by decide))
            have t21 := p19 0 143 (fun q => absurd q.1 (by decide))
            have f22 := (show 0 ≤ I18 0 206 ∧ I18 0 206 ≤ 100 from (hI18 0 206).1)
            have f23 := (show 0 ≤ I18 0 143 ∧ I18 0 143 ≤ 24 from (hI18 0 143).1)
            refine gv_run 2 true hD (pc' := 91) (lv' := [(3, .inl (v3_10 + 1)), (0, .inr (.inr (some 0))), (2, .inl v2_5)]) (st' := []) (h' := gr_h I18 J9) (C := ((True ∧ True) ∧ True)) rfl ⟨⟨trivial, trivial⟩, trivial⟩ ?_
            refine gv_pick [1, 2, 0] rfl ?_
            exact ih91 I18 J9 (v3_10 + 1) (by omega) hI18 FI18 FJ9 (by omega)
      have f24 := (show 0 ≤ I3 0 143 ∧ I3 0 143 ≤ 24 from (hI3 0 143).1)
      refine gv_run 3 true hD (pc' := 66) (lv' := [(0, .inr (.inr (some 0))), (2, .inl v2_5)]) (st' := [.inl (I3 0 143), .inl v2_5]) (h' := gr_h I3 J4) (C := (((True ∧ True) ∧ True) ∧ True)) rfl ⟨⟨⟨trivial, trivial⟩, trivial⟩, trivial⟩ ?_
      refine gv_icmp_ge (t := 143) hD rfl rfl ⟨⟨by omega, by omega⟩, ⟨by omega, by omega⟩⟩ (fun c25 => ?_) (fun c25 => ?_)
      · have f26 := (show 0 ≤ I3 0 206 ∧ I3 0 206 ≤ 100 from (hI3 0 206).1)
        refine gv_run 6 true hD (pc' := 151) (lv' := [(0, .inr (.inr (some 0))), (2, .inl v2_5)]) (st' := [.inl ((I3 0 206) + 1), .inr (.inr (some 0)), .inl ((I3 0 206) + 1)]) (h' := gr_h I3 J4) (C := ((((((True ∧ True) ∧ True) ∧ True) ∧ True) ∧ True) ∧ True)) rfl ⟨⟨⟨⟨⟨⟨trivial, trivial⟩, trivial⟩, trivial⟩, trivial⟩, trivial⟩, trivial⟩ ?_
        refine gv_run 1 true hD (pc' := 154) (lv' := [(0, .inr (.inr (some 0))), (2, .inl v2_5)]) (st' := [.inl ((I3 0 206) + 1)]) (h' := gz_up (gr_h I3 J4) 0 206 (.inl (((I3 0 206) + 1)))) (C := (True ∧ True)) rfl ⟨trivial, trivial⟩ ?_
        refine gr_st hI3 FI3 rfl rfl ⟨⟨by show 0 ≤ _; omega, by show _ ≤ 100; omega⟩, trivial⟩ (fun I27 hI27 FI27 q28 p28 => ?_)
        have t29 := p28 0 143 (by decide)
        have f30 := (show 0 ≤ I27 0 206 ∧ I27 0 206 ≤ 100 from (hI27 0 206).1)
        have f31 := (show 0 ≤ I27 0 143 ∧ I27 0 143 ≤ 24 from (hI27 0 143).1)
        exact gv_iret hD rfl ⟨I27, J4, rfl, hI27, FI27, FJ4, ⟨_, rfl, by omega⟩⟩
      · have f32 := (show 0 ≤ I3 0 206 ∧ I3 0 206 ≤ 100 from (hI3 0 206).1)
        refine gv_run 7 true hD (pc' := 81) (lv' := [(0, .inr (.inr (some 0))), (2, .inl v2_5)]) (st' := [.inl v2_5, .inl (24 * (I3 0 206)), .inr (.inr (some 129))]) (h' := gr_h I3 J4) (C := (((((((True ∧ True) ∧ True) ∧ True) ∧ True) ∧ True) ∧ True) ∧ True)) rfl ⟨⟨⟨⟨⟨⟨⟨trivial, trivial⟩, trivial⟩, trivial⟩, trivial⟩, trivial⟩, trivial⟩, trivial⟩ ?_
        have f33 := (show 0 ≤ I3 85 (Int.toNat v2_5) ∧ I3 85 (Int.toNat v2_5) ≤ 24 from (hI3 85 (Int.toNat v2_5)).1)
        refine gv_run 5 true hD (pc' := 88) (lv' := [(0, .inr (.inr (some 0))), (2, .inl v2_5)]) (st' := [.inl (I3 85 (Int.toNat v2_5)), .inl ((24 * (I3 0 206)) + v2_5), .inr (.inr (some 129))]) (h' := gr_h I3 J4) (C := (((((True ∧ True) ∧ True) ∧ True) ∧ True) ∧ (0 ≤ v2_5 ∧ v2_5 < ((24 : Nat) : Int)))) rfl ⟨⟨⟨⟨⟨trivial, trivial⟩, trivial⟩, trivial⟩, trivial⟩, ⟨by omega, by omega⟩⟩ ?_
        refine gv_run 1 true hD (pc' := 89) (lv' := [(0, .inr (.inr (some 0))), (2, .inl v2_5)]) (st' := []) (h' := gz_up (gr_h I3 J4) 129 (Int.toNat (((24 * (I3 0 206)) + v2_5))) (.inl ((I3 85 (Int.toNat v2_5))))) (C := (True ∧ (0 ≤ (((24 * (I3 0 206)) + v2_5)) ∧ (((24 * (I3 0 206)) + v2_5)) < ((2400 : Nat) : Int)))) rfl ⟨trivial, ⟨by omega, by omega⟩⟩ ?_
        refine gr_st hI3 FI3 rfl rfl ⟨⟨by show 0 ≤ _; omega, by show _ ≤ 24; omega⟩, trivial⟩ (fun I34 hI34 FI34 q35 p35 => ?_)
        have t36 := p35 0 206 (fun q => absurd q.1 (by decide))
        have t37 := p35 0 143 (fun q => absurd q.1 (by decide))
        have f38 := (show 0 ≤ I34 0 206 ∧ I34 0 206 ≤ 100 from (hI34 0 206).1)
        have f39 := (show 0 ≤ I34 0 143 ∧ I34 0 143 ≤ 24 from (hI34 0 143).1)
        refine gv_run 2 true hD (pc' := 91) (lv' := [(3, .inl 0), (0, .inr (.inr (some 0))), (2, .inl v2_5)]) (st' := []) (h' := gr_h I34 J4) (C := ((True ∧ True) ∧ True)) rfl ⟨⟨trivial, trivial⟩, trivial⟩ ?_
        refine gv_pick [1, 2, 0] rfl ?_
        exact L91 _ I34 J4 0 (Nat.lt_succ_self _) hI34 FI34 FJ4 (by omega)
  refine gv_run 2 true hD (pc' := 2) (lv' := [(0, .inr (.inr (some 0))), (1, .inl a1)]) (st' := [.inl a1, .inr (.inr (some 0))]) (h' := gr_h I J) (C := ((True ∧ True) ∧ True)) rfl ⟨⟨trivial, trivial⟩, trivial⟩ ?_
  obtain ⟨r40, h40, E40, P40⟩ := r_noTongue (ws0 := ws0) (tb := tb) hws htb ext I J hI a1 ⟨by omega, by omega⟩ 
  obtain ⟨I41, J42, rfl, hI41, g40, k40, ⟨z40, rfl, q40⟩⟩ := P40
  have FI41 := gr_frt FI g40 rfl rfl
  have FJ42 := gr_fjt FJ k40 rfl rfl
  have t43 := g40 0 206 rfl
  have t44 := g40 0 143 rfl
  have f45 := (show 0 ≤ I41 0 206 ∧ I41 0 206 ≤ 100 from (hI41 0 206).1)
  have f46 := (show 0 ≤ I41 0 143 ∧ I41 0 143 ≤ 24 from (hI41 0 143).1)
  refine gv_callV hD rfl (As := [.inl a1]) (st := []) rfl (by decide) rfl rfl (gr_lV hws rfl) (Nat.le_of_ble_eq_true rfl) (gz_Ev_mono (d := 1) (by decide) E40) ?_
  show gv_X _ _ (5, [(0, .inr (.inr (some 0))), (1, .inl a1)], [.inl z40], gr_sh ++ ext, gr_h I41 J42)
  refine gv_if_eq (t := 10) hD rfl rfl ⟨by omega, by omega⟩ (fun c47 => ?_) (fun c47 => ?_)
  · have f48 := (show 0 ≤ I41 0 206 ∧ I41 0 206 ≤ 100 from (hI41 0 206).1)
    refine gv_run 3 true hD (pc' := 16) (lv' := [(0, .inr (.inr (some 0))), (1, .inl a1)]) (st' := [.inl 100, .inl (I41 0 206)]) (h' := gr_h I41 J42) (C := (((True ∧ True) ∧ True) ∧ True)) rfl ⟨⟨⟨trivial, trivial⟩, trivial⟩, trivial⟩ ?_
    refine gv_icmp_ne (t := 26) hD rfl rfl ⟨⟨by omega, by omega⟩, ⟨by omega, by omega⟩⟩ (fun c49 => ?_) (fun c49 => ?_)
    · refine gv_run 1 true hD (pc' := 27) (lv' := [(0, .inr (.inr (some 0))), (1, .inl a1)]) (st' := [.inr (.inr (some 0))]) (h' := gr_h I41 J42) (C := (True ∧ True)) rfl ⟨trivial, trivial⟩ ?_
      obtain ⟨r50, h50, E50, P50⟩ := r_sentence (ws0 := ws0) (tb := tb) hws htb ext I41 J42 hI41   
      obtain ⟨I51, J52, rfl, hI51, g50, k50, ⟨z50, rfl, q50⟩⟩ := P50
      have FI51 := gr_frt FI41 g50 rfl rfl
      have FJ52 := gr_fjt FJ42 k50 rfl rfl
      have t53 := g50 0 206 rfl
      have f54 := (show 0 ≤ I51 0 206 ∧ I51 0 206 ≤ 100 from (hI51 0 206).1)
      have f55 := (show 0 ≤ I51 0 143 ∧ I51 0 143 ≤ 24 from (hI51 0 143).1)
      refine gv_callV hD rfl (As := []) (st := []) rfl (by decide) rfl rfl (gr_lV hws rfl) (Nat.le_of_ble_eq_true rfl) (gz_Ev_mono (d := 2) (by decide) E50) ?_
      show gv_X _ _ (30, [(0, .inr (.inr (some 0))), (1, .inl a1)], [.inl z50], gr_sh ++ ext, gr_h I51 J52)
      refine gv_if_ne (t := 36) hD rfl rfl ⟨by omega, by omega⟩ (fun c56 => ?_) (fun c56 => ?_)
      · have f57 := (show 0 ≤ I51 0 206 ∧ I51 0 206 ≤ 100 from (hI51 0 206).1)
        have f58 := (show 0 ≤ I51 0 143 ∧ I51 0 143 ≤ 24 from (hI51 0 143).1)
        refine gv_run 6 true hD (pc' := 48) (lv' := [(0, .inr (.inr (some 0))), (1, .inl a1)]) (st' := [.inl (I51 0 143), .inl (I51 0 206), .inr (.inr (some 127))]) (h' := gr_h I51 J52) (C := ((((((True ∧ True) ∧ True) ∧ True) ∧ True) ∧ True) ∧ True)) rfl ⟨⟨⟨⟨⟨⟨trivial, trivial⟩, trivial⟩, trivial⟩, trivial⟩, trivial⟩, trivial⟩ ?_
        refine gv_run 1 true hD (pc' := 49) (lv' := [(0, .inr (.inr (some 0))), (1, .inl a1)]) (st' := []) (h' := gz_up (gr_h I51 J52) 127 (Int.toNat ((I51 0 206))) (.inl (I51 0 143))) (C := (True ∧ (0 ≤ (I51 0 206) ∧ (I51 0 206) < ((100 : Nat) : Int)))) rfl ⟨trivial, ⟨by omega, by omega⟩⟩ ?_
        refine gr_st hI51 FI51 rfl rfl ⟨⟨by show 0 ≤ _; omega, by show _ ≤ 24; omega⟩, trivial⟩ (fun I59 hI59 FI59 q60 p60 => ?_)
        have t61 := p60 0 206 (fun q => absurd q.1 (by decide))
        have t62 := p60 0 143 (fun q => absurd q.1 (by decide))
        have f63 := (show 0 ≤ I59 0 206 ∧ I59 0 206 ≤ 100 from (hI59 0 206).1)
        have f64 := (show 0 ≤ I59 0 143 ∧ I59 0 143 ≤ 24 from (hI59 0 143).1)
        have f65 := (show 0 ≤ I59 0 206 ∧ I59 0 206 ≤ 100 from (hI59 0 206).1)
        refine gv_run 5 true hD (pc' := 58) (lv' := [(0, .inr (.inr (some 0))), (1, .inl a1)]) (st' := [.inl a1, .inl (I59 0 206), .inr (.inr (some 128))]) (h' := gr_h I59 J52) (C := (((((True ∧ True) ∧ True) ∧ True) ∧ True) ∧ True)) rfl ⟨⟨⟨⟨⟨trivial, trivial⟩, trivial⟩, trivial⟩, trivial⟩, trivial⟩ ?_
        refine gv_run 1 true hD (pc' := 59) (lv' := [(0, .inr (.inr (some 0))), (1, .inl a1)]) (st' := []) (h' := gz_up (gr_h I59 J52) 128 (Int.toNat ((I59 0 206))) (.inl a1)) (C := (True ∧ (0 ≤ (I59 0 206) ∧ (I59 0 206) < ((100 : Nat) : Int)))) rfl ⟨trivial, ⟨by omega, by omega⟩⟩ ?_
        refine gr_st hI59 FI59 rfl rfl ⟨⟨by show 0 ≤ _; omega, by show _ ≤ 7; omega⟩, trivial⟩ (fun I66 hI66 FI66 q67 p67 => ?_)
        have t68 := p67 0 206 (fun q => absurd q.1 (by decide))
        have t69 := p67 0 143 (fun q => absurd q.1 (by decide))
        have f70 := (show 0 ≤ I66 0 206 ∧ I66 0 206 ≤ 100 from (hI66 0 206).1)
        have f71 := (show 0 ≤ I66 0 143 ∧ I66 0 143 ≤ 24 from (hI66 0 143).1)
        refine gv_run 2 true hD (pc' := 61) (lv' := [(2, .inl 0), (0, .inr (.inr (some 0))), (1, .inl a1)]) (st' := []) (h' := gr_h I66 J52) (C := ((True ∧ True) ∧ True)) rfl ⟨⟨trivial, trivial⟩, trivial⟩ ?_
        refine gv_pick [1, 0] rfl ?_
        exact L61 _ I66 J52 0 (Nat.lt_succ_self _) hI66 FI66 FJ52 (by omega)
      · refine gv_run 1 true hD (pc' := 35) (lv' := [(0, .inr (.inr (some 0))), (1, .inl a1)]) (st' := [.inl (-3)]) (h' := gr_h I51 J52) (C := (True ∧ True)) rfl ⟨trivial, trivial⟩ ?_
        exact gv_iret hD rfl ⟨I51, J52, rfl, hI51, FI51, FJ52, ⟨_, rfl, by omega⟩⟩
    · refine gv_run 3 true hD (pc' := 24) (lv' := [(0, .inr (.inr (some 0))), (1, .inl a1)]) (st' := []) (h' := gz_up (gr_h I41 J42) 0 0 (.inl 2)) (C := (((True ∧ True) ∧ True) ∧ True)) rfl ⟨⟨⟨trivial, trivial⟩, trivial⟩, trivial⟩ ?_
      refine gr_st hI41 FI41 rfl rfl ⟨⟨by show 0 ≤ _; omega, by show _ ≤ 2; omega⟩, trivial⟩ (fun I72 hI72 FI72 q73 p73 => ?_)
      have t74 := p73 0 206 (by decide)
      have t75 := p73 0 143 (by decide)
      have f76 := (show 0 ≤ I72 0 206 ∧ I72 0 206 ≤ 100 from (hI72 0 206).1)
      have f77 := (show 0 ≤ I72 0 143 ∧ I72 0 143 ≤ 24 from (hI72 0 143).1)
      refine gv_run 1 true hD (pc' := 25) (lv' := [(0, .inr (.inr (some 0))), (1, .inl a1)]) (st' := [.inl 0]) (h' := gr_h I72 J42) (C := (True ∧ True)) rfl ⟨trivial, trivial⟩ ?_
      exact gv_iret hD rfl ⟨I72, J42, rfl, hI72, FI72, FJ42, ⟨_, rfl, by omega⟩⟩
  · refine gv_run 1 true hD (pc' := 9) (lv' := [(0, .inr (.inr (some 0))), (1, .inl a1)]) (st' := [.inl 0]) (h' := gr_h I41 J42) (C := (True ∧ True)) rfl ⟨trivial, trivial⟩ ?_
    exact gv_iret hD rfl ⟨I41, J42, rfl, hI41, FI41, FJ42, ⟨_, rfl, by omega⟩⟩
set_option maxHeartbeats 4000000 in
set_option maxRecDepth 100000 in
theorem r_word__84 {ws0 : List Cond} {tb : String → gz_T} (hws : ∀ w ∈ gr_ws, w ∈ ws0) (htb : tb RX13 = gr_T) (ext : gz_Sh) (I : gr_I) (J : gr_J) (hI : gr_Inv I) (a1 : Int) (a3 : Int) (a4 : Int) (ha1 : 0 ≤ a1 ∧ a1 ≤ 23) (ha3 : 0 ≤ a3 ∧ a3 ≤ 576) (ha4 : 0 ≤ a4 ∧ a4 ≤ 24) (x0 : a3 + a4 ≤ 576) : ∃ r h', gz_Ev ws0 tb 1 (yX13_word_, cX13_word_, 6, none) [.inr (.inr (some 0)), .inl a1, .inr (.inr (some 84)), .inl a3, .inl a4] (gr_sh ++ ext) (gr_h I J) r (gr_sh ++ ext) h' 0 0 ∧ (∃ (I' : gr_I) (J' : gr_J), h' = gr_h I' J' ∧ gr_Inv I' ∧ gr_fr [] [83, 84, 85] I I' ∧ gr_fj [] [83, 84, 85] J J' ∧ r = none) := by
  have FI : gr_fr [] [83, 84, 85] I I := fun _ _ _ => rfl
  have FJ : gr_fj [] [83, 84, 85] J J := fun _ _ _ => rfl
  have hD : gv_D (gr_E ws0 tb 0 (yX13_word_, cX13_word_, 6, none) kX13_word_) := gq_ok oX13_word_
  refine gr_ev (d := 0) (l := kX13_word_) (Po := fun r h' => (∃ (I' : gr_I) (J' : gr_J), h' = gr_h I' J' ∧ gr_Inv I' ∧ gr_fr [] [83, 84, 85] I I' ∧ gr_fj [] [83, 84, 85] J J' ∧ r = none)) htb rfl (Nat.le_of_ble_eq_true rfl) ?_
  have L11 : ∀ (n : Nat) (I1 : gr_I) (J2 : gr_J) (v5_3 : Int), (25 - v5_3).toNat < n → gr_Inv I1 → gr_fr [] [83, 84, 85] I I1 → gr_fj [] [83, 84, 85] J J2 → ((0 ≤ a1 ∧ a1 ≤ 23) ∧ (0 ≤ a3 ∧ a3 ≤ 576) ∧ (0 ≤ a4 ∧ a4 ≤ 24) ∧ (0 ≤ v5_3 ∧ v5_3 ≤ 24)) → gv_X (gr_E ws0 tb 0 (yX13_word_, cX13_word_, 6, none) kX13_word_) (gv_Q cX13_word_ none (gr_sh ++ ext) (fun r h' => (∃ (I' : gr_I) (J' : gr_J), h' = gr_h I' J' ∧ gr_Inv I' ∧ gr_fr [] [83, 84, 85] I I' ∧ gr_fj [] [83, 84, 85] J J' ∧ r = none))) (11, [(0, .inr (.inr (some 0))), (1, .inl a1), (2, .inr (.inr (some 84))), (3, .inl a3), (4, .inl a4), (5, .inl v5_3)], [], gr_sh ++ ext, gr_h I1 J2) := by
    intro n
    induction n with
    | zero => intro I1 J2 v5_3 hn; omega
    | succ n ih11 =>
      intro I1 J2 v5_3 hn hI1 FI1 FJ2 m_3
      obtain ⟨ha1_3, ha3_3, ha4_3, hv5_3⟩ := m_3
      refine gv_run 2 true hD (pc' := 15) (lv' := [(0, .inr (.inr (some 0))), (1, .inl a1), (2, .inr (.inr (some 84))), (3, .inl a3), (4, .inl a4), (5, .inl v5_3)]) (st' := [.inl a4, .inl v5_3]) (h' := gr_h I1 J2) (C := ((True ∧ True) ∧ True)) rfl ⟨⟨trivial, trivial⟩, trivial⟩ ?_
      refine gv_icmp_ge (t := 42) hD rfl rfl ⟨⟨by omega, by omega⟩, ⟨by omega, by omega⟩⟩ (fun c4 => ?_) (fun c4 => ?_)
      · exact gv_vret hD rfl ⟨I1, J2, rfl, hI1, FI1, FJ2, rfl⟩
      · refine gv_run 7 true hD (pc' := 29) (lv' := [(0, .inr (.inr (some 0))), (1, .inl a1), (2, .inr (.inr (some 84))), (3, .inl a3), (4, .inl a4), (5, .inl v5_3)]) (st' := [.inl ((24 * a1) + v5_3), .inr (.inr (some 83))]) (h' := gr_h I1 J2) (C := (((((((True ∧ True) ∧ True) ∧ True) ∧ True) ∧ True) ∧ True) ∧ True)) rfl ⟨⟨⟨⟨⟨⟨⟨trivial, trivial⟩, trivial⟩, trivial⟩, trivial⟩, trivial⟩, trivial⟩, trivial⟩ ?_
        have f5 := (show (-128) ≤ I1 84 (Int.toNat ((a3 + v5_3))) ∧ I1 84 (Int.toNat ((a3 + v5_3))) ≤ 127 from (hI1 84 (Int.toNat ((a3 + v5_3)))).1)
        refine gv_run 5 true hD (pc' := 35) (lv' := [(0, .inr (.inr (some 0))), (1, .inl a1), (2, .inr (.inr (some 84))), (3, .inl a3), (4, .inl a4), (5, .inl v5_3)]) (st' := [.inl (I1 84 (Int.toNat ((a3 + v5_3)))), .inl ((24 * a1) + v5_3), .inr (.inr (some 83))]) (h' := gr_h I1 J2) (C := (((((True ∧ True) ∧ True) ∧ True) ∧ True) ∧ (0 ≤ (a3 + v5_3) ∧ (a3 + v5_3) < ((576 : Nat) : Int)))) rfl ⟨⟨⟨⟨⟨trivial, trivial⟩, trivial⟩, trivial⟩, trivial⟩, ⟨by omega, by omega⟩⟩ ?_
        have f6 := gw_nar_byte (x := ((I1 84 (Int.toNat ((a3 + v5_3))))))
        refine gv_run 1 true hD (pc' := 36) (lv' := [(0, .inr (.inr (some 0))), (1, .inl a1), (2, .inr (.inr (some 84))), (3, .inl a3), (4, .inl a4), (5, .inl v5_3)]) (st' := []) (h' := gz_up (gr_h I1 J2) 83 (Int.toNat (((24 * a1) + v5_3))) (.inl (((vp_nar .byte (Int32.ofInt ((I1 84 (Int.toNat ((a3 + v5_3))))))).toInt)))) (C := (True ∧ (0 ≤ (((24 * a1) + v5_3)) ∧ (((24 * a1) + v5_3)) < ((576 : Nat) : Int)))) rfl ⟨trivial, ⟨by omega, by omega⟩⟩ ?_
        refine gr_st hI1 FI1 rfl rfl ⟨⟨by show (-128) ≤ _; omega, by show _ ≤ 127; omega⟩, trivial⟩ (fun I7 hI7 FI7 q8 p8 => ?_)
        refine gv_run 2 true hD (pc' := 11) (lv' := [(5, .inl (v5_3 + 1)), (0, .inr (.inr (some 0))), (1, .inl a1), (2, .inr (.inr (some 84))), (3, .inl a3), (4, .inl a4)]) (st' := []) (h' := gr_h I7 J2) (C := ((True ∧ True) ∧ True)) rfl ⟨⟨trivial, trivial⟩, trivial⟩ ?_
        refine gv_pick [1, 2, 3, 4, 5, 0] rfl ?_
        exact ih11 I7 J2 (v5_3 + 1) (by omega) hI7 FI7 FJ2 (by omega)
  refine gv_run 4 true hD (pc' := 7) (lv' := [(0, .inr (.inr (some 0))), (1, .inl a1), (2, .inr (.inr (some 84))), (3, .inl a3), (4, .inl a4)]) (st' := [.inl a4, .inl a1, .inr (.inr (some 85))]) (h' := gr_h I J) (C := ((((True ∧ True) ∧ True) ∧ True) ∧ True)) rfl ⟨⟨⟨⟨trivial, trivial⟩, trivial⟩, trivial⟩, trivial⟩ ?_
  refine gv_run 1 true hD (pc' := 8) (lv' := [(0, .inr (.inr (some 0))), (1, .inl a1), (2, .inr (.inr (some 84))), (3, .inl a3), (4, .inl a4)]) (st' := []) (h' := gz_up (gr_h I J) 85 (Int.toNat a1) (.inl a4)) (C := (True ∧ (0 ≤ a1 ∧ a1 < ((24 : Nat) : Int)))) rfl ⟨trivial, ⟨by omega, by omega⟩⟩ ?_
  refine gr_st hI FI rfl rfl ⟨⟨by show 0 ≤ _; omega, by show _ ≤ 24; omega⟩, trivial⟩ (fun I9 hI9 FI9 q10 p10 => ?_)
  refine gv_run 2 true hD (pc' := 11) (lv' := [(5, .inl 0), (0, .inr (.inr (some 0))), (1, .inl a1), (2, .inr (.inr (some 84))), (3, .inl a3), (4, .inl a4)]) (st' := []) (h' := gr_h I9 J) (C := ((True ∧ True) ∧ True)) rfl ⟨⟨trivial, trivial⟩, trivial⟩ ?_
  refine gv_pick [1, 2, 3, 4, 5, 0] rfl ?_
  exact L11 _ I9 J 0 (Nat.lt_succ_self _) hI9 FI9 FJ (by omega)
set_option maxHeartbeats 4000000 in
set_option maxRecDepth 100000 in
theorem r_word__78 {ws0 : List Cond} {tb : String → gz_T} (hws : ∀ w ∈ gr_ws, w ∈ ws0) (htb : tb RX13 = gr_T) (ext : gz_Sh) (I : gr_I) (J : gr_J) (hI : gr_Inv I) (a1 : Int) (a3 : Int) (a4 : Int) (ha1 : 0 ≤ a1 ∧ a1 ≤ 23) (ha3 : 0 ≤ a3 ∧ a3 ≤ 36864) (ha4 : 0 ≤ a4 ∧ a4 ≤ 24) (x0 : a3 + a4 ≤ 36864) : ∃ r h', gz_Ev ws0 tb 1 (yX13_word_, cX13_word_, 6, none) [.inr (.inr (some 0)), .inl a1, .inr (.inr (some 78)), .inl a3, .inl a4] (gr_sh ++ ext) (gr_h I J) r (gr_sh ++ ext) h' 0 0 ∧ (∃ (I' : gr_I) (J' : gr_J), h' = gr_h I' J' ∧ gr_Inv I' ∧ gr_fr [] [78, 83, 85] I I' ∧ gr_fj [] [78, 83, 85] J J' ∧ r = none) := by
  have FI : gr_fr [] [78, 83, 85] I I := fun _ _ _ => rfl
  have FJ : gr_fj [] [78, 83, 85] J J := fun _ _ _ => rfl
  have hD : gv_D (gr_E ws0 tb 0 (yX13_word_, cX13_word_, 6, none) kX13_word_) := gq_ok oX13_word_
  refine gr_ev (d := 0) (l := kX13_word_) (Po := fun r h' => (∃ (I' : gr_I) (J' : gr_J), h' = gr_h I' J' ∧ gr_Inv I' ∧ gr_fr [] [78, 83, 85] I I' ∧ gr_fj [] [78, 83, 85] J J' ∧ r = none)) htb rfl (Nat.le_of_ble_eq_true rfl) ?_
  have L11 : ∀ (n : Nat) (I1 : gr_I) (J2 : gr_J) (v5_3 : Int), (25 - v5_3).toNat < n → gr_Inv I1 → gr_fr [] [78, 83, 85] I I1 → gr_fj [] [78, 83, 85] J J2 → ((0 ≤ a1 ∧ a1 ≤ 23) ∧ (0 ≤ a3 ∧ a3 ≤ 36864) ∧ (0 ≤ a4 ∧ a4 ≤ 24) ∧ (0 ≤ v5_3 ∧ v5_3 ≤ 24)) → gv_X (gr_E ws0 tb 0 (yX13_word_, cX13_word_, 6, none) kX13_word_) (gv_Q cX13_word_ none (gr_sh ++ ext) (fun r h' => (∃ (I' : gr_I) (J' : gr_J), h' = gr_h I' J' ∧ gr_Inv I' ∧ gr_fr [] [78, 83, 85] I I' ∧ gr_fj [] [78, 83, 85] J J' ∧ r = none))) (11, [(0, .inr (.inr (some 0))), (1, .inl a1), (2, .inr (.inr (some 78))), (3, .inl a3), (4, .inl a4), (5, .inl v5_3)], [], gr_sh ++ ext, gr_h I1 J2) := by
    intro n
    induction n with
    | zero => intro I1 J2 v5_3 hn; omega
    | succ n ih11 =>
      intro I1 J2 v5_3 hn hI1 FI1 FJ2 m_3
      obtain ⟨ha1_3, ha3_3, ha4_3, hv5_3⟩ := m_3
      refine gv_run 2 true hD (pc' := 15) (lv' := [(0, .inr (.inr (some 0))), (1, .inl a1), (2, .inr (.inr (some 78))), (3, .inl a3), (4, .inl a4), (5, .inl v5_3)]) (st' := [.inl a4, .inl v5_3]) (h' := gr_h I1 J2) (C := ((True ∧ True) ∧ True)) rfl ⟨⟨trivial, trivial⟩, trivial⟩ ?_
      refine gv_icmp_ge (t := 42) hD rfl rfl ⟨⟨by omega, by omega⟩, ⟨by omega, by omega⟩⟩ (fun c4 => ?_) (fun c4 => ?_)
      · exact gv_vret hD rfl ⟨I1, J2, rfl, hI1, FI1, FJ2, rfl⟩
      · refine gv_run 7 true hD (pc' := 29) (lv' := [(0, .inr (.inr (some 0))), (1, .inl a1), (2, .inr (.inr (some 78))), (3, .inl a3), (4, .inl a4), (5, .inl v5_3)]) (st' := [.inl ((24 * a1) + v5_3), .inr (.inr (some 83))]) (h' := gr_h I1 J2) (C := (((((((True ∧ True) ∧ True) ∧ True) ∧ True) ∧ True) ∧ True) ∧ True)) rfl ⟨⟨⟨⟨⟨⟨⟨trivial, trivial⟩, trivial⟩, trivial⟩, trivial⟩, trivial⟩, trivial⟩, trivial⟩ ?_
        have f5 := (show (-128) ≤ I1 78 (Int.toNat ((a3 + v5_3))) ∧ I1 78 (Int.toNat ((a3 + v5_3))) ≤ 127 from (hI1 78 (Int.toNat ((a3 + v5_3)))).1)
        refine gv_run 5 true hD (pc' := 35) (lv' := [(0, .inr (.inr (some 0))), (1, .inl a1), (2, .inr (.inr (some 78))), (3, .inl a3), (4, .inl a4), (5, .inl v5_3)]) (st' := [.inl (I1 78 (Int.toNat ((a3 + v5_3)))), .inl ((24 * a1) + v5_3), .inr (.inr (some 83))]) (h' := gr_h I1 J2) (C := (((((True ∧ True) ∧ True) ∧ True) ∧ True) ∧ (0 ≤ (a3 + v5_3) ∧ (a3 + v5_3) < ((36864 : Nat) : Int)))) rfl ⟨⟨⟨⟨⟨trivial, trivial⟩, trivial⟩, trivial⟩, trivial⟩, ⟨by omega, by omega⟩⟩ ?_
        have f6 := gw_nar_byte (x := ((I1 78 (Int.toNat ((a3 + v5_3))))))
        refine gv_run 1 true hD (pc' := 36) (lv' := [(0, .inr (.inr (some 0))), (1, .inl a1), (2, .inr (.inr (some 78))), (3, .inl a3), (4, .inl a4), (5, .inl v5_3)]) (st' := []) (h' := gz_up (gr_h I1 J2) 83 (Int.toNat (((24 * a1) + v5_3))) (.inl (((vp_nar .byte (Int32.ofInt ((I1 78 (Int.toNat ((a3 + v5_3))))))).toInt)))) (C := (True ∧ (0 ≤ (((24 * a1) + v5_3)) ∧ (((24 * a1) + v5_3)) < ((576 : Nat) : Int)))) rfl ⟨trivial, ⟨by omega, by omega⟩⟩ ?_
        refine gr_st hI1 FI1 rfl rfl ⟨⟨by show (-128) ≤ _; omega, by show _ ≤ 127; omega⟩, trivial⟩ (fun I7 hI7 FI7 q8 p8 => ?_)
        refine gv_run 2 true hD (pc' := 11) (lv' := [(5, .inl (v5_3 + 1)), (0, .inr (.inr (some 0))), (1, .inl a1), (2, .inr (.inr (some 78))), (3, .inl a3), (4, .inl a4)]) (st' := []) (h' := gr_h I7 J2) (C := ((True ∧ True) ∧ True)) rfl ⟨⟨trivial, trivial⟩, trivial⟩ ?_
        refine gv_pick [1, 2, 3, 4, 5, 0] rfl ?_
        exact ih11 I7 J2 (v5_3 + 1) (by omega) hI7 FI7 FJ2 (by omega)
  refine gv_run 4 true hD (pc' := 7) (lv' := [(0, .inr (.inr (some 0))), (1, .inl a1), (2, .inr (.inr (some 78))), (3, .inl a3), (4, .inl a4)]) (st' := [.inl a4, .inl a1, .inr (.inr (some 85))]) (h' := gr_h I J) (C := ((((True ∧ True) ∧ True) ∧ True) ∧ True)) rfl ⟨⟨⟨⟨trivial, trivial⟩, trivial⟩, trivial⟩, trivial⟩ ?_
  refine gv_run 1 true hD (pc' := 8) (lv' := [(0, .inr (.inr (some 0))), (1, .inl a1), (2, .inr (.inr (some 78))), (3, .inl a3), (4, .inl a4)]) (st' := []) (h' := gz_up (gr_h I J) 85 (Int.toNat a1) (.inl a4)) (C := (True ∧ (0 ≤ a1 ∧ a1 < ((24 : Nat) : Int)))) rfl ⟨trivial, ⟨by omega, by omega⟩⟩ ?_
  refine gr_st hI FI rfl rfl ⟨⟨by show 0 ≤ _; omega, by show _ ≤ 24; omega⟩, trivial⟩ (fun I9 hI9 FI9 q10 p10 => ?_)
  refine gv_run 2 true hD (pc' := 11) (lv' := [(5, .inl 0), (0, .inr (.inr (some 0))), (1, .inl a1), (2, .inr (.inr (some 78))), (3, .inl a3), (4, .inl a4)]) (st' := []) (h' := gr_h I9 J) (C := ((True ∧ True) ∧ True)) rfl ⟨⟨trivial, trivial⟩, trivial⟩ ?_
  refine gv_pick [1, 2, 3, 4, 5, 0] rfl ?_
  exact L11 _ I9 J 0 (Nat.lt_succ_self _) hI9 FI9 FJ (by omega)
set_option maxHeartbeats 4000000 in
set_option maxRecDepth 100000 in
theorem r_keeps {ws0 : List Cond} {tb : String → gz_T} (hws : ∀ w ∈ gr_ws, w ∈ ws0) (htb : tb RX13 = gr_T) (ext : gz_Sh) (I : gr_I) (J : gr_J) (hI : gr_Inv I)   (x0 : I 0 59 + 14 ≤ 2000) (x1 : I 0 73 - I 0 72 ≤ 14) (x2 : 2 ≤ I 0 73 - I 0 72) (x3 : I 0 73 ≤ 1000) : ∃ r h', gz_Ev ws0 tb 2 (yX13_keeps, cX13_keeps, 4, (some .int)) [.inr (.inr (some 0))] (gr_sh ++ ext) (gr_h I J) r (gr_sh ++ ext) h' 0 0 ∧ (∃ (I' : gr_I) (J' : gr_J), h' = gr_h I' J' ∧ gr_Inv I' ∧ gr_fr [59] [51, 57] I I' ∧ gr_fj [59] [51, 57] J J' ∧ (∃ z : Int, r = some (.inl z) ∧ 0 ≤ z ∧ z ≤ 32015 ∧ (I' 0 59 = I 0 59 + (I 0 73 - I 0 72 - 2)) ∧ (0 ≤ z ∧ z ≤ 32015))) := by
  have FI : gr_fr [59] [51, 57] I I := fun _ _ _ => rfl
  have FJ : gr_fj [59] [51, 57] J J := fun _ _ _ => rfl
  have hD : gv_D (gr_E ws0 tb 1 (yX13_keeps, cX13_keeps, 4, (some .int)) kX13_keeps) := gq_ok oX13_keeps
  refine gr_ev (d := 1) (l := kX13_keeps) (Po := fun r h' => (∃ (I' : gr_I) (J' : gr_J), h' = gr_h I' J' ∧ gr_Inv I' ∧ gr_fr [59] [51, 57] I I' ∧ gr_fj [59] [51, 57] J J' ∧ (∃ z : Int, r = some (.inl z) ∧ 0 ≤ z ∧ z ≤ 32015 ∧ (I' 0 59 = I 0 59 + (I 0 73 - I 0 72 - 2)) ∧ (0 ≤ z ∧ z ≤ 32015)))) htb rfl (Nat.le_of_ble_eq_true rfl) ?_
  have f1 := (show 0 ≤ I 0 59 ∧ I 0 59 ≤ 2000 from (hI 0 59).1)
  have f2 := (show 0 ≤ I 0 72 ∧ I 0 72 ≤ 1000 from (hI 0 72).1)
  have f3 := (show 0 ≤ I 0 73 ∧ I 0 73 ≤ 1001 from (hI 0 73).1)
  have L17 : ∀ (n : Nat) (I4 : gr_I) (J5 : gr_J) (v1_6 : Int) (v2_6 : Int) (v3_6 : Int), (13 - v3_6).toNat < n → gr_Inv I4 → gr_fr [59] [51, 57] I I4 → gr_fj [59] [51, 57] J J5 → ((0 ≤ v1_6 ∧ v1_6 ≤ 12) ∧ (0 ≤ v2_6 ∧ v2_6 ≤ 32015) ∧ (0 ≤ v3_6 ∧ v3_6 ≤ 12) ∧ (I4 0 59 = I 0 59 + v3_6) ∧ (I4 0 72 = I 0 72) ∧ (v1_6 = I 0 73 - I 0 72 - 2) ∧ (v3_6 ≤ v1_6)) → gv_X (gr_E ws0 tb 1 (yX13_keeps, cX13_keeps, 4, (some .int)) kX13_keeps) (gv_Q cX13_keeps (some .int) (gr_sh ++ ext) (fun r h' => (∃ (I' : gr_I) (J' : gr_J), h' = gr_h I' J' ∧ gr_Inv I' ∧ gr_fr [59] [51, 57] I I' ∧ gr_fj [59] [51, 57] J J' ∧ (∃ z : Int, r = some (.inl z) ∧ 0 ≤ z ∧ z ≤ 32015 ∧ (I' 0 59 = I 0 59 + (I 0 73 - I 0 72 - 2)) ∧ (0 ≤ z ∧ z ≤ 32015))))) (17, [(0, .inr (.inr (some 0))), (1, .inl v1_6), (2, .inl v2_6), (3, .inl v3_6)], [], gr_sh ++ ext, gr_h I4 J5) := by
    intro n
    induction n with
    | zero => intro I4 J5 v1_6 v2_6 v3_6 hn; omega
    | succ n ih17 =>
      intro I4 J5 v1_6 v2_6 v3_6 hn hI4 FI4 FJ5 m_6
      obtain ⟨hv1_6, hv2_6, hv3_6, e0_6, e1_6, e2_6, e3_6⟩ := m_6
      have f7 := (show 0 ≤ I4 0 59 ∧ I4 0 59 ≤ 2000 from (hI4 0 59).1)
      have f8 := (show 0 ≤ I4 0 72 ∧ I4 0 72 ≤ 1000 from (hI4 0 72).1)
      have f9 := (show 0 ≤ I4 0 73 ∧ I4 0 73 ≤ 1001 from (hI4 0 73).1)
      refine gv_run 2 true hD (pc' := 19) (lv' := [(0, .inr (.inr (some 0))), (1, .inl v1_6), (2, .inl v2_6), (3, .inl v3_6)]) (st' := [.inl v1_6, .inl v3_6]) (h' := gr_h I4 J5) (C := ((True ∧ True) ∧ True)) rfl ⟨⟨trivial, trivial⟩, trivial⟩ ?_
      refine gv_icmp_ge (t := 57) hD rfl rfl ⟨⟨by omega, by omega⟩, ⟨by omega, by omega⟩⟩ (fun c10 => ?_) (fun c10 => ?_)
      · refine gv_run 1 true hD (pc' := 58) (lv' := [(0, .inr (.inr (some 0))), (1, .inl v1_6), (2, .inl v2_6), (3, .inl v3_6)]) (st' := [.inl v2_6]) (h' := gr_h I4 J5) (C := (True ∧ True)) rfl ⟨trivial, trivial⟩ ?_
        exact gv_iret hD rfl ⟨I4, J5, rfl, hI4, FI4, FJ5, ⟨_, rfl, by omega⟩⟩
      · have f11 := (show 0 ≤ I4 0 59 ∧ I4 0 59 ≤ 2000 from (hI4 0 59).1)
        refine gv_run 7 true hD (pc' := 33) (lv' := [(0, .inr (.inr (some 0))), (1, .inl v1_6), (2, .inl v2_6), (3, .inl v3_6)]) (st' := [.inl 1, .inl (I4 0 59), .inr (.inr (some 0)), .inl (I4 0 59), .inr (.inr (some 51))]) (h' := gr_h I4 J5) (C := (((((((True ∧ True) ∧ True) ∧ True) ∧ True) ∧ True) ∧ True) ∧ True)) rfl ⟨⟨⟨⟨⟨⟨⟨trivial, trivial⟩, trivial⟩, trivial⟩, trivial⟩, trivial⟩, trivial⟩, trivial⟩ ?_
        refine gv_run 2 true hD (pc' := 37) (lv' := [(0, .inr (.inr (some 0))), (1, .inl v1_6), (2, .inl v2_6), (3, .inl v3_6)]) (st' := [.inl (I4 0 59), .inr (.inr (some 51))]) (h' := gz_up (gr_h I4 J5) 0 59 (.inl (((I4 0 59) + 1)))) (C := ((True ∧ True) ∧ True)) rfl ⟨⟨trivial, trivial⟩, trivial⟩ ?_
        refine gr_st hI4 FI4 rfl rfl ⟨⟨by show 0 ≤ _; omega, by show _ ≤ 2000; omega⟩, trivial⟩ (fun I12 hI12 FI12 q13 p13 => ?_)
        have t14 := p13 0 72 (by decide)
        have t15 := p13 0 73 (by decide)
        have f16 := (show 0 ≤ I12 0 59 ∧ I12 0 59 ≤ 2000 from (hI12 0 59).1)
        have f17 := (show 0 ≤ I12 0 72 ∧ I12 0 72 ≤ 1000 from (hI12 0 72).1)
        have f18 := (show 0 ≤ I12 0 73 ∧ I12 0 73 ≤ 1001 from (hI12 0 73).1)
        have f19 := (show 0 ≤ I12 0 72 ∧ I12 0 72 ≤ 1000 from (hI12 0 72).1)
        refine gv_run 7 true hD (pc' := 48) (lv' := [(0, .inr (.inr (some 0))), (1, .inl v1_6), (2, .inl v2_6), (3, .inl v3_6)]) (st' := [.inl v3_6, .inl ((I12 0 72) + 1), .inr (.inr (some 57)), .inl (I4 0 59), .inr (.inr (some 51))]) (h' := gr_h I12 J5) (C := (((((((True ∧ True) ∧ True) ∧ True) ∧ True) ∧ True) ∧ True) ∧ True)) rfl ⟨⟨⟨⟨⟨⟨⟨trivial, trivial⟩, trivial⟩, trivial⟩, trivial⟩, trivial⟩, trivial⟩, trivial⟩ ?_
        have f20 := (show (-128) ≤ I12 57 (Int.toNat ((((I12 0 72) + 1) + v3_6))) ∧ I12 57 (Int.toNat ((((I12 0 72) + 1) + v3_6))) ≤ 127 from (hI12 57 (Int.toNat ((((I12 0 72) + 1) + v3_6)))).1)
        refine gv_run 2 true hD (pc' := 50) (lv' := [(0, .inr (.inr (some 0))), (1, .inl v1_6), (2, .inl v2_6), (3, .inl v3_6)]) (st' := [.inl (I12 57 (Int.toNat ((((I12 0 72) + 1) + v3_6)))), .inl (I4 0 59), .inr (.inr (some 51))]) (h' := gr_h I12 J5) (C := ((True ∧ True) ∧ (0 ≤ ((((I12 0 72) + 1) + v3_6)) ∧ ((((I12 0 72) + 1) + v3_6)) < ((1000 : Nat) : Int)))) rfl ⟨⟨trivial, trivial⟩, ⟨by omega, by omega⟩⟩ ?_
        have f21 := gw_nar_byte (x := ((I12 57 (Int.toNat ((((I12 0 72) + 1) + v3_6))))))
        refine gv_run 1 true hD (pc' := 51) (lv' := [(0, .inr (.inr (some 0))), (1, .inl v1_6), (2, .inl v2_6), (3, .inl v3_6)]) (st' := []) (h' := gz_up (gr_h I12 J5) 51 (Int.toNat ((I4 0 59))) (.inl (((vp_nar .byte (Int32.ofInt ((I12 57 (Int.toNat ((((I12 0 72) + 1) + v3_6))))))).toInt)))) (C := (True ∧ (0 ≤ (I4 0 59) ∧ (I4 0 59) < ((82000 : Nat) : Int)))) rfl ⟨trivial, ⟨by omega, by omega⟩⟩ ?_
        refine gr_st hI12 FI12 rfl rfl ⟨⟨by show (-128) ≤ _; omega, by show _ ≤ 127; omega⟩, trivial⟩ (fun I22 hI22 FI22 q23 p23 => ?_)
        have t24 := p23 0 59 (fun q => absurd q.1 (by decide))
        have t25 := p23 0 72 (fun q => absurd q.1 (by decide))
        have t26 := p23 0 73 (fun q => absurd q.1 (by decide))
        have f27 := (show 0 ≤ I22 0 59 ∧ I22 0 59 ≤ 2000 from (hI22 0 59).1)
        have f28 := (show 0 ≤ I22 0 72 ∧ I22 0 72 ≤ 1000 from (hI22 0 72).1)
        have f29 := (show 0 ≤ I22 0 73 ∧ I22 0 73 ≤ 1001 from (hI22 0 73).1)
        refine gv_run 2 true hD (pc' := 17) (lv' := [(3, .inl (v3_6 + 1)), (0, .inr (.inr (some 0))), (1, .inl v1_6), (2, .inl v2_6)]) (st' := []) (h' := gr_h I22 J5) (C := ((True ∧ True) ∧ True)) rfl ⟨⟨trivial, trivial⟩, trivial⟩ ?_
        refine gv_pick [1, 2, 3, 0] rfl ?_
        exact ih17 I22 J5 v1_6 v2_6 (v3_6 + 1) (by omega) hI22 FI22 FJ5 (by omega)
  refine gv_run 1 true hD (pc' := 1) (lv' := [(0, .inr (.inr (some 0)))]) (st' := [.inr (.inr (some 0))]) (h' := gr_h I J) (C := (True ∧ True)) rfl ⟨trivial, trivial⟩ ?_
  obtain ⟨r30, h30, E30, P30⟩ := r_size (ws0 := ws0) (tb := tb) hws htb ext I J hI   
  obtain ⟨rfl, ⟨z30, rfl, q30⟩⟩ := P30
  refine gv_callV hD rfl (As := []) (st := []) rfl (by decide) rfl rfl (gr_lV hws rfl) (Nat.le_of_ble_eq_true rfl) (gz_Ev_mono (d := 1) (by decide) E30) ?_
  show gv_X _ _ (4, [(0, .inr (.inr (some 0)))], [.inl z30], gr_sh ++ ext, gr_h I J)
  have f31 := (show 0 ≤ I 0 59 ∧ I 0 59 ≤ 2000 from (hI 0 59).1)
  refine gv_run 7 true hD (pc' := 14) (lv' := [(1, .inl z30), (0, .inr (.inr (some 0)))]) (st' := [.inl ((16 * (I 0 59)) + z30)]) (h' := gr_h I J) (C := (((((((True ∧ True) ∧ True) ∧ True) ∧ True) ∧ True) ∧ True) ∧ True)) rfl ⟨⟨⟨⟨⟨⟨⟨trivial, trivial⟩, trivial⟩, trivial⟩, trivial⟩, trivial⟩, trivial⟩, trivial⟩ ?_
  refine gv_run 3 true hD (pc' := 17) (lv' := [(3, .inl 0), (2, .inl ((16 * (I 0 59)) + z30)), (1, .inl z30), (0, .inr (.inr (some 0)))]) (st' := []) (h' := gr_h I J) (C := (((True ∧ True) ∧ True) ∧ True)) rfl ⟨⟨⟨trivial, trivial⟩, trivial⟩, trivial⟩ ?_
  refine gv_pick [3, 2, 1, 0] rfl ?_
  exact L17 _ I J z30 (((16 * (I 0 59)) + z30)) 0 (Nat.lt_succ_self _) hI FI FJ (by omega)
