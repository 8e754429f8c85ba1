set_option maxHeartbeats 8000000 in
set_option maxRecDepth 100000 in
theorem r_sign_p {ws0 : List Cond} {tb : String → gz_T} (hws : ∀ w ∈ gr_ws, w ∈ ws0) (htb : tb RX13 = gr_T) (ext : gz_Sh) (β : Int → Int) (N9 : Int) (p9 : Int) (I : gr_I) (J : gr_J) (hI : gr_Inv I) (a1 : Int) (ha1 : 6 ≤ a1 ∧ a1 ≤ 127) (x0 : I 0 71 = 4 → I 0 72 ≤ 999) (x1 : gr_ATp β N9 p9 I J) (x2 : 0 ≤ p9) : ∃ r h', gz_Ev ws0 tb 1 (yX13_sign, cX13_sign, 2, (some .boolean)) [.inr (.inr (some 0)), .inl a1] (gr_sh ++ ext) (gr_h I J) r (gr_sh ++ ext) h' 0 0 ∧ (h' = gr_h I J ∧ (∃ z : Int, r = some (.inl z) ∧ 0 ≤ z ∧ z ≤ 1 ∧ (z = 0 ∨ I 0 71 = 4) ∧ ((z = 1 ∧ gs_T β N9 p9 = a1) ∨ (z = 0 ∧ ¬ gs_T β N9 p9 = a1)))) := by
  have hD : gv_D (gr_E ws0 tb 0 (yX13_sign, cX13_sign, 2, (some .boolean)) kX13_sign) := gq_of oX13_sign
  refine gr_ev (d := 0) (l := kX13_sign) (Po := fun r h' => (h' = gr_h I J ∧ (∃ z : Int, r = some (.inl z) ∧ 0 ≤ z ∧ z ≤ 1 ∧ (z = 0 ∨ I 0 71 = 4) ∧ ((z = 1 ∧ gs_T β N9 p9 = a1) ∨ (z = 0 ∧ ¬ gs_T β N9 p9 = a1))))) htb rfl (Nat.le_of_ble_eq_true rfl) ?_
  have tAT := gr_ATp_l x1
  have tS := gr_ATp_s x1 (gr_b_0_72 hI).1 (c := a1) (by exact gz_m 0 (by omega))
  have f1 := (gr_b_0_71 hI)
  have f2 := (gr_b_0_72 hI)
  have f3 := (gr_b_0_71 hI)
  refine gv_run 3 true hD (pc' := 5) (lv' := [(0, .inr (.inr (some 0))), (1, .inl a1)]) (st' := [.inl 4, .inl (I 0 71)]) (h' := gr_h I J) (C := (((True ∧ True) ∧ True) ∧ True)) rfl ⟨⟨⟨trivial, trivial⟩, trivial⟩, trivial⟩ ?_
  refine gv_icmp_ne (t := 25) hD rfl rfl ⟨⟨by exact gz_m 1 (by omega), by exact gz_m 2 (by omega)⟩, ⟨by exact gz_m 3 (by omega), by exact gz_m 4 (by omega)⟩⟩ (fun c4 => ?_) (fun c4 => ?_)
  · refine gv_run 1 true hD (pc' := 26) (lv' := [(0, .inr (.inr (some 0))), (1, .inl a1)]) (st' := [.inl 0]) (h' := gr_h I J) (C := (True ∧ True)) rfl ⟨trivial, trivial⟩ ?_
    exact gv_zret hD rfl (by exact gz_m 5 (by omega)) ⟨rfl, ⟨_, rfl, by exact gz_m 6 (by omega)⟩⟩
  · have f5 := (gr_b_0_72 hI)
    have f6 := (gr_b_57 hI (Int.toNat ((I 0 72))))
    refine gv_run 5 true hD (pc' := 17) (lv' := [(0, .inr (.inr (some 0))), (1, .inl a1)]) (st' := [.inl (I 57 (Int.toNat ((I 0 72))))]) (h' := gr_h I J) (C := (((((True ∧ True) ∧ True) ∧ True) ∧ True) ∧ (0 ≤ (I 0 72) ∧ (I 0 72) < ((1000 : Nat) : Int)))) rfl ⟨⟨⟨⟨⟨trivial, trivial⟩, trivial⟩, trivial⟩, trivial⟩, ⟨by exact gz_m 7 (by omega), by exact gz_m 8 (by omega)⟩⟩ ?_
    refine gv_run 1 true hD (pc' := 18) (lv' := [(0, .inr (.inr (some 0))), (1, .inl a1)]) (st' := [.inl a1, .inl (I 57 (Int.toNat ((I 0 72))))]) (h' := gr_h I J) (C := (True ∧ True)) rfl ⟨trivial, trivial⟩ ?_
    refine gv_icmp_ne (t := 25) hD rfl rfl ⟨⟨by exact gz_m 9 (by omega), by exact gz_m 10 (by omega)⟩, ⟨by exact gz_m 11 (by omega), by exact gz_m 12 (by omega)⟩⟩ (fun c7 => ?_) (fun c7 => ?_)
    · refine gv_run 1 true hD (pc' := 26) (lv' := [(0, .inr (.inr (some 0))), (1, .inl a1)]) (st' := [.inl 0]) (h' := gr_h I J) (C := (True ∧ True)) rfl ⟨trivial, trivial⟩ ?_
      exact gv_zret hD rfl (by exact gz_m 13 (by omega)) ⟨rfl, ⟨_, rfl, by exact gz_m 14 (by omega)⟩⟩
    · refine gv_run 2 true hD (pc' := 26) (lv' := [(0, .inr (.inr (some 0))), (1, .inl a1)]) (st' := [.inl 1]) (h' := gr_h I J) (C := ((True ∧ True) ∧ True)) rfl ⟨⟨trivial, trivial⟩, trivial⟩ ?_
      exact gv_zret hD rfl (by exact gz_m 15 (by omega)) ⟨rfl, ⟨_, rfl, by exact gz_m 16 (by omega)⟩⟩
set_option maxHeartbeats 8000000 in
set_option maxRecDepth 100000 in
theorem r_is_p {ws0 : List Cond} {tb : String → gz_T} (hws : ∀ w ∈ gr_ws, w ∈ ws0) (htb : tb RX13 = gr_T) (ext : gz_Sh) (β : Int → Int) (N9 : Int) (p9 : Int) (I : gr_I) (J : gr_J) (hI : gr_Inv I) (a1 : Int64)  (x0 : gr_ATp β N9 p9 I J) (x1 : 0 ≤ p9) : ∃ r h', gz_Ev ws0 tb 1 (yX13_is, cX13_is, 3, (some .boolean)) [.inr (.inr (some 0)), .inr (.inl a1)] (gr_sh ++ ext) (gr_h I J) r (gr_sh ++ ext) h' 0 0 ∧ (h' = gr_h I J ∧ (∃ z : Int, r = some (.inl z) ∧ 0 ≤ z ∧ z ≤ 1 ∧ (z = 0 ∨ I 0 71 = 1) ∧ (z = gs_kw β N9 p9 a1))) := by
  have hD : gv_D (gr_E ws0 tb 0 (yX13_is, cX13_is, 3, (some .boolean)) kX13_is) := gq_of oX13_is
  refine gr_ev (d := 0) (l := kX13_is) (Po := fun r h' => (h' = gr_h I J ∧ (∃ z : Int, r = some (.inl z) ∧ 0 ≤ z ∧ z ≤ 1 ∧ (z = 0 ∨ I 0 71 = 1) ∧ (z = gs_kw β N9 p9 a1)))) htb rfl (Nat.le_of_ble_eq_true rfl) ?_
  have tAT := gr_ATp_l x0
  have f1 := (gr_b_0_71 hI)
  have f2 := (gr_b_0_71 hI)
  refine gv_run 3 true hD (pc' := 5) (lv' := [(0, .inr (.inr (some 0))), (1, .inr (.inl a1))]) (st' := [.inl 1, .inl (I 0 71)]) (h' := gr_h I J) (C := (((True ∧ True) ∧ True) ∧ True)) rfl ⟨⟨⟨trivial, trivial⟩, trivial⟩, trivial⟩ ?_
  refine gv_icmp_ne (t := 21) hD rfl rfl ⟨⟨by exact gz_m 0 (by omega), by exact gz_m 1 (by omega)⟩, ⟨by exact gz_m 2 (by omega), by exact gz_m 3 (by omega)⟩⟩ (fun c3 => ?_) (fun c3 => ?_)
  · have t4 := gr_ATp_k x0 (c := 1) ⟨by exact gz_m 4 (by omega), by exact gz_m 5 (by omega)⟩
    refine gv_run 1 true hD (pc' := 22) (lv' := [(0, .inr (.inr (some 0))), (1, .inr (.inl a1))]) (st' := [.inl 0]) (h' := gr_h I J) (C := (True ∧ True)) rfl ⟨trivial, trivial⟩ ?_
    exact gv_zret hD rfl (by exact gz_m 6 (by omega)) ⟨rfl, ⟨_, rfl, by exact gz_m 7 (by omega), by exact gz_m 8 (by omega), by exact gz_m 9 (by omega), (gs_kw_0 (Or.inl (by exact gz_m 10 (by omega)))).symm⟩⟩
  · have t5 := gr_ATp_k x0 (c := 1) ⟨by exact gz_m 11 (by omega), by exact gz_m 12 (by omega)⟩
    have f6 := gw_cmp ((J 0 75)) (a1)
    refine gv_run 4 true hD (pc' := 14) (lv' := [(0, .inr (.inr (some 0))), (1, .inr (.inl a1))]) (st' := [.inl ((lg_cmp ((J 0 75)) (a1)).toInt)]) (h' := gr_h I J) (C := ((((True ∧ True) ∧ True) ∧ True) ∧ True)) rfl ⟨⟨⟨⟨trivial, trivial⟩, trivial⟩, trivial⟩, trivial⟩ ?_
    refine gv_if_ne (t := 21) hD rfl rfl ⟨by exact gz_m 13 (by omega), by exact gz_m 14 (by omega)⟩ (fun c7 => ?_) (fun c7 => ?_)
    · have j7 := gs_cmpn (a := (J 0 75)) (b := a1) (by exact gz_m 15 (by omega))
      refine gv_run 1 true hD (pc' := 22) (lv' := [(0, .inr (.inr (some 0))), (1, .inr (.inl a1))]) (st' := [.inl 0]) (h' := gr_h I J) (C := (True ∧ True)) rfl ⟨trivial, trivial⟩ ?_
      exact gv_zret hD rfl (by exact gz_m 16 (by omega)) ⟨rfl, ⟨_, rfl, by exact gz_m 17 (by omega), by exact gz_m 18 (by omega), by exact gz_m 19 (by omega), (gs_kw_0 (Or.inr (by rw [← gr_ATp_w x0]; exact j7))).symm⟩⟩
    · have j7 := gs_cmp0 (a := (J 0 75)) (b := a1) (by exact gz_m 20 (by omega))
      refine gv_run 2 true hD (pc' := 22) (lv' := [(0, .inr (.inr (some 0))), (1, .inr (.inl a1))]) (st' := [.inl 1]) (h' := gr_h I J) (C := ((True ∧ True) ∧ True)) rfl ⟨⟨trivial, trivial⟩, trivial⟩ ?_
      exact gv_zret hD rfl (by exact gz_m 21 (by omega)) ⟨rfl, ⟨_, rfl, by exact gz_m 22 (by omega), by exact gz_m 23 (by omega), by exact gz_m 24 (by omega), (gs_kw_1 (by exact gz_m 25 (by omega)) (by rw [← gr_ATp_w x0]; exact j7)).symm⟩⟩
set_option maxHeartbeats 8000000 in
set_option maxRecDepth 100000 in
theorem r_no_p {ws0 : List Cond} {tb : String → gz_T} (hws : ∀ w ∈ gr_ws, w ∈ ws0) (htb : tb RX13 = gr_T) (ext : gz_Sh) (I : gr_I) (J : gr_J) (hI : gr_Inv I) (a1 : Int) (a2 : Int) (ha1 : 0 ≤ a1 ∧ a1 ≤ 6) (ha2 : (-1) ≤ a2 ∧ a2 ≤ 1001)  : ∃ r h', gz_Ev ws0 tb 1 (yX13_no, cX13_no, 3, (some .boolean)) [.inr (.inr (some 0)), .inl a1, .inl a2] (gr_sh ++ ext) (gr_h I J) r (gr_sh ++ ext) h' 0 0 ∧ (∃ (I' : gr_I) (J' : gr_J), h' = gr_h I' J' ∧ gr_Inv I' ∧ gr_fr [76, 77] [] I I' ∧ gr_fj [76, 77] [] J J' ∧ (∃ z : Int, r = some (.inl z) ∧ 0 ≤ z ∧ z ≤ 1 ∧ (z = 0) ∧ (I' 0 77 = a2))) := by
  have FI : gr_fr [76, 77] [] I I := fun _ _ _ => rfl
  have FJ : gr_fj [76, 77] [] J J := fun _ _ _ => rfl
  have hD : gv_D (gr_E ws0 tb 0 (yX13_no, cX13_no, 3, (some .boolean)) kX13_no) := gq_of oX13_no
  refine gr_ev (d := 0) (l := kX13_no) (Po := fun r h' => (∃ (I' : gr_I) (J' : gr_J), h' = gr_h I' J' ∧ gr_Inv I' ∧ gr_fr [76, 77] [] I I' ∧ gr_fj [76, 77] [] J J' ∧ (∃ z : Int, r = some (.inl z) ∧ 0 ≤ z ∧ z ≤ 1 ∧ (z = 0) ∧ (I' 0 77 = a2)))) htb rfl (Nat.le_of_ble_eq_true rfl) ?_
  refine gv_run 3 true hD (pc' := 5) (lv' := [(0, .inr (.inr (some 0))), (1, .inl a1), (2, .inl a2)]) (st' := []) (h' := gz_up (gr_h I J) 0 76 (.inl a1)) (C := (((True ∧ True) ∧ True) ∧ True)) rfl ⟨⟨⟨trivial, trivial⟩, trivial⟩, trivial⟩ ?_
  refine gr_st hI FI rfl rfl ⟨⟨by show 0 ≤ _; exact gz_m 0 (by omega), by show _ ≤ 6; exact gz_m 1 (by omega)⟩, trivial⟩ (fun I1 hI1 FI1 q2 p2 => ?_)
  refine gv_run 3 true hD (pc' := 10) (lv' := [(0, .inr (.inr (some 0))), (1, .inl a1), (2, .inl a2)]) (st' := []) (h' := gz_up (gr_h I1 J) 0 77 (.inl a2)) (C := (((True ∧ True) ∧ True) ∧ True)) rfl ⟨⟨⟨trivial, trivial⟩, trivial⟩, trivial⟩ ?_
  refine gr_st hI1 FI1 rfl rfl ⟨⟨by show (-1) ≤ _; exact gz_m 2 (by omega), by show _ ≤ 1001; exact gz_m 3 (by omega)⟩, trivial⟩ (fun I3 hI3 FI3 q4 p4 => ?_)
  refine gv_run 1 true hD (pc' := 11) (lv' := [(0, .inr (.inr (some 0))), (1, .inl a1), (2, .inl a2)]) (st' := [.inl 0]) (h' := gr_h I3 J) (C := (True ∧ True)) rfl ⟨trivial, trivial⟩ ?_
  exact gv_zret hD rfl (by exact gz_m 4 (by omega)) ⟨I3, J, rfl, hI3, FI3, FJ, ⟨_, rfl, by exact gz_m 5 (by omega)⟩⟩
set_option maxHeartbeats 8000000 in
set_option maxRecDepth 100000 in
theorem r_no__p {ws0 : List Cond} {tb : String → gz_T} (hws : ∀ w ∈ gr_ws, w ∈ ws0) (htb : tb RX13 = gr_T) (ext : gz_Sh) (β : Int → Int) (N9 : Int) (p9 : Int) (I : gr_I) (J : gr_J) (hI : gr_Inv I) (a1 : Int) (ha1 : 0 ≤ a1 ∧ a1 ≤ 6) (x0 : gr_ATp β N9 p9 I J) (x1 : 0 ≤ p9) : ∃ r h', gz_Ev ws0 tb 2 (yX13_no_, cX13_no_, 2, (some .boolean)) [.inr (.inr (some 0)), .inl a1] (gr_sh ++ ext) (gr_h I J) r (gr_sh ++ ext) h' 0 0 ∧ (∃ (I' : gr_I) (J' : gr_J), h' = gr_h I' J' ∧ gr_Inv I' ∧ gr_fr [76, 77] [] I I' ∧ gr_fj [76, 77] [] J J' ∧ (∃ z : Int, r = some (.inl z) ∧ 0 ≤ z ∧ z ≤ 1 ∧ (z = 0) ∧ (I' 0 77 = gs_A β N9 p9))) := by
  have FI : gr_fr [76, 77] [] I I := fun _ _ _ => rfl
  have FJ : gr_fj [76, 77] [] J J := fun _ _ _ => rfl
  have hD : gv_D (gr_E ws0 tb 1 (yX13_no_, cX13_no_, 2, (some .boolean)) kX13_no_) := gq_of oX13_no_
  refine gr_ev (d := 1) (l := kX13_no_) (Po := fun r h' => (∃ (I' : gr_I) (J' : gr_J), h' = gr_h I' J' ∧ gr_Inv I' ∧ gr_fr [76, 77] [] I I' ∧ gr_fj [76, 77] [] J J' ∧ (∃ z : Int, r = some (.inl z) ∧ 0 ≤ z ∧ z ≤ 1 ∧ (z = 0) ∧ (I' 0 77 = gs_A β N9 p9)))) htb rfl (Nat.le_of_ble_eq_true rfl) ?_
  have tAT := gr_ATp_l x0
  have t0 := gr_ATp_0 x0
  have tE := gs_T4 (β := β) (N := N9) (p := p9)
  have tN := x0.1.2
  have f1 := (gr_b_0_71 hI)
  have f2 := (gr_b_0_72 hI)
  have f3 := (gr_b_0_69 hI)
  have f4 := (gr_b_0_71 hI)
  refine gv_run 4 true hD (pc' := 6) (lv' := [(0, .inr (.inr (some 0))), (1, .inl a1)]) (st' := [.inl (I 0 71), .inl a1, .inr (.inr (some 0))]) (h' := gr_h I J) (C := ((((True ∧ True) ∧ True) ∧ True) ∧ True)) rfl ⟨⟨⟨⟨trivial, trivial⟩, trivial⟩, trivial⟩, trivial⟩ ?_
  refine gv_if_ne (t := 16) hD rfl rfl ⟨by exact gz_m 0 (by omega), by exact gz_m 1 (by omega)⟩ (fun c5 => ?_) (fun c5 => ?_)
  · have t6 := gr_ATp_0 x0
    have f7 := (gr_b_0_72 hI)
    refine gv_run 2 true hD (pc' := 20) (lv' := [(0, .inr (.inr (some 0))), (1, .inl a1)]) (st' := [.inl (I 0 72), .inl a1, .inr (.inr (some 0))]) (h' := gr_h I J) (C := ((True ∧ True) ∧ True)) rfl ⟨⟨trivial, trivial⟩, trivial⟩ ?_
    obtain ⟨r8, h8, E8, P8⟩ := r_no_p (ws0 := ws0) (tb := tb) hws htb ext I J hI a1 (I 0 72) ⟨by exact gz_m 2 (by omega), by exact gz_m 3 (by omega)⟩ ⟨by exact gz_m 4 (by omega), by exact gz_m 5 (by omega)⟩ 
    obtain ⟨I9, J10, rfl, hI9, g8, k8, ⟨z8, rfl, q8⟩⟩ := P8
    have FI9 := gr_frt FI g8 rfl rfl
    have FJ10 := gr_fjt FJ k8 rfl rfl
    have t11 := g8 0 71 rfl
    have t12 := g8 0 72 rfl
    have t13 := g8 0 69 rfl
    have f14 := (gr_b_0_71 hI9)
    have f15 := (gr_b_0_72 hI9)
    have f16 := (gr_b_0_69 hI9)
    have A17 := gr_ATp_F x0 g8 k8 rfl
    have t18 := gr_ATp_l A17
    refine gv_callV hD rfl (As := [.inl a1, .inl (I 0 72)]) (st := []) rfl (by decide) rfl rfl (gr_lV hws rfl) (Nat.le_of_ble_eq_true rfl) (gz_Ev_mono (d := 1) (by decide) E8) ?_
    show gv_X _ _ (23, [(0, .inr (.inr (some 0))), (1, .inl a1)], [.inl z8], gr_sh ++ ext, gr_h I9 J10)
    exact gv_zret hD rfl (by exact gz_m 6 (by omega)) ⟨I9, J10, rfl, hI9, FI9, FJ10, ⟨_, rfl, by exact gz_m 7 (by omega)⟩⟩
  · have t19 := gr_ATp_0 x0
    have f20 := (gr_b_0_69 hI)
    refine gv_run 3 true hD (pc' := 20) (lv' := [(0, .inr (.inr (some 0))), (1, .inl a1)]) (st' := [.inl (I 0 69), .inl a1, .inr (.inr (some 0))]) (h' := gr_h I J) (C := (((True ∧ True) ∧ True) ∧ True)) rfl ⟨⟨⟨trivial, trivial⟩, trivial⟩, trivial⟩ ?_
    obtain ⟨r21, h21, E21, P21⟩ := r_no_p (ws0 := ws0) (tb := tb) hws htb ext I J hI a1 (I 0 69) ⟨by exact gz_m 8 (by omega), by exact gz_m 9 (by omega)⟩ ⟨by exact gz_m 10 (by omega), by exact gz_m 11 (by omega)⟩ 
    obtain ⟨I22, J23, rfl, hI22, g21, k21, ⟨z21, rfl, q21⟩⟩ := P21
    have FI22 := gr_frt FI g21 rfl rfl
    have FJ23 := gr_fjt FJ k21 rfl rfl
    have t24 := g21 0 71 rfl
    have t25 := g21 0 72 rfl
    have t26 := g21 0 69 rfl
    have f27 := (gr_b_0_71 hI22)
    have f28 := (gr_b_0_72 hI22)
    have f29 := (gr_b_0_69 hI22)
    have A30 := gr_ATp_F x0 g21 k21 rfl
    have t31 := gr_ATp_l A30
    refine gv_callV hD rfl (As := [.inl a1, .inl (I 0 69)]) (st := []) rfl (by decide) rfl rfl (gr_lV hws rfl) (Nat.le_of_ble_eq_true rfl) (gz_Ev_mono (d := 1) (by decide) E21) ?_
    show gv_X _ _ (23, [(0, .inr (.inr (some 0))), (1, .inl a1)], [.inl z21], gr_sh ++ ext, gr_h I22 J23)
    exact gv_zret hD rfl (by exact gz_m 12 (by omega)) ⟨I22, J23, rfl, hI22, FI22, FJ23, ⟨_, rfl, by exact gz_m 13 (by omega)⟩⟩
set_option maxHeartbeats 8000000 in
set_option maxRecDepth 100000 in
theorem r_none_p {ws0 : List Cond} {tb : String → gz_T} (hws : ∀ w ∈ gr_ws, w ∈ ws0) (htb : tb RX13 = gr_T) (ext : gz_Sh) (β : Int → Int) (N9 : Int) (p9 : Int) (I : gr_I) (J : gr_J) (hI : gr_Inv I) (a1 : Int) (ha1 : 0 ≤ a1 ∧ a1 ≤ 6) (x0 : gr_ATp β N9 p9 I J) (x1 : 0 ≤ p9) : ∃ r h', gz_Ev ws0 tb 3 (yX13_none, cX13_none, 2, (some .int)) [.inr (.inr (some 0)), .inl a1] (gr_sh ++ ext) (gr_h I J) r (gr_sh ++ ext) h' 0 0 ∧ (∃ (I' : gr_I) (J' : gr_J), h' = gr_h I' J' ∧ gr_Inv I' ∧ gr_fr [76, 77] [] I I' ∧ gr_fj [76, 77] [] J J' ∧ (∃ z : Int, r = some (.inl z) ∧ (-1) ≤ z ∧ z ≤ (-1) ∧ (I' 0 77 = gs_A β N9 p9))) := by
  have FI : gr_fr [76, 77] [] I I := fun _ _ _ => rfl
  have FJ : gr_fj [76, 77] [] J J := fun _ _ _ => rfl
  have hD : gv_D (gr_E ws0 tb 2 (yX13_none, cX13_none, 2, (some .int)) kX13_none) := gq_of oX13_none
  refine gr_ev (d := 2) (l := kX13_none) (Po := fun r h' => (∃ (I' : gr_I) (J' : gr_J), h' = gr_h I' J' ∧ gr_Inv I' ∧ gr_fr [76, 77] [] I I' ∧ gr_fj [76, 77] [] J J' ∧ (∃ z : Int, r = some (.inl z) ∧ (-1) ≤ z ∧ z ≤ (-1) ∧ (I' 0 77 = gs_A β N9 p9)))) htb rfl (Nat.le_of_ble_eq_true rfl) ?_
  have tAT := gr_ATp_l x0
  refine gv_run 2 true hD (pc' := 2) (lv' := [(0, .inr (.inr (some 0))), (1, .inl a1)]) (st' := [.inl a1, .inr (.inr (some 0))]) (h' := gr_h I J) (C := ((True ∧ True) ∧ True)) rfl ⟨⟨trivial, trivial⟩, trivial⟩ ?_
  obtain ⟨r1, h1, E1, P1⟩ := r_no__p (ws0 := ws0) (tb := tb) hws htb ext β N9 p9 I J hI a1 ⟨by exact gz_m 0 (by omega), by exact gz_m 1 (by omega)⟩ x0 (by exact gz_m 2 (by omega))
  obtain ⟨I2, J3, rfl, hI2, g1, k1, ⟨z1, rfl, q1⟩⟩ := P1
  have FI2 := gr_frt FI g1 rfl rfl
  have FJ3 := gr_fjt FJ k1 rfl rfl
  have A4 := gr_ATp_F x0 g1 k1 rfl
  have t5 := gr_ATp_l A4
  refine gv_callV hD rfl (As := [.inl a1]) (st := []) rfl (by decide) rfl rfl (gr_lV hws rfl) (Nat.le_of_ble_eq_true rfl) (gz_Ev_mono (d := 2) (by decide) E1) ?_
  show gv_X _ _ (5, [(0, .inr (.inr (some 0))), (1, .inl a1)], [.inl z1], gr_sh ++ ext, gr_h I2 J3)
  refine gv_run 2 true hD (pc' := 7) (lv' := [(0, .inr (.inr (some 0))), (1, .inl a1)]) (st' := [.inl (-1)]) (h' := gr_h I2 J3) (C := ((True ∧ True) ∧ True)) rfl ⟨⟨trivial, trivial⟩, trivial⟩ ?_
  exact gv_iret hD rfl ⟨I2, J3, rfl, hI2, FI2, FJ3, ⟨_, rfl, by exact gz_m 3 (by omega)⟩⟩
set_option maxHeartbeats 8000000 in
set_option maxRecDepth 100000 in
theorem r_name_p {ws0 : List Cond} {tb : String → gz_T} (hws : ∀ w ∈ gr_ws, w ∈ ws0) (htb : tb RX13 = gr_T) (ext : gz_Sh) (β : Int → Int) (N9 : Int) (p9 : Int) (I : gr_I) (J : gr_J) (hI : gr_Inv I)   (x0 : gr_ATp β N9 p9 I J) (x1 : 0 ≤ p9) : ∃ r h', gz_Ev ws0 tb 3 (yX13_name, cX13_name, 1, (some .boolean)) [.inr (.inr (some 0))] (gr_sh ++ ext) (gr_h I J) r (gr_sh ++ ext) h' 0 0 ∧ (∃ (I' : gr_I) (J' : gr_J), h' = gr_h I' J' ∧ gr_Inv I' ∧ gr_fr [76, 77] [] I I' ∧ gr_fj [76, 77] [] J J' ∧ (∃ z : Int, r = some (.inl z) ∧ 0 ≤ z ∧ z ≤ 1 ∧ (z = 0 ∨ I 0 71 = 1) ∧ ((z = 1 ∧ gs_T β N9 p9 = 1) ∨ (z = 0 ∧ ¬ gs_T β N9 p9 = 1 ∧ I' 0 77 = gs_A β N9 p9)))) := by
  have FI : gr_fr [76, 77] [] I I := fun _ _ _ => rfl
  have FJ : gr_fj [76, 77] [] J J := fun _ _ _ => rfl
  have hD : gv_D (gr_E ws0 tb 2 (yX13_name, cX13_name, 1, (some .boolean)) kX13_name) := gq_of oX13_name
  refine gr_ev (d := 2) (l := kX13_name) (Po := fun r h' => (∃ (I' : gr_I) (J' : gr_J), h' = gr_h I' J' ∧ gr_Inv I' ∧ gr_fr [76, 77] [] I I' ∧ gr_fj [76, 77] [] J J' ∧ (∃ z : Int, r = some (.inl z) ∧ 0 ≤ z ∧ z ≤ 1 ∧ (z = 0 ∨ I 0 71 = 1) ∧ ((z = 1 ∧ gs_T β N9 p9 = 1) ∨ (z = 0 ∧ ¬ gs_T β N9 p9 = 1 ∧ I' 0 77 = gs_A β N9 p9))))) htb rfl (Nat.le_of_ble_eq_true rfl) ?_
  have tAT := gr_ATp_l x0
  have f1 := (gr_b_0_71 hI)
  have f2 := (gr_b_0_71 hI)
  refine gv_run 3 true hD (pc' := 5) (lv' := [(0, .inr (.inr (some 0)))]) (st' := [.inl 1, .inl (I 0 71)]) (h' := gr_h I J) (C := (((True ∧ True) ∧ True) ∧ True)) rfl ⟨⟨⟨trivial, trivial⟩, trivial⟩, trivial⟩ ?_
  refine gv_icmp_eq (t := 16) hD rfl rfl ⟨⟨by exact gz_m 0 (by omega), by exact gz_m 1 (by omega)⟩, ⟨by exact gz_m 2 (by omega), by exact gz_m 3 (by omega)⟩⟩ (fun c3 => ?_) (fun c3 => ?_)
  · have t4 := gr_ATp_k x0 (c := 1) ⟨by exact gz_m 4 (by omega), by exact gz_m 5 (by omega)⟩
    refine gv_run 2 true hD (pc' := 21) (lv' := [(0, .inr (.inr (some 0)))]) (st' := [.inl 1]) (h' := gr_h I J) (C := ((True ∧ True) ∧ True)) rfl ⟨⟨trivial, trivial⟩, trivial⟩ ?_
    exact gv_zret hD rfl (by exact gz_m 6 (by omega)) ⟨I, J, rfl, hI, FI, FJ, ⟨_, rfl, by exact gz_m 7 (by omega)⟩⟩
  · have t5 := gr_ATp_k x0 (c := 1) ⟨by exact gz_m 8 (by omega), by exact gz_m 9 (by omega)⟩
    refine gv_run 2 true hD (pc' := 10) (lv' := [(0, .inr (.inr (some 0)))]) (st' := [.inl 1, .inr (.inr (some 0))]) (h' := gr_h I J) (C := ((True ∧ True) ∧ True)) rfl ⟨⟨trivial, trivial⟩, trivial⟩ ?_
    obtain ⟨r6, h6, E6, P6⟩ := r_no__p (ws0 := ws0) (tb := tb) hws htb ext β N9 p9 I J hI 1 ⟨by exact gz_m 10 (by omega), by exact gz_m 11 (by omega)⟩ x0 (by exact gz_m 12 (by omega))
    obtain ⟨I7, J8, rfl, hI7, g6, k6, ⟨z6, rfl, q6⟩⟩ := P6
    have FI7 := gr_frt FI g6 rfl rfl
    have FJ8 := gr_fjt FJ k6 rfl rfl
    have t9 := g6 0 71 rfl
    have f10 := (gr_b_0_71 hI7)
    have A11 := gr_ATp_F x0 g6 k6 rfl
    have t12 := gr_ATp_l A11
    refine gv_callV hD rfl (As := [.inl 1]) (st := []) rfl (by decide) rfl rfl (gr_lV hws rfl) (Nat.le_of_ble_eq_true rfl) (gz_Ev_mono (d := 2) (by decide) E6) ?_
    show gv_X _ _ (13, [(0, .inr (.inr (some 0)))], [.inl z6], gr_sh ++ ext, gr_h I7 J8)
    refine gv_if_eq (t := 20) hD rfl rfl ⟨by exact gz_m 13 (by omega), by exact gz_m 14 (by omega)⟩ (fun c13 => ?_) (fun c13 => ?_)
    · refine gv_run 1 true hD (pc' := 21) (lv' := [(0, .inr (.inr (some 0)))]) (st' := [.inl 0]) (h' := gr_h I7 J8) (C := (True ∧ True)) rfl ⟨trivial, trivial⟩ ?_
      exact gv_zret hD rfl (by exact gz_m 15 (by omega)) ⟨I7, J8, rfl, hI7, FI7, FJ8, ⟨_, rfl, by exact gz_m 16 (by omega)⟩⟩
    · refine gv_run 2 true hD (pc' := 21) (lv' := [(0, .inr (.inr (some 0)))]) (st' := [.inl 1]) (h' := gr_h I7 J8) (C := ((True ∧ True) ∧ True)) rfl ⟨⟨trivial, trivial⟩, trivial⟩ ?_
      exact gv_zret hD rfl (by exact gz_m 17 (by omega)) ⟨I7, J8, rfl, hI7, FI7, FJ8, ⟨_, rfl, by exact gz_m 18 (by omega)⟩⟩
set_option maxHeartbeats 8000000 in
set_option maxRecDepth 100000 in
theorem r_need_p {ws0 : List Cond} {tb : String → gz_T} (hws : ∀ w ∈ gr_ws, w ∈ ws0) (htb : tb RX13 = gr_T) (ext : gz_Sh) (β : Int → Int) (N9 : Int) (p9 : Int) (I : gr_I) (J : gr_J) (hI : gr_Inv I) (a1 : Int) (ha1 : 6 ≤ a1 ∧ a1 ≤ 127) (x0 : I 0 71 = 5 ∨ I 0 73 ≤ I 0 69) (x1 : I 0 72 ≤ I 0 69) (x2 : I 0 71 = 0 ∨ (I 0 72 < I 0 73 ∧ I 0 72 < I 0 69)) (x3 : I 0 71 = 3 → 2 ≤ I 0 73 - I 0 72 ∧ I 0 73 - I 0 72 ≤ 14) (x4 : I 0 72 ≤ I 0 73) (x5 : gr_ATp β N9 p9 I J) (x6 : 0 ≤ p9) : ∃ r h', gz_Ev ws0 tb 11 (yX13_need, cX13_need, 2, (some .boolean)) [.inr (.inr (some 0)), .inl a1] (gr_sh ++ ext) (gr_h I J) r (gr_sh ++ ext) h' 0 0 ∧ (∃ (I' : gr_I) (J' : gr_J), h' = gr_h I' J' ∧ gr_Inv I' ∧ gr_fr [71, 72, 73, 74, 75, 76, 77] [] I I' ∧ gr_fj [71, 72, 73, 74, 75, 76, 77] [] J J' ∧ (∃ z : Int, r = some (.inl z) ∧ 0 ≤ z ∧ z ≤ 1 ∧ (I' 0 71 = 5 ∨ I' 0 73 ≤ I' 0 69) ∧ (I' 0 72 ≤ I' 0 69) ∧ (I' 0 71 = 0 ∨ (I' 0 72 < I' 0 73 ∧ I' 0 72 < I' 0 69)) ∧ (I' 0 71 = 3 → 2 ≤ I' 0 73 - I' 0 72 ∧ I' 0 73 - I' 0 72 ≤ 14) ∧ (I' 0 72 ≤ I' 0 73) ∧ (I' 0 69 = I 0 69) ∧ (I 0 73 ≤ I' 0 73) ∧ (I 0 72 ≤ I' 0 72) ∧ (z = 0 ∨ (I 0 73 ≤ I' 0 72 ∧ I 0 71 = 4)) ∧ (gs_Or z (0 ≤ (gs_need β N9 a1 p9) ∧ gr_ATp β N9 (gs_need β N9 a1 p9) I' J') ((gs_need β N9 a1 p9) < 0 ∧ I' 0 77 = -1 - (gs_need β N9 a1 p9))))) := by
  have FI : gr_fr [71, 72, 73, 74, 75, 76, 77] [] I I := fun _ _ _ => rfl
  have FJ : gr_fj [71, 72, 73, 74, 75, 76, 77] [] J J := fun _ _ _ => rfl
  have hD : gv_D (gr_E ws0 tb 10 (yX13_need, cX13_need, 2, (some .boolean)) kX13_need) := gq_of oX13_need
  refine gr_ev (d := 10) (l := kX13_need) (Po := fun r h' => (∃ (I' : gr_I) (J' : gr_J), h' = gr_h I' J' ∧ gr_Inv I' ∧ gr_fr [71, 72, 73, 74, 75, 76, 77] [] I I' ∧ gr_fj [71, 72, 73, 74, 75, 76, 77] [] J J' ∧ (∃ z : Int, r = some (.inl z) ∧ 0 ≤ z ∧ z ≤ 1 ∧ (I' 0 71 = 5 ∨ I' 0 73 ≤ I' 0 69) ∧ (I' 0 72 ≤ I' 0 69) ∧ (I' 0 71 = 0 ∨ (I' 0 72 < I' 0 73 ∧ I' 0 72 < I' 0 69)) ∧ (I' 0 71 = 3 → 2 ≤ I' 0 73 - I' 0 72 ∧ I' 0 73 - I' 0 72 ≤ 14) ∧ (I' 0 72 ≤ I' 0 73) ∧ (I' 0 69 = I 0 69) ∧ (I 0 73 ≤ I' 0 73) ∧ (I 0 72 ≤ I' 0 72) ∧ (z = 0 ∨ (I 0 73 ≤ I' 0 72 ∧ I 0 71 = 4)) ∧ (gs_Or z (0 ≤ (gs_need β N9 a1 p9) ∧ gr_ATp β N9 (gs_need β N9 a1 p9) I' J') ((gs_need β N9 a1 p9) < 0 ∧ I' 0 77 = -1 - (gs_need β N9 a1 p9)))))) htb rfl (Nat.le_of_ble_eq_true rfl) ?_
  have tAT := gr_ATp_l x5
  have f1 := (gr_b_0_71 hI)
  have f2 := (gr_b_0_72 hI)
  have f3 := (gr_b_0_73 hI)
  have f4 := (gr_b_0_69 hI)
  refine gv_run 2 true hD (pc' := 2) (lv' := [(0, .inr (.inr (some 0))), (1, .inl a1)]) (st' := [.inl a1, .inr (.inr (some 0))]) (h' := gr_h I J) (C := ((True ∧ True) ∧ True)) rfl ⟨⟨trivial, trivial⟩, trivial⟩ ?_
  obtain ⟨r5, h5, E5, P5⟩ := r_sign_p (ws0 := ws0) (tb := tb) hws htb ext β N9 p9 I J hI a1 ⟨by exact gz_m 0 (by omega), by exact gz_m 1 (by omega)⟩ (by exact gz_m 2 (by omega)) x5 (by exact gz_m 3 (by omega))
  obtain ⟨rfl, ⟨z5, rfl, q5⟩⟩ := P5
  refine gv_callV hD rfl (As := [.inl a1]) (st := []) rfl (by decide) rfl rfl (gr_lV hws rfl) (Nat.le_of_ble_eq_true rfl) (gz_Ev_mono (d := 1) (by decide) E5) ?_
  show gv_X _ _ (5, [(0, .inr (.inr (some 0))), (1, .inl a1)], [.inl z5], gr_sh ++ ext, gr_h I J)
  refine gv_if_ne (t := 14) hD rfl rfl ⟨by exact gz_m 4 (by omega), by exact gz_m 5 (by omega)⟩ (fun c6 => ?_) (fun c6 => ?_)
  · refine gv_run 1 true hD (pc' := 15) (lv' := [(0, .inr (.inr (some 0))), (1, .inl a1)]) (st' := [.inr (.inr (some 0))]) (h' := gr_h I J) (C := (True ∧ True)) rfl ⟨trivial, trivial⟩ ?_
    obtain ⟨r7, h7, E7, P7⟩ := r_next_p (ws0 := ws0) (tb := tb) hws htb ext β N9 I J hI   (by exact gz_m 6 (by omega)) x5.1.1 x5.1.2
    obtain ⟨I8, J9, rfl, hI8, g7, k7, ⟨rfl, q7⟩⟩ := P7
    have FI8 := gr_frt FI g7 rfl rfl
    have FJ9 := gr_fjt FJ k7 rfl rfl
    have t10 := g7 0 69 rfl
    have f11 := (gr_b_0_71 hI8)
    have f12 := (gr_b_0_72 hI8)
    have f13 := (gr_b_0_73 hI8)
    have f14 := (gr_b_0_69 hI8)
    have A15 := gr_ATp_nx x5 q7.2.2.2.2.2
    have t16 := gr_ATp_l A15
    refine gv_callV hD rfl (As := []) (st := []) rfl (by decide) rfl rfl (gr_lV hws rfl) (Nat.le_of_ble_eq_true rfl) (gz_Ev_mono (d := 10) (by decide) E7) ?_
    show gv_X _ _ (18, [(0, .inr (.inr (some 0))), (1, .inl a1)], [], gr_sh ++ ext, gr_h I8 J9)
    refine gv_run 1 true hD (pc' := 19) (lv' := [(0, .inr (.inr (some 0))), (1, .inl a1)]) (st' := [.inl 1]) (h' := gr_h I8 J9) (C := (True ∧ True)) rfl ⟨trivial, trivial⟩ ?_
    exact gv_zret hD rfl (by exact gz_m 7 (by omega)) ⟨I8, J9, rfl, hI8, FI8, FJ9, ⟨_, rfl, by exact gz_m 8 (by omega), by exact gz_m 9 (by omega), by exact gz_m 10 (by omega), by exact gz_m 11 (by omega), by exact gz_m 12 (by omega), by exact gz_m 13 (by omega), by exact gz_m 14 (by omega), by exact gz_m 15 (by omega), by exact gz_m 16 (by omega), by exact gz_m 17 (by omega), by exact gz_m 18 (by omega), (Or.inl ⟨by exact gz_m 19 (by omega), by have e9 : (gs_need β N9 a1 p9) = (gs_X β N9 p9) := (by unfold gs_need; (repeat first | rw [if_pos (by exact gz_m 20 (by omega))] | rw [if_neg (by exact gz_m 21 (by omega))])); rw [e9]; exact ⟨by exact gz_m 22 (by omega), A15⟩⟩)⟩⟩
  · refine gv_run 2 true hD (pc' := 10) (lv' := [(0, .inr (.inr (some 0))), (1, .inl a1)]) (st' := [.inl 1, .inr (.inr (some 0))]) (h' := gr_h I J) (C := ((True ∧ True) ∧ True)) rfl ⟨⟨trivial, trivial⟩, trivial⟩ ?_
    obtain ⟨r17, h17, E17, P17⟩ := r_no__p (ws0 := ws0) (tb := tb) hws htb ext β N9 p9 I J hI 1 ⟨by exact gz_m 23 (by omega), by exact gz_m 24 (by omega)⟩ x5 (by exact gz_m 25 (by omega))
    obtain ⟨I18, J19, rfl, hI18, g17, k17, ⟨z17, rfl, q17⟩⟩ := P17
    have FI18 := gr_frt FI g17 rfl rfl
    have FJ19 := gr_fjt FJ k17 rfl rfl
    have t20 := g17 0 71 rfl
    have t21 := g17 0 72 rfl
    have t22 := g17 0 73 rfl
    have t23 := g17 0 69 rfl
    have f24 := (gr_b_0_71 hI18)
    have f25 := (gr_b_0_72 hI18)
    have f26 := (gr_b_0_73 hI18)
    have f27 := (gr_b_0_69 hI18)
    have A28 := gr_ATp_F x5 g17 k17 rfl
    have t29 := gr_ATp_l A28
    refine gv_callV hD rfl (As := [.inl 1]) (st := []) rfl (by decide) rfl rfl (gr_lV hws rfl) (Nat.le_of_ble_eq_true rfl) (gz_Ev_mono (d := 2) (by decide) E17) ?_
    show gv_X _ _ (13, [(0, .inr (.inr (some 0))), (1, .inl a1)], [.inl z17], gr_sh ++ ext, gr_h I18 J19)
    exact gv_zret hD rfl (by exact gz_m 26 (by omega)) ⟨I18, J19, rfl, hI18, FI18, FJ19, ⟨_, rfl, by exact gz_m 27 (by omega), by exact gz_m 28 (by omega), by exact gz_m 29 (by omega), by exact gz_m 30 (by omega), by exact gz_m 31 (by omega), by exact gz_m 32 (by omega), by exact gz_m 33 (by omega), by exact gz_m 34 (by omega), by exact gz_m 35 (by omega), by exact gz_m 36 (by omega), by exact gz_m 37 (by omega), (Or.inr ⟨by exact gz_m 38 (by omega), by unfold gs_need; (repeat first | rw [if_pos (by exact gz_m 39 (by omega))] | rw [if_neg (by exact gz_m 40 (by omega))]); exact ⟨by exact gz_m 41 (by omega), by exact gz_m 42 (by omega)⟩⟩)⟩⟩
set_option maxHeartbeats 8000000 in
set_option maxRecDepth 100000 in
theorem r_done_p {ws0 : List Cond} {tb : String → gz_T} (hws : ∀ w ∈ gr_ws, w ∈ ws0) (htb : tb RX13 = gr_T) (ext : gz_Sh) (β : Int → Int) (N9 : Int) (p9 : Int) (I : gr_I) (J : gr_J) (hI : gr_Inv I) (a1 : Int) (ha1 : 0 ≤ a1 ∧ a1 ≤ 1) (x0 : I 0 71 = 5 ∨ I 0 73 ≤ I 0 69) (x1 : I 0 72 ≤ I 0 69) (x2 : I 0 71 = 0 ∨ (I 0 72 < I 0 73 ∧ I 0 72 < I 0 69)) (x3 : I 0 71 = 3 → 2 ≤ I 0 73 - I 0 72 ∧ I 0 73 - I 0 72 ≤ 14) (x4 : I 0 72 ≤ I 0 73) (x5 : gr_ATp β N9 p9 I J) (x6 : 0 ≤ p9) : ∃ r h', gz_Ev ws0 tb 11 (yX13_done, cX13_done, 2, (some .boolean)) [.inr (.inr (some 0)), .inl a1] (gr_sh ++ ext) (gr_h I J) r (gr_sh ++ ext) h' 0 0 ∧ (∃ (I' : gr_I) (J' : gr_J), h' = gr_h I' J' ∧ gr_Inv I' ∧ gr_fr [71, 72, 73, 74, 75, 76, 77] [] I I' ∧ gr_fj [71, 72, 73, 74, 75, 76, 77] [] J J' ∧ (∃ z : Int, r = some (.inl z) ∧ 0 ≤ z ∧ z ≤ 1 ∧ (I' 0 71 = 5 ∨ I' 0 73 ≤ I' 0 69) ∧ (I' 0 72 ≤ I' 0 69) ∧ (I' 0 71 = 0 ∨ (I' 0 72 < I' 0 73 ∧ I' 0 72 < I' 0 69)) ∧ (I' 0 71 = 3 → 2 ≤ I' 0 73 - I' 0 72 ∧ I' 0 73 - I' 0 72 ≤ 14) ∧ (I' 0 72 ≤ I' 0 73) ∧ (I' 0 69 = I 0 69) ∧ (I 0 73 ≤ I' 0 73) ∧ (I 0 72 ≤ I' 0 72) ∧ (z = 0 ∨ a1 = 1) ∧ (z = 0 ∨ (I 0 73 ≤ I' 0 72 ∧ I 0 71 = 4)) ∧ (gs_Or z (0 ≤ (gs_done β N9 a1 (I 0 78) p9) ∧ gr_ATp β N9 (gs_done β N9 a1 (I 0 78) p9) I' J') ((gs_done β N9 a1 (I 0 78) p9) < 0 ∧ I' 0 77 = -1 - (gs_done β N9 a1 (I 0 78) p9))))) := by
  have FI : gr_fr [71, 72, 73, 74, 75, 76, 77] [] I I := fun _ _ _ => rfl
  have FJ : gr_fj [71, 72, 73, 74, 75, 76, 77] [] J J := fun _ _ _ => rfl
  have hD : gv_D (gr_E ws0 tb 10 (yX13_done, cX13_done, 2, (some .boolean)) kX13_done) := gq_of oX13_done
  refine gr_ev (d := 10) (l := kX13_done) (Po := fun r h' => (∃ (I' : gr_I) (J' : gr_J), h' = gr_h I' J' ∧ gr_Inv I' ∧ gr_fr [71, 72, 73, 74, 75, 76, 77] [] I I' ∧ gr_fj [71, 72, 73, 74, 75, 76, 77] [] J J' ∧ (∃ z : Int, r = some (.inl z) ∧ 0 ≤ z ∧ z ≤ 1 ∧ (I' 0 71 = 5 ∨ I' 0 73 ≤ I' 0 69) ∧ (I' 0 72 ≤ I' 0 69) ∧ (I' 0 71 = 0 ∨ (I' 0 72 < I' 0 73 ∧ I' 0 72 < I' 0 69)) ∧ (I' 0 71 = 3 → 2 ≤ I' 0 73 - I' 0 72 ∧ I' 0 73 - I' 0 72 ≤ 14) ∧ (I' 0 72 ≤ I' 0 73) ∧ (I' 0 69 = I 0 69) ∧ (I 0 73 ≤ I' 0 73) ∧ (I 0 72 ≤ I' 0 72) ∧ (z = 0 ∨ a1 = 1) ∧ (z = 0 ∨ (I 0 73 ≤ I' 0 72 ∧ I 0 71 = 4)) ∧ (gs_Or z (0 ≤ (gs_done β N9 a1 (I 0 78) p9) ∧ gr_ATp β N9 (gs_done β N9 a1 (I 0 78) p9) I' J') ((gs_done β N9 a1 (I 0 78) p9) < 0 ∧ I' 0 77 = -1 - (gs_done β N9 a1 (I 0 78) p9)))))) htb rfl (Nat.le_of_ble_eq_true rfl) ?_
  have tAT := gr_ATp_l x5
  have f1 := (gr_b_0_71 hI)
  have f2 := (gr_b_0_72 hI)
  have f3 := (gr_b_0_73 hI)
  have f4 := (gr_b_0_69 hI)
  refine gv_run 2 true hD (pc' := 3) (lv' := [(0, .inr (.inr (some 0))), (1, .inl a1)]) (st' := [.inl 59, .inr (.inr (some 0))]) (h' := gr_h I J) (C := ((True ∧ True) ∧ True)) rfl ⟨⟨trivial, trivial⟩, trivial⟩ ?_
  obtain ⟨r5, h5, E5, P5⟩ := r_sign_p (ws0 := ws0) (tb := tb) hws htb ext β N9 p9 I J hI 59 ⟨by exact gz_m 0 (by omega), by exact gz_m 1 (by omega)⟩ (by exact gz_m 2 (by omega)) x5 (by exact gz_m 3 (by omega))
  obtain ⟨rfl, ⟨z5, rfl, q5⟩⟩ := P5
  refine gv_callV hD rfl (As := [.inl 59]) (st := []) rfl (by decide) rfl rfl (gr_lV hws rfl) (Nat.le_of_ble_eq_true rfl) (gz_Ev_mono (d := 1) (by decide) E5) ?_
  show gv_X _ _ (6, [(0, .inr (.inr (some 0))), (1, .inl a1)], [.inl z5], gr_sh ++ ext, gr_h I J)
  refine gv_if_ne (t := 15) hD rfl rfl ⟨by exact gz_m 4 (by omega), by exact gz_m 5 (by omega)⟩ (fun c6 => ?_) (fun c6 => ?_)
  · refine gv_run 1 true hD (pc' := 16) (lv' := [(0, .inr (.inr (some 0))), (1, .inl a1)]) (st' := [.inl a1]) (h' := gr_h I J) (C := (True ∧ True)) rfl ⟨trivial, trivial⟩ ?_
    refine gv_if_ne (t := 29) hD rfl rfl ⟨by exact gz_m 6 (by omega), by exact gz_m 7 (by omega)⟩ (fun c7 => ?_) (fun c7 => ?_)
    · refine gv_run 1 true hD (pc' := 30) (lv' := [(0, .inr (.inr (some 0))), (1, .inl a1)]) (st' := [.inr (.inr (some 0))]) (h' := gr_h I J) (C := (True ∧ True)) rfl ⟨trivial, trivial⟩ ?_
      obtain ⟨r8, h8, E8, P8⟩ := r_next_p (ws0 := ws0) (tb := tb) hws htb ext β N9 I J hI   (by exact gz_m 8 (by omega)) x5.1.1 x5.1.2
      obtain ⟨I9, J10, rfl, hI9, g8, k8, ⟨rfl, q8⟩⟩ := P8
      have FI9 := gr_frt FI g8 rfl rfl
      have FJ10 := gr_fjt FJ k8 rfl rfl
      have t11 := g8 0 69 rfl
      have f12 := (gr_b_0_71 hI9)
      have f13 := (gr_b_0_72 hI9)
      have f14 := (gr_b_0_73 hI9)
      have f15 := (gr_b_0_69 hI9)
      have A16 := gr_ATp_nx x5 q8.2.2.2.2.2
      have t17 := gr_ATp_l A16
      refine gv_callV hD rfl (As := []) (st := []) rfl (by decide) rfl rfl (gr_lV hws rfl) (Nat.le_of_ble_eq_true rfl) (gz_Ev_mono (d := 10) (by decide) E8) ?_
      show gv_X _ _ (33, [(0, .inr (.inr (some 0))), (1, .inl a1)], [], gr_sh ++ ext, gr_h I9 J10)
      refine gv_run 1 true hD (pc' := 34) (lv' := [(0, .inr (.inr (some 0))), (1, .inl a1)]) (st' := [.inl 1]) (h' := gr_h I9 J10) (C := (True ∧ True)) rfl ⟨trivial, trivial⟩ ?_
      exact gv_zret hD rfl (by exact gz_m 9 (by omega)) ⟨I9, J10, rfl, hI9, FI9, FJ10, ⟨_, rfl, by exact gz_m 10 (by omega), by exact gz_m 11 (by omega), by exact gz_m 12 (by omega), by exact gz_m 13 (by omega), by exact gz_m 14 (by omega), by exact gz_m 15 (by omega), by exact gz_m 16 (by omega), by exact gz_m 17 (by omega), by exact gz_m 18 (by omega), by exact gz_m 19 (by omega), by exact gz_m 20 (by omega), by exact gz_m 21 (by omega), (Or.inl ⟨by exact gz_m 22 (by omega), by have e9 : (gs_done β N9 a1 (I 0 78) p9) = (gs_X β N9 p9) := (by unfold gs_done; (repeat first | rw [if_pos (by exact gz_m 23 (by omega))] | rw [if_neg (by exact gz_m 24 (by omega))])); rw [e9]; exact ⟨by exact gz_m 25 (by omega), A16⟩⟩)⟩⟩
    · have f18 := (gr_b_0_78 hI)
      refine gv_run 4 true hD (pc' := 25) (lv' := [(0, .inr (.inr (some 0))), (1, .inl a1)]) (st' := [.inl (I 0 78), .inl 2, .inr (.inr (some 0))]) (h' := gr_h I J) (C := ((((True ∧ True) ∧ True) ∧ True) ∧ True)) rfl ⟨⟨⟨⟨trivial, trivial⟩, trivial⟩, trivial⟩, trivial⟩ ?_
      obtain ⟨r19, h19, E19, P19⟩ := r_no_p (ws0 := ws0) (tb := tb) hws htb ext I J hI 2 (I 0 78) ⟨by exact gz_m 26 (by omega), by exact gz_m 27 (by omega)⟩ ⟨by exact gz_m 28 (by omega), by exact gz_m 29 (by omega)⟩ 
      obtain ⟨I20, J21, rfl, hI20, g19, k19, ⟨z19, rfl, q19⟩⟩ := P19
      have FI20 := gr_frt FI g19 rfl rfl
      have FJ21 := gr_fjt FJ k19 rfl rfl
      have t22 := g19 0 71 rfl
      have t23 := g19 0 72 rfl
      have t24 := g19 0 73 rfl
      have t25 := g19 0 69 rfl
      have f26 := (gr_b_0_71 hI20)
      have f27 := (gr_b_0_72 hI20)
      have f28 := (gr_b_0_73 hI20)
      have f29 := (gr_b_0_69 hI20)
      have A30 := gr_ATp_F x5 g19 k19 rfl
      have t31 := gr_ATp_l A30
      refine gv_callV hD rfl (As := [.inl 2, .inl (I 0 78)]) (st := []) rfl (by decide) rfl rfl (gr_lV hws rfl) (Nat.le_of_ble_eq_true rfl) (gz_Ev_mono (d := 1) (by decide) E19) ?_
      show gv_X _ _ (28, [(0, .inr (.inr (some 0))), (1, .inl a1)], [.inl z19], gr_sh ++ ext, gr_h I20 J21)
      exact gv_zret hD rfl (by exact gz_m 30 (by omega)) ⟨I20, J21, rfl, hI20, FI20, FJ21, ⟨_, rfl, by exact gz_m 31 (by omega), by exact gz_m 32 (by omega), by exact gz_m 33 (by omega), by exact gz_m 34 (by omega), by exact gz_m 35 (by omega), by exact gz_m 36 (by omega), by exact gz_m 37 (by omega), by exact gz_m 38 (by omega), by exact gz_m 39 (by omega), by exact gz_m 40 (by omega), by exact gz_m 41 (by omega), by exact gz_m 42 (by omega), (Or.inr ⟨by exact gz_m 43 (by omega), by unfold gs_done; (repeat first | rw [if_pos (by exact gz_m 44 (by omega))] | rw [if_neg (by exact gz_m 45 (by omega))]); exact ⟨by exact gz_m 46 (by omega), by exact gz_m 47 (by omega)⟩⟩)⟩⟩
  · refine gv_run 2 true hD (pc' := 11) (lv' := [(0, .inr (.inr (some 0))), (1, .inl a1)]) (st' := [.inl 1, .inr (.inr (some 0))]) (h' := gr_h I J) (C := ((True ∧ True) ∧ True)) rfl ⟨⟨trivial, trivial⟩, trivial⟩ ?_
    obtain ⟨r32, h32, E32, P32⟩ := r_no__p (ws0 := ws0) (tb := tb) hws htb ext β N9 p9 I J hI 1 ⟨by exact gz_m 48 (by omega), by exact gz_m 49 (by omega)⟩ x5 (by exact gz_m 50 (by omega))
    obtain ⟨I33, J34, rfl, hI33, g32, k32, ⟨z32, rfl, q32⟩⟩ := P32
    have FI33 := gr_frt FI g32 rfl rfl
    have FJ34 := gr_fjt FJ k32 rfl rfl
    have t35 := g32 0 71 rfl
    have t36 := g32 0 72 rfl
    have t37 := g32 0 73 rfl
    have t38 := g32 0 69 rfl
    have f39 := (gr_b_0_71 hI33)
    have f40 := (gr_b_0_72 hI33)
    have f41 := (gr_b_0_73 hI33)
    have f42 := (gr_b_0_69 hI33)
    have A43 := gr_ATp_F x5 g32 k32 rfl
    have t44 := gr_ATp_l A43
    refine gv_callV hD rfl (As := [.inl 1]) (st := []) rfl (by decide) rfl rfl (gr_lV hws rfl) (Nat.le_of_ble_eq_true rfl) (gz_Ev_mono (d := 2) (by decide) E32) ?_
    show gv_X _ _ (14, [(0, .inr (.inr (some 0))), (1, .inl a1)], [.inl z32], gr_sh ++ ext, gr_h I33 J34)
    exact gv_zret hD rfl (by exact gz_m 51 (by omega)) ⟨I33, J34, rfl, hI33, FI33, FJ34, ⟨_, rfl, by exact gz_m 52 (by omega), by exact gz_m 53 (by omega), by exact gz_m 54 (by omega), by exact gz_m 55 (by omega), by exact gz_m 56 (by omega), by exact gz_m 57 (by omega), by exact gz_m 58 (by omega), by exact gz_m 59 (by omega), by exact gz_m 60 (by omega), by exact gz_m 61 (by omega), by exact gz_m 62 (by omega), by exact gz_m 63 (by omega), (Or.inr ⟨by exact gz_m 64 (by omega), by unfold gs_done; (repeat first | rw [if_pos (by exact gz_m 65 (by omega))] | rw [if_neg (by exact gz_m 66 (by omega))]); exact ⟨by exact gz_m 67 (by omega), by exact gz_m 68 (by omega)⟩⟩)⟩⟩
set_option maxHeartbeats 8000000 in
set_option maxRecDepth 100000 in
theorem r_cost_p {ws0 : List Cond} {tb : String → gz_T} (hws : ∀ w ∈ gr_ws, w ∈ ws0) (htb : tb RX13 = gr_T) (ext : gz_Sh) (β : Int → Int) (N9 : Int) (p9 : Int) (I : gr_I) (J : gr_J) (hI : gr_Inv I)   (x0 : I 0 71 = 5 ∨ I 0 73 ≤ I 0 69) (x1 : I 0 72 ≤ I 0 69) (x2 : I 0 71 = 0 ∨ (I 0 72 < I 0 73 ∧ I 0 72 < I 0 69)) (x3 : I 0 71 = 3 → 2 ≤ I 0 73 - I 0 72 ∧ I 0 73 - I 0 72 ≤ 14) (x4 : I 0 72 ≤ I 0 73) (x5 : gr_ATp β N9 p9 I J) (x6 : 0 ≤ p9) (x7 : gr_KW J) : ∃ r h', gz_Ev ws0 tb 11 (yX13_cost, cX13_cost, 1, (some .boolean)) [.inr (.inr (some 0))] (gr_sh ++ ext) (gr_h I J) r (gr_sh ++ ext) h' 0 0 ∧ (∃ (I' : gr_I) (J' : gr_J), h' = gr_h I' J' ∧ gr_Inv I' ∧ gr_fr [71, 72, 73, 74, 75, 76, 77, 101] [] I I' ∧ gr_fj [71, 72, 73, 74, 75, 76, 77, 101] [] J J' ∧ (∃ z : Int, r = some (.inl z) ∧ 0 ≤ z ∧ z ≤ 1 ∧ (I' 0 71 = 5 ∨ I' 0 73 ≤ I' 0 69) ∧ (I' 0 72 ≤ I' 0 69) ∧ (I' 0 71 = 0 ∨ (I' 0 72 < I' 0 73 ∧ I' 0 72 < I' 0 69)) ∧ (I' 0 71 = 3 → 2 ≤ I' 0 73 - I' 0 72 ∧ I' 0 73 - I' 0 72 ≤ 14) ∧ (I' 0 72 ≤ I' 0 73) ∧ (I' 0 69 = I 0 69) ∧ (I 0 73 ≤ I' 0 73) ∧ (I 0 72 ≤ I' 0 72) ∧ (gs_Or z (0 ≤ (gs_cost β N9 p9) ∧ gr_ATp β N9 (gs_cost β N9 p9) I' J' ∧ I' 0 101 = (gs_prc β N9 p9)) ((gs_cost β N9 p9) < 0 ∧ I' 0 77 = -1 - (gs_cost β N9 p9))))) := by
  have FI : gr_fr [71, 72, 73, 74, 75, 76, 77, 101] [] I I := fun _ _ _ => rfl
  have FJ : gr_fj [71, 72, 73, 74, 75, 76, 77, 101] [] J J := fun _ _ _ => rfl
  have hD : gv_D (gr_E ws0 tb 10 (yX13_cost, cX13_cost, 1, (some .boolean)) kX13_cost) := gq_of oX13_cost
  refine gr_ev (d := 10) (l := kX13_cost) (Po := fun r h' => (∃ (I' : gr_I) (J' : gr_J), h' = gr_h I' J' ∧ gr_Inv I' ∧ gr_fr [71, 72, 73, 74, 75, 76, 77, 101] [] I I' ∧ gr_fj [71, 72, 73, 74, 75, 76, 77, 101] [] J J' ∧ (∃ z : Int, r = some (.inl z) ∧ 0 ≤ z ∧ z ≤ 1 ∧ (I' 0 71 = 5 ∨ I' 0 73 ≤ I' 0 69) ∧ (I' 0 72 ≤ I' 0 69) ∧ (I' 0 71 = 0 ∨ (I' 0 72 < I' 0 73 ∧ I' 0 72 < I' 0 69)) ∧ (I' 0 71 = 3 → 2 ≤ I' 0 73 - I' 0 72 ∧ I' 0 73 - I' 0 72 ≤ 14) ∧ (I' 0 72 ≤ I' 0 73) ∧ (I' 0 69 = I 0 69) ∧ (I 0 73 ≤ I' 0 73) ∧ (I 0 72 ≤ I' 0 72) ∧ (gs_Or z (0 ≤ (gs_cost β N9 p9) ∧ gr_ATp β N9 (gs_cost β N9 p9) I' J' ∧ I' 0 101 = (gs_prc β N9 p9)) ((gs_cost β N9 p9) < 0 ∧ I' 0 77 = -1 - (gs_cost β N9 p9)))))) htb rfl (Nat.le_of_ble_eq_true rfl) ?_
  have tAT := gr_ATp_l x5
  have KW := x7
  have f1 := (gr_b_0_71 hI)
  have f2 := (gr_b_0_72 hI)
  have f3 := (gr_b_0_73 hI)
  have f4 := (gr_b_0_69 hI)
  have f5 := (gr_b_0_101 hI)
  refine gv_run 3 true hD (pc' := 5) (lv' := [(0, .inr (.inr (some 0)))]) (st' := []) (h' := gz_up (gr_h I J) 0 101 (.inl 0)) (C := (((True ∧ True) ∧ True) ∧ True)) rfl ⟨⟨⟨trivial, trivial⟩, trivial⟩, trivial⟩ ?_
  refine gr_st hI FI rfl rfl ⟨⟨by show 0 ≤ _; exact gz_m 0 (by omega), by show _ ≤ 10000; exact gz_m 1 (by omega)⟩, trivial⟩ (fun I6 hI6 FI6 q7 p7 => ?_)
  have t8 := p7 0 71 (by decide)
  have t9 := p7 0 72 (by decide)
  have t10 := p7 0 73 (by decide)
  have t11 := p7 0 69 (by decide)
  have f12 := (gr_b_0_71 hI6)
  have f13 := (gr_b_0_72 hI6)
  have f14 := (gr_b_0_73 hI6)
  have f15 := (gr_b_0_69 hI6)
  have f16 := (gr_b_0_101 hI6)
  have A17 := gr_ATp_sf x5 p7 rfl
  refine gv_run 3 true hD (pc' := 10) (lv' := [(0, .inr (.inr (some 0)))]) (st' := [.inr (.inl (J 0 92)), .inr (.inr (some 0))]) (h' := gr_h I6 J) (C := (((True ∧ True) ∧ True) ∧ True)) rfl ⟨⟨⟨trivial, trivial⟩, trivial⟩, trivial⟩ ?_
  obtain ⟨r18, h18, E18, P18⟩ := r_is_p (ws0 := ws0) (tb := tb) hws htb ext β N9 p9 I6 J hI6 (J 0 92)  A17 (by exact gz_m 2 (by omega))
  obtain ⟨rfl, ⟨z18, rfl, q18⟩⟩ := P18
  have t19 := (show gs_kw β N9 p9 (J 0 92) = gs_kw β N9 p9 (gs_W 92) from by rw [show J 0 92 = gs_W 92 from KW 92 (by decide) (by decide)])
  refine gv_callV hD rfl (As := [.inr (.inl (J 0 92))]) (st := []) rfl (by decide) rfl rfl (gr_lV hws rfl) (Nat.le_of_ble_eq_true rfl) (gz_Ev_mono (d := 1) (by decide) E18) ?_
  show gv_X _ _ (13, [(0, .inr (.inr (some 0)))], [.inl z18], gr_sh ++ ext, gr_h I6 J)
  refine gv_if_ne (t := 18) hD rfl rfl ⟨by exact gz_m 3 (by omega), by exact gz_m 4 (by omega)⟩ (fun c20 => ?_) (fun c20 => ?_)
  · refine gv_run 1 true hD (pc' := 19) (lv' := [(0, .inr (.inr (some 0)))]) (st' := [.inr (.inr (some 0))]) (h' := gr_h I6 J) (C := (True ∧ True)) rfl ⟨trivial, trivial⟩ ?_
    obtain ⟨r21, h21, E21, P21⟩ := r_next_p (ws0 := ws0) (tb := tb) hws htb ext β N9 I6 J hI6   (by exact gz_m 5 (by omega)) A17.1.1 A17.1.2
    obtain ⟨I22, J23, rfl, hI22, g21, k21, ⟨rfl, q21⟩⟩ := P21
    have FI22 := gr_frt FI6 g21 rfl rfl
    have FJ23 := gr_fjt FJ k21 rfl rfl
    have t24 := g21 0 69 rfl
    have t25 := g21 0 101 rfl
    have f26 := (gr_b_0_71 hI22)
    have f27 := (gr_b_0_72 hI22)
    have f28 := (gr_b_0_73 hI22)
    have f29 := (gr_b_0_69 hI22)
    have f30 := (gr_b_0_101 hI22)
    have A31 := gr_ATp_nx A17 q21.2.2.2.2.2
    have t32 := gr_ATp_l A31
    refine gv_callV hD rfl (As := []) (st := []) rfl (by decide) rfl rfl (gr_lV hws rfl) (Nat.le_of_ble_eq_true rfl) (gz_Ev_mono (d := 10) (by decide) E21) ?_
    show gv_X _ _ (22, [(0, .inr (.inr (some 0)))], [], gr_sh ++ ext, gr_h I22 J23)
    have f33 := (gr_b_0_71 hI22)
    refine gv_run 3 true hD (pc' := 27) (lv' := [(0, .inr (.inr (some 0)))]) (st' := [.inl 2, .inl (I22 0 71)]) (h' := gr_h I22 J23) (C := (((True ∧ True) ∧ True) ∧ True)) rfl ⟨⟨⟨trivial, trivial⟩, trivial⟩, trivial⟩ ?_
    refine gv_icmp_eq (t := 36) hD rfl rfl ⟨⟨by exact gz_m 6 (by omega), by exact gz_m 7 (by omega)⟩, ⟨by exact gz_m 8 (by omega), by exact gz_m 9 (by omega)⟩⟩ (fun c34 => ?_) (fun c34 => ?_)
    · have t35 := gr_ATp_k A31 (c := 2) ⟨by exact gz_m 10 (by omega), by exact gz_m 11 (by omega)⟩
      have t36 := (fun h : gs_T β N9 (gs_X β N9 p9) = 2 => gr_ATp_n A31 h)
      have f37 := (gr_b_0_74 hI22)
      refine gv_run 3 true hD (pc' := 43) (lv' := [(0, .inr (.inr (some 0)))]) (st' := [.inl 10000, .inl (I22 0 74)]) (h' := gr_h I22 J23) (C := (((True ∧ True) ∧ True) ∧ True)) rfl ⟨⟨⟨trivial, trivial⟩, trivial⟩, trivial⟩ ?_
      refine gv_icmp_le (t := 52) hD rfl rfl ⟨⟨by exact gz_m 12 (by omega), by exact gz_m 13 (by omega)⟩, ⟨by exact gz_m 14 (by omega), by exact gz_m 15 (by omega)⟩⟩ (fun c38 => ?_) (fun c38 => ?_)
      · have f39 := (gr_b_0_74 hI22)
        refine gv_run 3 true hD (pc' := 57) (lv' := [(0, .inr (.inr (some 0)))]) (st' := [.inl (I22 0 74), .inr (.inr (some 0))]) (h' := gr_h I22 J23) (C := (((True ∧ True) ∧ True) ∧ True)) rfl ⟨⟨⟨trivial, trivial⟩, trivial⟩, trivial⟩ ?_
        refine gv_run 1 true hD (pc' := 60) (lv' := [(0, .inr (.inr (some 0)))]) (st' := []) (h' := gz_up (gr_h I22 J23) 0 101 (.inl (I22 0 74))) (C := (True ∧ True)) rfl ⟨trivial, trivial⟩ ?_
        refine gr_st hI22 FI22 rfl rfl ⟨⟨by show 0 ≤ _; exact gz_m 16 (by omega), by show _ ≤ 10000; exact gz_m 17 (by omega)⟩, trivial⟩ (fun I40 hI40 FI40 q41 p41 => ?_)
        have t42 := p41 0 71 (by decide)
        have t43 := p41 0 72 (by decide)
        have t44 := p41 0 73 (by decide)
        have t45 := p41 0 69 (by decide)
        have f46 := (gr_b_0_71 hI40)
        have f47 := (gr_b_0_72 hI40)
        have f48 := (gr_b_0_73 hI40)
        have f49 := (gr_b_0_69 hI40)
        have f50 := (gr_b_0_101 hI40)
        have A51 := gr_ATp_sf A31 p41 rfl
        refine gv_run 1 true hD (pc' := 61) (lv' := [(0, .inr (.inr (some 0)))]) (st' := [.inr (.inr (some 0))]) (h' := gr_h I40 J23) (C := (True ∧ True)) rfl ⟨trivial, trivial⟩ ?_
        obtain ⟨r52, h52, E52, P52⟩ := r_next_p (ws0 := ws0) (tb := tb) hws htb ext β N9 I40 J23 hI40   (by exact gz_m 18 (by omega)) A51.1.1 A51.1.2
        obtain ⟨I53, J54, rfl, hI53, g52, k52, ⟨rfl, q52⟩⟩ := P52
        have FI53 := gr_frt FI40 g52 rfl rfl
        have FJ54 := gr_fjt FJ23 k52 rfl rfl
        have t55 := g52 0 69 rfl
        have t56 := g52 0 101 rfl
        have f57 := (gr_b_0_71 hI53)
        have f58 := (gr_b_0_72 hI53)
        have f59 := (gr_b_0_73 hI53)
        have f60 := (gr_b_0_69 hI53)
        have f61 := (gr_b_0_101 hI53)
        have A62 := gr_ATp_nx A51 q52.2.2.2.2.2
        have t63 := gr_ATp_l A62
        refine gv_callV hD rfl (As := []) (st := []) rfl (by decide) rfl rfl (gr_lV hws rfl) (Nat.le_of_ble_eq_true rfl) (gz_Ev_mono (d := 10) (by decide) E52) ?_
        show gv_X _ _ (64, [(0, .inr (.inr (some 0)))], [], gr_sh ++ ext, gr_h I53 J54)
        refine gv_run 1 true hD (pc' := 65) (lv' := [(0, .inr (.inr (some 0)))]) (st' := [.inl 1]) (h' := gr_h I53 J54) (C := (True ∧ True)) rfl ⟨trivial, trivial⟩ ?_
        exact gv_zret hD rfl (by exact gz_m 19 (by omega)) ⟨I53, J54, rfl, hI53, FI53, FJ54, ⟨_, rfl, by exact gz_m 20 (by omega), by exact gz_m 21 (by omega), by exact gz_m 22 (by omega), by exact gz_m 23 (by omega), by exact gz_m 24 (by omega), by exact gz_m 25 (by omega), by exact gz_m 26 (by omega), by exact gz_m 27 (by omega), by exact gz_m 28 (by omega), by exact gz_m 29 (by omega), (Or.inl ⟨by exact gz_m 30 (by omega), by have e9 : (gs_cost β N9 p9) = (gs_X β N9 (gs_X β N9 p9)) := (by unfold gs_cost; (repeat first | rw [if_pos (by exact gz_m 31 (by omega))] | rw [if_neg (by exact gz_m 32 (by omega))])); have e8 : I53 0 101 = (gs_prc β N9 p9) := (by unfold gs_prc; (repeat first | rw [if_pos (by exact gz_m 33 (by omega))] | rw [if_neg (by exact gz_m 34 (by omega))]); exact gz_m 35 (by omega)); rw [e9]; exact ⟨by exact gz_m 36 (by omega), A62, e8⟩⟩)⟩⟩
      · refine gv_run 2 true hD (pc' := 48) (lv' := [(0, .inr (.inr (some 0)))]) (st' := [.inl 5, .inr (.inr (some 0))]) (h' := gr_h I22 J23) (C := ((True ∧ True) ∧ True)) rfl ⟨⟨trivial, trivial⟩, trivial⟩ ?_
        obtain ⟨r64, h64, E64, P64⟩ := r_no__p (ws0 := ws0) (tb := tb) hws htb ext β N9 (gs_X β N9 p9) I22 J23 hI22 5 ⟨by exact gz_m 37 (by omega), by exact gz_m 38 (by omega)⟩ A31 (by exact gz_m 39 (by omega))
        obtain ⟨I65, J66, rfl, hI65, g64, k64, ⟨z64, rfl, q64⟩⟩ := P64
        have FI65 := gr_frt FI22 g64 rfl rfl
        have FJ66 := gr_fjt FJ23 k64 rfl rfl
        have t67 := g64 0 71 rfl
        have t68 := g64 0 72 rfl
        have t69 := g64 0 73 rfl
        have t70 := g64 0 69 rfl
        have t71 := g64 0 101 rfl
        have f72 := (gr_b_0_71 hI65)
        have f73 := (gr_b_0_72 hI65)
        have f74 := (gr_b_0_73 hI65)
        have f75 := (gr_b_0_69 hI65)
        have f76 := (gr_b_0_101 hI65)
        have A77 := gr_ATp_F A31 g64 k64 rfl
        have t78 := gr_ATp_l A77
        refine gv_callV hD rfl (As := [.inl 5]) (st := []) rfl (by decide) rfl rfl (gr_lV hws rfl) (Nat.le_of_ble_eq_true rfl) (gz_Ev_mono (d := 2) (by decide) E64) ?_
        show gv_X _ _ (51, [(0, .inr (.inr (some 0)))], [.inl z64], gr_sh ++ ext, gr_h I65 J66)
        exact gv_zret hD rfl (by exact gz_m 40 (by omega)) ⟨I65, J66, rfl, hI65, FI65, FJ66, ⟨_, rfl, by exact gz_m 41 (by omega), by exact gz_m 42 (by omega), by exact gz_m 43 (by omega), by exact gz_m 44 (by omega), by exact gz_m 45 (by omega), by exact gz_m 46 (by omega), by exact gz_m 47 (by omega), by exact gz_m 48 (by omega), by exact gz_m 49 (by omega), by exact gz_m 50 (by omega), (Or.inr ⟨by exact gz_m 51 (by omega), by unfold gs_cost; (repeat first | rw [if_pos (by exact gz_m 52 (by omega))] | rw [if_neg (by exact gz_m 53 (by omega))]); exact ⟨by exact gz_m 54 (by omega), by exact gz_m 55 (by omega)⟩⟩)⟩⟩
    · have t79 := gr_ATp_k A31 (c := 2) ⟨by exact gz_m 56 (by omega), by exact gz_m 57 (by omega)⟩
      refine gv_run 2 true hD (pc' := 32) (lv' := [(0, .inr (.inr (some 0)))]) (st' := [.inl 1, .inr (.inr (some 0))]) (h' := gr_h I22 J23) (C := ((True ∧ True) ∧ True)) rfl ⟨⟨trivial, trivial⟩, trivial⟩ ?_
      obtain ⟨r80, h80, E80, P80⟩ := r_no__p (ws0 := ws0) (tb := tb) hws htb ext β N9 (gs_X β N9 p9) I22 J23 hI22 1 ⟨by exact gz_m 58 (by omega), by exact gz_m 59 (by omega)⟩ A31 (by exact gz_m 60 (by omega))
      obtain ⟨I81, J82, rfl, hI81, g80, k80, ⟨z80, rfl, q80⟩⟩ := P80
      have FI81 := gr_frt FI22 g80 rfl rfl
      have FJ82 := gr_fjt FJ23 k80 rfl rfl
      have t83 := g80 0 71 rfl
      have t84 := g80 0 72 rfl
      have t85 := g80 0 73 rfl
      have t86 := g80 0 69 rfl
      have t87 := g80 0 101 rfl
      have f88 := (gr_b_0_71 hI81)
      have f89 := (gr_b_0_72 hI81)
      have f90 := (gr_b_0_73 hI81)
      have f91 := (gr_b_0_69 hI81)
      have f92 := (gr_b_0_101 hI81)
      have A93 := gr_ATp_F A31 g80 k80 rfl
      have t94 := gr_ATp_l A93
      refine gv_callV hD rfl (As := [.inl 1]) (st := []) rfl (by decide) rfl rfl (gr_lV hws rfl) (Nat.le_of_ble_eq_true rfl) (gz_Ev_mono (d := 2) (by decide) E80) ?_
      show gv_X _ _ (35, [(0, .inr (.inr (some 0)))], [.inl z80], gr_sh ++ ext, gr_h I81 J82)
      exact gv_zret hD rfl (by exact gz_m 61 (by omega)) ⟨I81, J82, rfl, hI81, FI81, FJ82, ⟨_, rfl, by exact gz_m 62 (by omega), by exact gz_m 63 (by omega), by exact gz_m 64 (by omega), by exact gz_m 65 (by omega), by exact gz_m 66 (by omega), by exact gz_m 67 (by omega), by exact gz_m 68 (by omega), by exact gz_m 69 (by omega), by exact gz_m 70 (by omega), by exact gz_m 71 (by omega), (Or.inr ⟨by exact gz_m 72 (by omega), by unfold gs_cost; (repeat first | rw [if_pos (by exact gz_m 73 (by omega))] | rw [if_neg (by exact gz_m 74 (by omega))]); exact ⟨by exact gz_m 75 (by omega), by exact gz_m 76 (by omega)⟩⟩)⟩⟩
  · refine gv_run 1 true hD (pc' := 17) (lv' := [(0, .inr (.inr (some 0)))]) (st' := [.inl 1]) (h' := gr_h I6 J) (C := (True ∧ True)) rfl ⟨trivial, trivial⟩ ?_
    exact gv_zret hD rfl (by exact gz_m 77 (by omega)) ⟨I6, J, rfl, hI6, FI6, FJ, ⟨_, rfl, by exact gz_m 78 (by omega), by exact gz_m 79 (by omega), by exact gz_m 80 (by omega), by exact gz_m 81 (by omega), by exact gz_m 82 (by omega), by exact gz_m 83 (by omega), by exact gz_m 84 (by omega), by exact gz_m 85 (by omega), by exact gz_m 86 (by omega), by exact gz_m 87 (by omega), (Or.inl ⟨by exact gz_m 88 (by omega), by have e9 : (gs_cost β N9 p9) = p9 := (by unfold gs_cost; (repeat first | rw [if_pos (by exact gz_m 89 (by omega))] | rw [if_neg (by exact gz_m 90 (by omega))])); have e8 : I6 0 101 = (gs_prc β N9 p9) := (by unfold gs_prc; (repeat first | rw [if_pos (by exact gz_m 91 (by omega))] | rw [if_neg (by exact gz_m 92 (by omega))]); exact gz_m 93 (by omega)); rw [e9]; exact ⟨by exact gz_m 94 (by omega), A17, e8⟩⟩)⟩⟩
