set_option maxHeartbeats 4000000 in
set_option maxRecDepth 100000 in
theorem r_sign_p {ws0 : List Cond} {tb : String → gz_T} (hws : ∀ w ∈ gr_ws, w ∈ ws0) (htb : tb RX13 = gr_T) (ext : gz_Sh) (β : Int → Int) (N9 : Int) (p9 : Int) (I : gr_I) (J : gr_J) (hI : gr_Inv I) (a1 : Int) (ha1 : 6 ≤ a1 ∧ a1 ≤ 127) (x0 : I 0 71 = 4 → I 0 72 ≤ 999) (x1 : gr_ATp β N9 p9 I J) (x2 : 0 ≤ p9) : ∃ r h', gz_Ev ws0 tb 1 (yX13_sign, cX13_sign, 2, (some .boolean)) [.inr (.inr (some 0)), .inl a1] (gr_sh ++ ext) (gr_h I J) r (gr_sh ++ ext) h' 0 0 ∧ (h' = gr_h I J ∧ (∃ z : Int, r = some (.inl z) ∧ 0 ≤ z ∧ z ≤ 1 ∧ (z = 0 ∨ I 0 71 = 4) ∧ ((z = 1 ∧ gs_T β N9 p9 = a1) ∨ (z = 0 ∧ ¬ gs_T β N9 p9 = a1)))) := by
  have hD : gv_D (gr_E ws0 tb 0 (yX13_sign, cX13_sign, 2, (some .boolean)) kX13_sign) := gq_ok oX13_sign
  refine gr_ev (d := 0) (l := kX13_sign) (Po := fun r h' => (h' = gr_h I J ∧ (∃ z : Int, r = some (.inl z) ∧ 0 ≤ z ∧ z ≤ 1 ∧ (z = 0 ∨ I 0 71 = 4) ∧ ((z = 1 ∧ gs_T β N9 p9 = a1) ∨ (z = 0 ∧ ¬ gs_T β N9 p9 = a1))))) htb rfl (Nat.le_of_ble_eq_true rfl) ?_
  have tAT := gr_ATp_l x1
  have tS := gr_ATp_s x1 (show 0 ≤ I 0 72 ∧ I 0 72 ≤ 1000 from (hI 0 72).1).1 (c := a1) (by omega)
  have f1 := (show 0 ≤ I 0 71 ∧ I 0 71 ≤ 5 from (hI 0 71).1)
  have f2 := (show 0 ≤ I 0 72 ∧ I 0 72 ≤ 1000 from (hI 0 72).1)
  have f3 := (show 0 ≤ I 0 71 ∧ I 0 71 ≤ 5 from (hI 0 71).1)
  refine gv_run 3 true hD (pc' := 5) (lv' := [(0, .inr (.inr (some 0))), (1, .inl a1)]) (st' := [.inl 4, .inl (I 0 71)]) (h' := gr_h I J) (C := (((True ∧ True) ∧ True) ∧ True)) rfl ⟨⟨⟨trivial, trivial⟩, trivial⟩, trivial⟩ ?_
  refine gv_icmp_ne (t := 25) hD rfl rfl ⟨⟨by omega, by omega⟩, ⟨by omega, by omega⟩⟩ (fun c4 => ?_) (fun c4 => ?_)
  · refine gv_run 1 true hD (pc' := 26) (lv' := [(0, .inr (.inr (some 0))), (1, .inl a1)]) (st' := [.inl 0]) (h' := gr_h I J) (C := (True ∧ True)) rfl ⟨trivial, trivial⟩ ?_
    exact gv_zret hD rfl (by omega) ⟨rfl, ⟨_, rfl, by omega⟩⟩
  · have f5 := (show 0 ≤ I 0 72 ∧ I 0 72 ≤ 1000 from (hI 0 72).1)
    have f6 := (show (-128) ≤ I 57 (Int.toNat ((I 0 72))) ∧ I 57 (Int.toNat ((I 0 72))) ≤ 127 from (hI 57 (Int.toNat ((I 0 72)))).1)
    refine gv_run 5 true hD (pc' := 17) (lv' := [(0, .inr (.inr (some 0))), (1, .inl a1)]) (st' := [.inl (I 57 (Int.toNat ((I 0 72))))]) (h' := gr_h I J) (C := (((((True ∧ True) ∧ True) ∧ True) ∧ True) ∧ (0 ≤ (I 0 72) ∧ (I 0 72) < ((1000 : Nat) : Int)))) rfl ⟨⟨⟨⟨⟨trivial, trivial⟩, trivial⟩, trivial⟩, trivial⟩, ⟨by omega, by omega⟩⟩ ?_
    refine gv_run 1 true hD (pc' := 18) (lv' := [(0, .inr (.inr (some 0))), (1, .inl a1)]) (st' := [.inl a1, .inl (I 57 (Int.toNat ((I 0 72))))]) (h' := gr_h I J) (C := (True ∧ True)) rfl ⟨trivial, trivial⟩ ?_
    refine gv_icmp_ne (t := 25) hD rfl rfl ⟨⟨by omega, by omega⟩, ⟨by omega, by omega⟩⟩ (fun c7 => ?_) (fun c7 => ?_)
    · refine gv_run 1 true hD (pc' := 26) (lv' := [(0, .inr (.inr (some 0))), (1, .inl a1)]) (st' := [.inl 0]) (h' := gr_h I J) (C := (True ∧ True)) rfl ⟨trivial, trivial⟩ ?_
      exact gv_zret hD rfl (by omega) ⟨rfl, ⟨_, rfl, by omega⟩⟩
    · refine gv_run 2 true hD (pc' := 26) (lv' := [(0, .inr (.inr (some 0))), (1, .inl a1)]) (st' := [.inl 1]) (h' := gr_h I J) (C := ((True ∧ True) ∧ True)) rfl ⟨⟨trivial, trivial⟩, trivial⟩ ?_
      exact gv_zret hD rfl (by omega) ⟨rfl, ⟨_, rfl, by omega⟩⟩
set_option maxHeartbeats 4000000 in
set_option maxRecDepth 100000 in
theorem r_is_p {ws0 : List Cond} {tb : String → gz_T} (hws : ∀ w ∈ gr_ws, w ∈ ws0) (htb : tb RX13 = gr_T) (ext : gz_Sh) (β : Int → Int) (N9 : Int) (p9 : Int) (I : gr_I) (J : gr_J) (hI : gr_Inv I) (a1 : Int64)  (x0 : gr_ATp β N9 p9 I J) (x1 : 0 ≤ p9) : ∃ r h', gz_Ev ws0 tb 1 (yX13_is, cX13_is, 3, (some .boolean)) [.inr (.inr (some 0)), .inr (.inl a1)] (gr_sh ++ ext) (gr_h I J) r (gr_sh ++ ext) h' 0 0 ∧ (h' = gr_h I J ∧ (∃ z : Int, r = some (.inl z) ∧ 0 ≤ z ∧ z ≤ 1 ∧ (z = 0 ∨ I 0 71 = 1) ∧ (z = gs_kw β N9 p9 a1))) := by
  have hD : gv_D (gr_E ws0 tb 0 (yX13_is, cX13_is, 3, (some .boolean)) kX13_is) := gq_ok oX13_is
  refine gr_ev (d := 0) (l := kX13_is) (Po := fun r h' => (h' = gr_h I J ∧ (∃ z : Int, r = some (.inl z) ∧ 0 ≤ z ∧ z ≤ 1 ∧ (z = 0 ∨ I 0 71 = 1) ∧ (z = gs_kw β N9 p9 a1)))) htb rfl (Nat.le_of_ble_eq_true rfl) ?_
  have tAT := gr_ATp_l x0
  have f1 := (show 0 ≤ I 0 71 ∧ I 0 71 ≤ 5 from (hI 0 71).1)
  have f2 := (show 0 ≤ I 0 71 ∧ I 0 71 ≤ 5 from (hI 0 71).1)
  refine gv_run 3 true hD (pc' := 5) (lv' := [(0, .inr (.inr (some 0))), (1, .inr (.inl a1))]) (st' := [.inl 1, .inl (I 0 71)]) (h' := gr_h I J) (C := (((True ∧ True) ∧ True) ∧ True)) rfl ⟨⟨⟨trivial, trivial⟩, trivial⟩, trivial⟩ ?_
  refine gv_icmp_ne (t := 21) hD rfl rfl ⟨⟨by omega, by omega⟩, ⟨by omega, by omega⟩⟩ (fun c3 => ?_) (fun c3 => ?_)
  · have t4 := gr_ATp_k x0 (c := 1) ⟨by omega, by omega⟩
    refine gv_run 1 true hD (pc' := 22) (lv' := [(0, .inr (.inr (some 0))), (1, .inr (.inl a1))]) (st' := [.inl 0]) (h' := gr_h I J) (C := (True ∧ True)) rfl ⟨trivial, trivial⟩ ?_
    exact gv_zret hD rfl (by omega) ⟨rfl, ⟨_, rfl, by omega, by omega, by omega, (gs_kw_0 (Or.inl (by omega))).symm⟩⟩
  · have t5 := gr_ATp_k x0 (c := 1) ⟨by omega, by omega⟩
    have f6 := gw_cmp ((J 0 75)) (a1)
    refine gv_run 4 true hD (pc' := 14) (lv' := [(0, .inr (.inr (some 0))), (1, .inr (.inl a1))]) (st' := [.inl ((lg_cmp ((J 0 75)) (a1)).toInt)]) (h' := gr_h I J) (C := ((((True ∧ True) ∧ True) ∧ True) ∧ True)) rfl ⟨⟨⟨⟨trivial, trivial⟩, trivial⟩, trivial⟩, trivial⟩ ?_
    refine gv_if_ne (t := 21) hD rfl rfl ⟨by omega, by omega⟩ (fun c7 => ?_) (fun c7 => ?_)
    · have j7 := gs_cmpn (a := (J 0 75)) (b := a1) (by omega)
      refine gv_run 1 true hD (pc' := 22) (lv' := [(0, .inr (.inr (some 0))), (1, .inr (.inl a1))]) (st' := [.inl 0]) (h' := gr_h I J) (C := (True ∧ True)) rfl ⟨trivial, trivial⟩ ?_
      exact gv_zret hD rfl (by omega) ⟨rfl, ⟨_, rfl, by omega, by omega, by omega, (gs_kw_0 (Or.inr (by rw [← gr_ATp_w x0]; exact j7))).symm⟩⟩
    · have j7 := gs_cmp0 (a := (J 0 75)) (b := a1) (by omega)
      refine gv_run 2 true hD (pc' := 22) (lv' := [(0, .inr (.inr (some 0))), (1, .inr (.inl a1))]) (st' := [.inl 1]) (h' := gr_h I J) (C := ((True ∧ True) ∧ True)) rfl ⟨⟨trivial, trivial⟩, trivial⟩ ?_
      exact gv_zret hD rfl (by omega) ⟨rfl, ⟨_, rfl, by omega, by omega, by omega, (gs_kw_1 (by omega) (by rw [← gr_ATp_w x0]; exact j7)).symm⟩⟩
set_option maxHeartbeats 4000000 in
set_option maxRecDepth 100000 in
theorem r_no_p {ws0 : List Cond} {tb : String → gz_T} (hws : ∀ w ∈ gr_ws, w ∈ ws0) (htb : tb RX13 = gr_T) (ext : gz_Sh) (I : gr_I) (J : gr_J) (hI : gr_Inv I) (a1 : Int) (a2 : Int) (ha1 : 0 ≤ a1 ∧ a1 ≤ 6) (ha2 : (-1) ≤ a2 ∧ a2 ≤ 1001)  : ∃ r h', gz_Ev ws0 tb 1 (yX13_no, cX13_no, 3, (some .boolean)) [.inr (.inr (some 0)), .inl a1, .inl a2] (gr_sh ++ ext) (gr_h I J) r (gr_sh ++ ext) h' 0 0 ∧ (∃ (I' : gr_I) (J' : gr_J), h' = gr_h I' J' ∧ gr_Inv I' ∧ gr_fr [76, 77] [] I I' ∧ gr_fj [76, 77] [] J J' ∧ (∃ z : Int, r = some (.inl z) ∧ 0 ≤ z ∧ z ≤ 1 ∧ (z = 0) ∧ (I' 0 77 = a2))) := by
  have FI : gr_fr [76, 77] [] I I := fun _ _ _ => rfl
  have FJ : gr_fj [76, 77] [] J J := fun _ _ _ => rfl
  have hD : gv_D (gr_E ws0 tb 0 (yX13_no, cX13_no, 3, (some .boolean)) kX13_no) := gq_ok oX13_no
  refine gr_ev (d := 0) (l := kX13_no) (Po := fun r h' => (∃ (I' : gr_I) (J' : gr_J), h' = gr_h I' J' ∧ gr_Inv I' ∧ gr_fr [76, 77] [] I I' ∧ gr_fj [76, 77] [] J J' ∧ (∃ z : Int, r = some (.inl z) ∧ 0 ≤ z ∧ z ≤ 1 ∧ (z = 0) ∧ (I' 0 77 = a2)))) htb rfl (Nat.le_of_ble_eq_true rfl) ?_
  refine gv_run 3 true hD (pc' := 5) (lv' := [(0, .inr (.inr (some 0))), (1, .inl a1), (2, .inl a2)]) (st' := []) (h' := gz_up (gr_h I J) 0 76 (.inl a1)) (C := (((True ∧ True) ∧ True) ∧ True)) rfl ⟨⟨⟨trivial, trivial⟩, trivial⟩, trivial⟩ ?_
  refine gr_st hI FI rfl rfl ⟨⟨by show 0 ≤ _; omega, by show _ ≤ 6; omega⟩, trivial⟩ (fun I1 hI1 FI1 q2 p2 => ?_)
  refine gv_run 3 true hD (pc' := 10) (lv' := [(0, .inr (.inr (some 0))), (1, .inl a1), (2, .inl a2)]) (st' := []) (h' := gz_up (gr_h I1 J) 0 77 (.inl a2)) (C := (((True ∧ True) ∧ True) ∧ True)) rfl ⟨⟨⟨trivial, trivial⟩, trivial⟩, trivial⟩ ?_
  refine gr_st hI1 FI1 rfl rfl ⟨⟨by show (-1) ≤ _; omega, by show _ ≤ 1001; omega⟩, trivial⟩ (fun I3 hI3 FI3 q4 p4 => ?_)
  refine gv_run 1 true hD (pc' := 11) (lv' := [(0, .inr (.inr (some 0))), (1, .inl a1), (2, .inl a2)]) (st' := [.inl 0]) (h' := gr_h I3 J) (C := (True ∧ True)) rfl ⟨trivial, trivial⟩ ?_
  exact gv_zret hD rfl (by omega) ⟨I3, J, rfl, hI3, FI3, FJ, ⟨_, rfl, by omega⟩⟩
set_option maxHeartbeats 4000000 in
set_option maxRecDepth 100000 in
theorem r_no__p {ws0 : List Cond} {tb : String → gz_T} (hws : ∀ w ∈ gr_ws, w ∈ ws0) (htb : tb RX13 = gr_T) (ext : gz_Sh) (β : Int → Int) (N9 : Int) (p9 : Int) (I : gr_I) (J : gr_J) (hI : gr_Inv I) (a1 : Int) (ha1 : 0 ≤ a1 ∧ a1 ≤ 6) (x0 : gr_ATp β N9 p9 I J) (x1 : 0 ≤ p9) : ∃ r h', gz_Ev ws0 tb 2 (yX13_no_, cX13_no_, 2, (some .boolean)) [.inr (.inr (some 0)), .inl a1] (gr_sh ++ ext) (gr_h I J) r (gr_sh ++ ext) h' 0 0 ∧ (∃ (I' : gr_I) (J' : gr_J), h' = gr_h I' J' ∧ gr_Inv I' ∧ gr_fr [76, 77] [] I I' ∧ gr_fj [76, 77] [] J J' ∧ (∃ z : Int, r = some (.inl z) ∧ 0 ≤ z ∧ z ≤ 1 ∧ (z = 0) ∧ (I' 0 77 = gs_A β N9 p9))) := by
  have FI : gr_fr [76, 77] [] I I := fun _ _ _ => rfl
  have FJ : gr_fj [76, 77] [] J J := fun _ _ _ => rfl
  have hD : gv_D (gr_E ws0 tb 1 (yX13_no_, cX13_no_, 2, (some .boolean)) kX13_no_) := gq_ok oX13_no_
  refine gr_ev (d := 1) (l := kX13_no_) (Po := fun r h' => (∃ (I' : gr_I) (J' : gr_J), h' = gr_h I' J' ∧ gr_Inv I' ∧ gr_fr [76, 77] [] I I' ∧ gr_fj [76, 77] [] J J' ∧ (∃ z : Int, r = some (.inl z) ∧ 0 ≤ z ∧ z ≤ 1 ∧ (z = 0) ∧ (I' 0 77 = gs_A β N9 p9)))) htb rfl (Nat.le_of_ble_eq_true rfl) ?_
  have tAT := gr_ATp_l x0
  have t0 := gr_ATp_0 x0
  have tE := gs_T4 (β := β) (N := N9) (p := p9)
  have tN := x0.1.2
  have f1 := (show 0 ≤ I 0 71 ∧ I 0 71 ≤ 5 from (hI 0 71).1)
  have f2 := (show 0 ≤ I 0 72 ∧ I 0 72 ≤ 1000 from (hI 0 72).1)
  have f3 := (show 0 ≤ I 0 69 ∧ I 0 69 ≤ 1000 from (hI 0 69).1)
  have f4 := (show 0 ≤ I 0 71 ∧ I 0 71 ≤ 5 from (hI 0 71).1)
  refine gv_run 4 true hD (pc' := 6) (lv' := [(0, .inr (.inr (some 0))), (1, .inl a1)]) (st' := [.inl (I 0 71), .inl a1, .inr (.inr (some 0))]) (h' := gr_h I J) (C := ((((True ∧ True) ∧ True) ∧ True) ∧ True)) rfl ⟨⟨⟨⟨trivial, trivial⟩, trivial⟩, trivial⟩, trivial⟩ ?_
  refine gv_if_ne (t := 16) hD rfl rfl ⟨by omega, by omega⟩ (fun c5 => ?_) (fun c5 => ?_)
  · have t6 := gr_ATp_0 x0
    have f7 := (show 0 ≤ I 0 72 ∧ I 0 72 ≤ 1000 from (hI 0 72).1)
    refine gv_run 2 true hD (pc' := 20) (lv' := [(0, .inr (.inr (some 0))), (1, .inl a1)]) (st' := [.inl (I 0 72), .inl a1, .inr (.inr (some 0))]) (h' := gr_h I J) (C := ((True ∧ True) ∧ True)) rfl ⟨⟨trivial, trivial⟩, trivial⟩ ?_
    obtain ⟨r8, h8, E8, P8⟩ := r_no_p (ws0 := ws0) (tb := tb) hws htb ext I J hI a1 (I 0 72) ⟨by omega, by omega⟩ ⟨by omega, by omega⟩ 
    obtain ⟨I9, J10, rfl, hI9, g8, k8, ⟨z8, rfl, q8⟩⟩ := P8
    have FI9 := gr_frt FI g8 rfl rfl
    have FJ10 := gr_fjt FJ k8 rfl rfl
    have t11 := g8 0 71 rfl
    have t12 := g8 0 72 rfl
    have t13 := g8 0 69 rfl
    have f14 := (show 0 ≤ I9 0 71 ∧ I9 0 71 ≤ 5 from (hI9 0 71).1)
    have f15 := (show 0 ≤ I9 0 72 ∧ I9 0 72 ≤ 1000 from (hI9 0 72).1)
    have f16 := (show 0 ≤ I9 0 69 ∧ I9 0 69 ≤ 1000 from (hI9 0 69).1)
    have A17 := gr_ATp_F x0 g8 k8 rfl
    have t18 := gr_ATp_l A17
    refine gv_callV hD rfl (As := [.inl a1, .inl (I 0 72)]) (st := []) rfl (by decide) rfl rfl (gr_lV hws rfl) (Nat.le_of_ble_eq_true rfl) (gz_Ev_mono (d := 1) (by decide) E8) ?_
    show gv_X _ _ (23, [(0, .inr (.inr (some 0))), (1, .inl a1)], [.inl z8], gr_sh ++ ext, gr_h I9 J10)
    exact gv_zret hD rfl (by omega) ⟨I9, J10, rfl, hI9, FI9, FJ10, ⟨_, rfl, by omega⟩⟩
  · have t19 := gr_ATp_0 x0
    have f20 := (show 0 ≤ I 0 69 ∧ I 0 69 ≤ 1000 from (hI 0 69).1)
    refine gv_run 3 true hD (pc' := 20) (lv' := [(0, .inr (.inr (some 0))), (1, .inl a1)]) (st' := [.inl (I 0 69), .inl a1, .inr (.inr (some 0))]) (h' := gr_h I J) (C := (((True ∧ True) ∧ True) ∧ True)) rfl ⟨⟨⟨trivial, trivial⟩, trivial⟩, trivial⟩ ?_
    obtain ⟨r21, h21, E21, P21⟩ := r_no_p (ws0 := ws0) (tb := tb) hws htb ext I J hI a1 (I 0 69) ⟨by omega, by omega⟩ ⟨by omega, by omega⟩ 
    obtain ⟨I22, J23, rfl, hI22, g21, k21, ⟨z21, rfl, q21⟩⟩ := P21
    have FI22 := gr_frt FI g21 rfl rfl
    have FJ23 := gr_fjt FJ k21 rfl rfl
    have t24 := g21 0 71 rfl
    have t25 := g21 0 72 rfl
    have t26 := g21 0 69 rfl
    have f27 := (show 0 ≤ I22 0 71 ∧ I22 0 71 ≤ 5 from (hI22 0 71).1)
    have f28 := (show 0 ≤ I22 0 72 ∧ I22 0 72 ≤ 1000 from (hI22 0 72).1)
    have f29 := (show 0 ≤ I22 0 69 ∧ I22 0 69 ≤ 1000 from (hI22 0 69).1)
    have A30 := gr_ATp_F x0 g21 k21 rfl
    have t31 := gr_ATp_l A30
    refine gv_callV hD rfl (As := [.inl a1, .inl (I 0 69)]) (st := []) rfl (by decide) rfl rfl (gr_lV hws rfl) (Nat.le_of_ble_eq_true rfl) (gz_Ev_mono (d := 1) (by decide) E21) ?_
    show gv_X _ _ (23, [(0, .inr (.inr (some 0))), (1, .inl a1)], [.inl z21], gr_sh ++ ext, gr_h I22 J23)
    exact gv_zret hD rfl (by omega) ⟨I22, J23, rfl, hI22, FI22, FJ23, ⟨_, rfl, by omega⟩⟩
set_option maxHeartbeats 4000000 in
set_option maxRecDepth 100000 in
theorem r_none_p {ws0 : List Cond} {tb : String → gz_T} (hws : ∀ w ∈ gr_ws, w ∈ ws0) (htb : tb RX13 = gr_T) (ext : gz_Sh) (β : Int → Int) (N9 : Int) (p9 : Int) (I : gr_I) (J : gr_J) (hI : gr_Inv I) (a1 : Int) (ha1 : 0 ≤ a1 ∧ a1 ≤ 6) (x0 : gr_ATp β N9 p9 I J) (x1 : 0 ≤ p9) : ∃ r h', gz_Ev ws0 tb 3 (yX13_none, cX13_none, 2, (some .int)) [.inr (.inr (some 0)), .inl a1] (gr_sh ++ ext) (gr_h I J) r (gr_sh ++ ext) h' 0 0 ∧ (∃ (I' : gr_I) (J' : gr_J), h' = gr_h I' J' ∧ gr_Inv I' ∧ gr_fr [76, 77] [] I I' ∧ gr_fj [76, 77] [] J J' ∧ (∃ z : Int, r = some (.inl z) ∧ (-1) ≤ z ∧ z ≤ (-1) ∧ (I' 0 77 = gs_A β N9 p9))) := by
  have FI : gr_fr [76, 77] [] I I := fun _ _ _ => rfl
  have FJ : gr_fj [76, 77] [] J J := fun _ _ _ => rfl
  have hD : gv_D (gr_E ws0 tb 2 (yX13_none, cX13_none, 2, (some .int)) kX13_none) := gq_ok oX13_none
  refine gr_ev (d := 2) (l := kX13_none) (Po := fun r h' => (∃ (I' : gr_I) (J' : gr_J), h' = gr_h I' J' ∧ gr_Inv I' ∧ gr_fr [76, 77] [] I I' ∧ gr_fj [76, 77] [] J J' ∧ (∃ z : Int, r = some (.inl z) ∧ (-1) ≤ z ∧ z ≤ (-1) ∧ (I' 0 77 = gs_A β N9 p9)))) htb rfl (Nat.le_of_ble_eq_true rfl) ?_
  have tAT := gr_ATp_l x0
  refine gv_run 2 true hD (pc' := 2) (lv' := [(0, .inr (.inr (some 0))), (1, .inl a1)]) (st' := [.inl a1, .inr (.inr (some 0))]) (h' := gr_h I J) (C := ((True ∧ True) ∧ True)) rfl ⟨⟨trivial, trivial⟩, trivial⟩ ?_
  obtain ⟨r1, h1, E1, P1⟩ := r_no__p (ws0 := ws0) (tb := tb) hws htb ext β N9 p9 I J hI a1 ⟨by omega, by omega⟩ x0 (by omega)
  obtain ⟨I2, J3, rfl, hI2, g1, k1, ⟨z1, rfl, q1⟩⟩ := P1
  have FI2 := gr_frt FI g1 rfl rfl
  have FJ3 := gr_fjt FJ k1 rfl rfl
  have A4 := gr_ATp_F x0 g1 k1 rfl
  have t5 := gr_ATp_l A4
  refine gv_callV hD rfl (As := [.inl a1]) (st := []) rfl (by decide) rfl rfl (gr_lV hws rfl) (Nat.le_of_ble_eq_true rfl) (gz_Ev_mono (d := 2) (by decide) E1) ?_
  show gv_X _ _ (5, [(0, .inr (.inr (some 0))), (1, .inl a1)], [.inl z1], gr_sh ++ ext, gr_h I2 J3)
  refine gv_run 2 true hD (pc' := 7) (lv' := [(0, .inr (.inr (some 0))), (1, .inl a1)]) (st' := [.inl (-1)]) (h' := gr_h I2 J3) (C := ((True ∧ True) ∧ True)) rfl ⟨⟨trivial, trivial⟩, trivial⟩ ?_
  exact gv_iret hD rfl ⟨I2, J3, rfl, hI2, FI2, FJ3, ⟨_, rfl, by omega⟩⟩
set_option maxHeartbeats 4000000 in
set_option maxRecDepth 100000 in
theorem r_name_p {ws0 : List Cond} {tb : String → gz_T} (hws : ∀ w ∈ gr_ws, w ∈ ws0) (htb : tb RX13 = gr_T) (ext : gz_Sh) (β : Int → Int) (N9 : Int) (p9 : Int) (I : gr_I) (J : gr_J) (hI : gr_Inv I)   (x0 : gr_ATp β N9 p9 I J) (x1 : 0 ≤ p9) : ∃ r h', gz_Ev ws0 tb 3 (yX13_name, cX13_name, 1, (some .boolean)) [.inr (.inr (some 0))] (gr_sh ++ ext) (gr_h I J) r (gr_sh ++ ext) h' 0 0 ∧ (∃ (I' : gr_I) (J' : gr_J), h' = gr_h I' J' ∧ gr_Inv I' ∧ gr_fr [76, 77] [] I I' ∧ gr_fj [76, 77] [] J J' ∧ (∃ z : Int, r = some (.inl z) ∧ 0 ≤ z ∧ z ≤ 1 ∧ (z = 0 ∨ I 0 71 = 1) ∧ ((z = 1 ∧ gs_T β N9 p9 = 1) ∨ (z = 0 ∧ ¬ gs_T β N9 p9 = 1 ∧ I' 0 77 = gs_A β N9 p9)))) := by
  have FI : gr_fr [76, 77] [] I I := fun _ _ _ => rfl
  have FJ : gr_fj [76, 77] [] J J := fun _ _ _ => rfl
  have hD : gv_D (gr_E ws0 tb 2 (yX13_name, cX13_name, 1, (some .boolean)) kX13_name) := gq_ok oX13_name
  refine gr_ev (d := 2) (l := kX13_name) (Po := fun r h' => (∃ (I' : gr_I) (J' : gr_J), h' = gr_h I' J' ∧ gr_Inv I' ∧ gr_fr [76, 77] [] I I' ∧ gr_fj [76, 77] [] J J' ∧ (∃ z : Int, r = some (.inl z) ∧ 0 ≤ z ∧ z ≤ 1 ∧ (z = 0 ∨ I 0 71 = 1) ∧ ((z = 1 ∧ gs_T β N9 p9 = 1) ∨ (z = 0 ∧ ¬ gs_T β N9 p9 = 1 ∧ I' 0 77 = gs_A β N9 p9))))) htb rfl (Nat.le_of_ble_eq_true rfl) ?_
  have tAT := gr_ATp_l x0
  have f1 := (show 0 ≤ I 0 71 ∧ I 0 71 ≤ 5 from (hI 0 71).1)
  have f2 := (show 0 ≤ I 0 71 ∧ I 0 71 ≤ 5 from (hI 0 71).1)
  refine gv_run 3 true hD (pc' := 5) (lv' := [(0, .inr (.inr (some 0)))]) (st' := [.inl 1, .inl (I 0 71)]) (h' := gr_h I J) (C := (((True ∧ True) ∧ True) ∧ True)) rfl ⟨⟨⟨trivial, trivial⟩, trivial⟩, trivial⟩ ?_
  refine gv_icmp_eq (t := 16) hD rfl rfl ⟨⟨by omega, by omega⟩, ⟨by omega, by omega⟩⟩ (fun c3 => ?_) (fun c3 => ?_)
  · have t4 := gr_ATp_k x0 (c := 1) ⟨by omega, by omega⟩
    refine gv_run 2 true hD (pc' := 21) (lv' := [(0, .inr (.inr (some 0)))]) (st' := [.inl 1]) (h' := gr_h I J) (C := ((True ∧ True) ∧ True)) rfl ⟨⟨trivial, trivial⟩, trivial⟩ ?_
    exact gv_zret hD rfl (by omega) ⟨I, J, rfl, hI, FI, FJ, ⟨_, rfl, by omega⟩⟩
  · have t5 := gr_ATp_k x0 (c := 1) ⟨by omega, by omega⟩
    refine gv_run 2 true hD (pc' := 10) (lv' := [(0, .inr (.inr (some 0)))]) (st' := [.inl 1, .inr (.inr (some 0))]) (h' := gr_h I J) (C := ((True ∧ True) ∧ True)) rfl ⟨⟨trivial, trivial⟩, trivial⟩ ?_
    obtain ⟨r6, h6, E6, P6⟩ := r_no__p (ws0 := ws0) (tb := tb) hws htb ext β N9 p9 I J hI 1 ⟨by omega, by omega⟩ x0 (by omega)
    obtain ⟨I7, J8, rfl, hI7, g6, k6, ⟨z6, rfl, q6⟩⟩ := P6
    have FI7 := gr_frt FI g6 rfl rfl
    have FJ8 := gr_fjt FJ k6 rfl rfl
    have t9 := g6 0 71 rfl
    have f10 := (show 0 ≤ I7 0 71 ∧ I7 0 71 ≤ 5 from (hI7 0 71).1)
    have A11 := gr_ATp_F x0 g6 k6 rfl
    have t12 := gr_ATp_l A11
    refine gv_callV hD rfl (As := [.inl 1]) (st := []) rfl (by decide) rfl rfl (gr_lV hws rfl) (Nat.le_of_ble_eq_true rfl) (gz_Ev_mono (d := 2) (by decide) E6) ?_
    show gv_X _ _ (13, [(0, .inr (.inr (some 0)))], [.inl z6], gr_sh ++ ext, gr_h I7 J8)
    refine gv_if_eq (t := 20) hD rfl rfl ⟨by omega, by omega⟩ (fun c13 => ?_) (fun c13 => ?_)
    · refine gv_run 1 true hD (pc' := 21) (lv' := [(0, .inr (.inr (some 0)))]) (st' := [.inl 0]) (h' := gr_h I7 J8) (C := (True ∧ True)) rfl ⟨trivial, trivial⟩ ?_
      exact gv_zret hD rfl (by omega) ⟨I7, J8, rfl, hI7, FI7, FJ8, ⟨_, rfl, by omega⟩⟩
    · refine gv_run 2 true hD (pc' := 21) (lv' := [(0, .inr (.inr (some 0)))]) (st' := [.inl 1]) (h' := gr_h I7 J8) (C := ((True ∧ True) ∧ True)) rfl ⟨⟨trivial, trivial⟩, trivial⟩ ?_
      exact gv_zret hD rfl (by omega) ⟨I7, J8, rfl, hI7, FI7, FJ8, ⟨_, rfl, by omega⟩⟩
set_option maxHeartbeats 4000000 in
set_option maxRecDepth 100000 in
theorem r_need_p {ws0 : List Cond} {tb : String → gz_T} (hws : ∀ w ∈ gr_ws, w ∈ ws0) (htb : tb RX13 = gr_T) (ext : gz_Sh) (β : Int → Int) (N9 : Int) (p9 : Int) (I : gr_I) (J : gr_J) (hI : gr_Inv I) (a1 : Int) (ha1 : 6 ≤ a1 ∧ a1 ≤ 127) (x0 : I 0 71 = 5 ∨ I 0 73 ≤ I 0 69) (x1 : I 0 72 ≤ I 0 69) (x2 : I 0 71 = 0 ∨ (I 0 72 < I 0 73 ∧ I 0 72 < I 0 69)) (x3 : I 0 71 = 3 → 2 ≤ I 0 73 - I 0 72 ∧ I 0 73 - I 0 72 ≤ 14) (x4 : I 0 72 ≤ I 0 73) (x5 : gr_ATp β N9 p9 I J) (x6 : 0 ≤ p9) : ∃ r h', gz_Ev ws0 tb 11 (yX13_need, cX13_need, 2, (some .boolean)) [.inr (.inr (some 0)), .inl a1] (gr_sh ++ ext) (gr_h I J) r (gr_sh ++ ext) h' 0 0 ∧ (∃ (I' : gr_I) (J' : gr_J), h' = gr_h I' J' ∧ gr_Inv I' ∧ gr_fr [71, 72, 73, 74, 75, 76, 77] [] I I' ∧ gr_fj [71, 72, 73, 74, 75, 76, 77] [] J J' ∧ (∃ z : Int, r = some (.inl z) ∧ 0 ≤ z ∧ z ≤ 1 ∧ (I' 0 71 = 5 ∨ I' 0 73 ≤ I' 0 69) ∧ (I' 0 72 ≤ I' 0 69) ∧ (I' 0 71 = 0 ∨ (I' 0 72 < I' 0 73 ∧ I' 0 72 < I' 0 69)) ∧ (I' 0 71 = 3 → 2 ≤ I' 0 73 - I' 0 72 ∧ I' 0 73 - I' 0 72 ≤ 14) ∧ (I' 0 72 ≤ I' 0 73) ∧ (I' 0 69 = I 0 69) ∧ (I 0 73 ≤ I' 0 73) ∧ (I 0 72 ≤ I' 0 72) ∧ (z = 0 ∨ (I 0 73 ≤ I' 0 72 ∧ I 0 71 = 4)) ∧ (gs_Or z (0 ≤ (gs_need β N9 a1 p9) ∧ gr_ATp β N9 (gs_need β N9 a1 p9) I' J') ((gs_need β N9 a1 p9) < 0 ∧ I' 0 77 = -1 - (gs_need β N9 a1 p9))))) := by
  have FI : gr_fr [71, 72, 73, 74, 75, 76, 77] [] I I := fun _ _ _ => rfl
  have FJ : gr_fj [71, 72, 73, 74, 75, 76, 77] [] J J := fun _ _ _ => rfl
  have hD : gv_D (gr_E ws0 tb 10 (yX13_need, cX13_need, 2, (some .boolean)) kX13_need) := gq_ok oX13_need
  refine gr_ev (d := 10) (l := kX13_need) (Po := fun r h' => (∃ (I' : gr_I) (J' : gr_J), h' = gr_h I' J' ∧ gr_Inv I' ∧ gr_fr [71, 72, 73, 74, 75, 76, 77] [] I I' ∧ gr_fj [71, 72, 73, 74, 75, 76, 77] [] J J' ∧ (∃ z : Int, r = some (.inl z) ∧ 0 ≤ z ∧ z ≤ 1 ∧ (I' 0 71 = 5 ∨ I' 0 73 ≤ I' 0 69) ∧ (I' 0 72 ≤ I' 0 69) ∧ (I' 0 71 = 0 ∨ (I' 0 72 < I' 0 73 ∧ I' 0 72 < I' 0 69)) ∧ (I' 0 71 = 3 → 2 ≤ I' 0 73 - I' 0 72 ∧ I' 0 73 - I' 0 72 ≤ 14) ∧ (I' 0 72 ≤ I' 0 73) ∧ (I' 0 69 = I 0 69) ∧ (I 0 73 ≤ I' 0 73) ∧ (I 0 72 ≤ I' 0 72) ∧ (z = 0 ∨ (I 0 73 ≤ I' 0 72 ∧ I 0 71 = 4)) ∧ (gs_Or z (0 ≤ (gs_need β N9 a1 p9) ∧ gr_ATp β N9 (gs_need β N9 a1 p9) I' J') ((gs_need β N9 a1 p9) < 0 ∧ I' 0 77 = -1 - (gs_need β N9 a1 p9)))))) htb rfl (Nat.le_of_ble_eq_true rfl) ?_
  have tAT := gr_ATp_l x5
  have f1 := (show 0 ≤ I 0 71 ∧ I 0 71 ≤ 5 from (hI 0 71).1)
  have f2 := (show 0 ≤ I 0 72 ∧ I 0 72 ≤ 1000 from (hI 0 72).1)
  have f3 := (show 0 ≤ I 0 73 ∧ I 0 73 ≤ 1001 from (hI 0 73).1)
  have f4 := (show 0 ≤ I 0 69 ∧ I 0 69 ≤ 1000 from (hI 0 69).1)
  refine gv_run 2 true hD (pc' := 2) (lv' := [(0, .inr (.inr (some 0))), (1, .inl a1)]) (st' := [.inl a1, .inr (.inr (some 0))]) (h' := gr_h I J) (C := ((True ∧ True) ∧ True)) rfl ⟨⟨trivial, trivial⟩, trivial⟩ ?_
  obtain ⟨r5, h5, E5, P5⟩ := r_sign_p (ws0 := ws0) (tb := tb) hws htb ext β N9 p9 I J hI a1 ⟨by omega, by omega⟩ (by omega) x5 (by omega)
  obtain ⟨rfl, ⟨z5, rfl, q5⟩⟩ := P5
  refine gv_callV hD rfl (As := [.inl a1]) (st := []) rfl (by decide) rfl rfl (gr_lV hws rfl) (Nat.le_of_ble_eq_true rfl) (gz_Ev_mono (d := 1) (by decide) E5) ?_
  show gv_X _ _ (5, [(0, .inr (.inr (some 0))), (1, .inl a1)], [.inl z5], gr_sh ++ ext, gr_h I J)
  refine gv_if_ne (t := 14) hD rfl rfl ⟨by omega, by omega⟩ (fun c6 => ?_) (fun c6 => ?_)
  · refine gv_run 1 true hD (pc' := 15) (lv' := [(0, .inr (.inr (some 0))), (1, .inl a1)]) (st' := [.inr (.inr (some 0))]) (h' := gr_h I J) (C := (True ∧ True)) rfl ⟨trivial, trivial⟩ ?_
    obtain ⟨r7, h7, E7, P7⟩ := r_next_p (ws0 := ws0) (tb := tb) hws htb ext β N9 I J hI   (by omega) x5.1.1 x5.1.2
    obtain ⟨I8, J9, rfl, hI8, g7, k7, ⟨rfl, q7⟩⟩ := P7
    have FI8 := gr_frt FI g7 rfl rfl
    have FJ9 := gr_fjt FJ k7 rfl rfl
    have t10 := g7 0 69 rfl
    have f11 := (show 0 ≤ I8 0 71 ∧ I8 0 71 ≤ 5 from (hI8 0 71).1)
    have f12 := (show 0 ≤ I8 0 72 ∧ I8 0 72 ≤ 1000 from (hI8 0 72).1)
    have f13 := (show 0 ≤ I8 0 73 ∧ I8 0 73 ≤ 1001 from (hI8 0 73).1)
    have f14 := (show 0 ≤ I8 0 69 ∧ I8 0 69 ≤ 1000 from (hI8 0 69).1)
    have A15 := gr_ATp_nx x5 q7.2.2.2.2.2
    have t16 := gr_ATp_l A15
    refine gv_callV hD rfl (As := []) (st := []) rfl (by decide) rfl rfl (gr_lV hws rfl) (Nat.le_of_ble_eq_true rfl) (gz_Ev_mono (d := 10) (by decide) E7) ?_
    show gv_X _ _ (18, [(0, .inr (.inr (some 0))), (1, .inl a1)], [], gr_sh ++ ext, gr_h I8 J9)
    refine gv_run 1 true hD (pc' := 19) (lv' := [(0, .inr (.inr (some 0))), (1, .inl a1)]) (st' := [.inl 1]) (h' := gr_h I8 J9) (C := (True ∧ True)) rfl ⟨trivial, trivial⟩ ?_
    exact gv_zret hD rfl (by omega) ⟨I8, J9, rfl, hI8, FI8, FJ9, ⟨_, rfl, by omega, by omega, by omega, by omega, by omega, by omega, by omega, by omega, by omega, by omega, by omega, (Or.inl ⟨by omega, by have e9 : (gs_need β N9 a1 p9) = (gs_X β N9 p9) := (by unfold gs_need; (repeat first | rw [if_pos (by omega)] | rw [if_neg (by omega)])); rw [e9]; exact ⟨by omega, A15⟩⟩)⟩⟩
  · refine gv_run 2 true hD (pc' := 10) (lv' := [(0, .inr (.inr (some 0))), (1, .inl a1)]) (st' := [.inl 1, .inr (.inr (some 0))]) (h' := gr_h I J) (C := ((True ∧ True) ∧ True)) rfl ⟨⟨trivial, trivial⟩, trivial⟩ ?_
    obtain ⟨r17, h17, E17, P17⟩ := r_no__p (ws0 := ws0) (tb := tb) hws htb ext β N9 p9 I J hI 1 ⟨by omega, by omega⟩ x5 (by omega)
    obtain ⟨I18, J19, rfl, hI18, g17, k17, ⟨z17, rfl, q17⟩⟩ := P17
    have FI18 := gr_frt FI g17 rfl rfl
    have FJ19 := gr_fjt FJ k17 rfl rfl
    have t20 := g17 0 71 rfl
    have t21 := g17 0 72 rfl
    have t22 := g17 0 73 rfl
    have t23 := g17 0 69 rfl
    have f24 := (show 0 ≤ I18 0 71 ∧ I18 0 71 ≤ 5 from (hI18 0 71).1)
    have f25 := (show 0 ≤ I18 0 72 ∧ I18 0 72 ≤ 1000 from (hI18 0 72).1)
    have f26 := (show 0 ≤ I18 0 73 ∧ I18 0 73 ≤ 1001 from (hI18 0 73).1)
    have f27 := (show 0 ≤ I18 0 69 ∧ I18 0 69 ≤ 1000 from (hI18 0 69).1)
    have A28 := gr_ATp_F x5 g17 k17 rfl
    have t29 := gr_ATp_l A28
    refine gv_callV hD rfl (As := [.inl 1]) (st := []) rfl (by decide) rfl rfl (gr_lV hws rfl) (Nat.le_of_ble_eq_true rfl) (gz_Ev_mono (d := 2) (by decide) E17) ?_
    show gv_X _ _ (13, [(0, .inr (.inr (some 0))), (1, .inl a1)], [.inl z17], gr_sh ++ ext, gr_h I18 J19)
    exact gv_zret hD rfl (by omega) ⟨I18, J19, rfl, hI18, FI18, FJ19, ⟨_, rfl, by omega, by omega, by omega, by omega, by omega, by omega, by omega, by omega, by omega, by omega, by omega, (Or.inr ⟨by omega, by unfold gs_need; (repeat first | rw [if_pos (by omega)] | rw [if_neg (by omega)]); exact ⟨by omega, by omega⟩⟩)⟩⟩
set_option maxHeartbeats 4000000 in
set_option maxRecDepth 100000 in
theorem r_done_p {ws0 : List Cond} {tb : String → gz_T} (hws : ∀ w ∈ gr_ws, w ∈ ws0) (htb : tb RX13 = gr_T) (ext : gz_Sh) (β : Int → Int) (N9 : Int) (p9 : Int) (I : gr_I) (J : gr_J) (hI : gr_Inv I) (a1 : Int) (ha1 : 0 ≤ a1 ∧ a1 ≤ 1) (x0 : I 0 71 = 5 ∨ I 0 73 ≤ I 0 69) (x1 : I 0 72 ≤ I 0 69) (x2 : I 0 71 = 0 ∨ (I 0 72 < I 0 73 ∧ I 0 72 < I 0 69)) (x3 : I 0 71 = 3 → 2 ≤ I 0 73 - I 0 72 ∧ I 0 73 - I 0 72 ≤ 14) (x4 : I 0 72 ≤ I 0 73) (x5 : gr_ATp β N9 p9 I J) (x6 : 0 ≤ p9) : ∃ r h', gz_Ev ws0 tb 11 (yX13_done, cX13_done, 2, (some .boolean)) [.inr (.inr (some 0)), .inl a1] (gr_sh ++ ext) (gr_h I J) r (gr_sh ++ ext) h' 0 0 ∧ (∃ (I' : gr_I) (J' : gr_J), h' = gr_h I' J' ∧ gr_Inv I' ∧ gr_fr [71, 72, 73, 74, 75, 76, 77] [] I I' ∧ gr_fj [71, 72, 73, 74, 75, 76, 77] [] J J' ∧ (∃ z : Int, r = some (.inl z) ∧ 0 ≤ z ∧ z ≤ 1 ∧ (I' 0 71 = 5 ∨ I' 0 73 ≤ I' 0 69) ∧ (I' 0 72 ≤ I' 0 69) ∧ (I' 0 71 = 0 ∨ (I' 0 72 < I' 0 73 ∧ I' 0 72 < I' 0 69)) ∧ (I' 0 71 = 3 → 2 ≤ I' 0 73 - I' 0 72 ∧ I' 0 73 - I' 0 72 ≤ 14) ∧ (I' 0 72 ≤ I' 0 73) ∧ (I' 0 69 = I 0 69) ∧ (I 0 73 ≤ I' 0 73) ∧ (I 0 72 ≤ I' 0 72) ∧ (z = 0 ∨ a1 = 1) ∧ (z = 0 ∨ (I 0 73 ≤ I' 0 72 ∧ I 0 71 = 4)) ∧ (gs_Or z (0 ≤ (gs_done β N9 a1 (I 0 78) p9) ∧ gr_ATp β N9 (gs_done β N9 a1 (I 0 78) p9) I' J') ((gs_done β N9 a1 (I 0 78) p9) < 0 ∧ I' 0 77 = -1 - (gs_done β N9 a1 (I 0 78) p9))))) := by
  have FI : gr_fr [71, 72, 73, 74, 75, 76, 77] [] I I := fun _ _ _ => rfl
  have FJ : gr_fj [71, 72, 73, 74, 75, 76, 77] [] J J := fun _ _ _ => rfl
  have hD : gv_D (gr_E ws0 tb 10 (yX13_done, cX13_done, 2, (some .boolean)) kX13_done) := gq_ok oX13_done
  refine gr_ev (d := 10) (l := kX13_done) (Po := fun r h' => (∃ (I' : gr_I) (J' : gr_J), h' = gr_h I' J' ∧ gr_Inv I' ∧ gr_fr [71, 72, 73, 74, 75, 76, 77] [] I I' ∧ gr_fj [71, 72, 73, 74, 75, 76, 77] [] J J' ∧ (∃ z : Int, r = some (.inl z) ∧ 0 ≤ z ∧ z ≤ 1 ∧ (I' 0 71 = 5 ∨ I' 0 73 ≤ I' 0 69) ∧ (I' 0 72 ≤ I' 0 69) ∧ (I' 0 71 = 0 ∨ (I' 0 72 < I' 0 73 ∧ I' 0 72 < I' 0 69)) ∧ (I' 0 71 = 3 → 2 ≤ I' 0 73 - I' 0 72 ∧ I' 0 73 - I' 0 72 ≤ 14) ∧ (I' 0 72 ≤ I' 0 73) ∧ (I' 0 69 = I 0 69) ∧ (I 0 73 ≤ I' 0 73) ∧ (I 0 72 ≤ I' 0 72) ∧ (z = 0 ∨ a1 = 1) ∧ (z = 0 ∨ (I 0 73 ≤ I' 0 72 ∧ I 0 71 = 4)) ∧ (gs_Or z (0 ≤ (gs_done β N9 a1 (I 0 78) p9) ∧ gr_ATp β N9 (gs_done β N9 a1 (I 0 78) p9) I' J') ((gs_done β N9 a1 (I 0 78) p9) < 0 ∧ I' 0 77 = -1 - (gs_done β N9 a1 (I 0 78) p9)))))) htb rfl (Nat.le_of_ble_eq_true rfl) ?_
  have tAT := gr_ATp_l x5
  have f1 := (show 0 ≤ I 0 71 ∧ I 0 71 ≤ 5 from (hI 0 71).1)
  have f2 := (show 0 ≤ I 0 72 ∧ I 0 72 ≤ 1000 from (hI 0 72).1)
  have f3 := (show 0 ≤ I 0 73 ∧ I 0 73 ≤ 1001 from (hI 0 73).1)
  have f4 := (show 0 ≤ I 0 69 ∧ I 0 69 ≤ 1000 from (hI 0 69).1)
  refine gv_run 2 true hD (pc' := 3) (lv' := [(0, .inr (.inr (some 0))), (1, .inl a1)]) (st' := [.inl 59, .inr (.inr (some 0))]) (h' := gr_h I J) (C := ((True ∧ True) ∧ True)) rfl ⟨⟨trivial, trivial⟩, trivial⟩ ?_
  obtain ⟨r5, h5, E5, P5⟩ := r_sign_p (ws0 := ws0) (tb := tb) hws htb ext β N9 p9 I J hI 59 ⟨by omega, by omega⟩ (by omega) x5 (by omega)
  obtain ⟨rfl, ⟨z5, rfl, q5⟩⟩ := P5
  refine gv_callV hD rfl (As := [.inl 59]) (st := []) rfl (by decide) rfl rfl (gr_lV hws rfl) (Nat.le_of_ble_eq_true rfl) (gz_Ev_mono (d := 1) (by decide) E5) ?_
  show gv_X _ _ (6, [(0, .inr (.inr (some 0))), (1, .inl a1)], [.inl z5], gr_sh ++ ext, gr_h I J)
  refine gv_if_ne (t := 15) hD rfl rfl ⟨by omega, by omega⟩ (fun c6 => ?_) (fun c6 => ?_)
  · refine gv_run 1 true hD (pc' := 16) (lv' := [(0, .inr (.inr (some 0))), (1, .inl a1)]) (st' := [.inl a1]) (h' := gr_h I J) (C := (True ∧ True)) rfl ⟨trivial, trivial⟩ ?_
    refine gv_if_ne (t := 29) hD rfl rfl ⟨by omega, by omega⟩ (fun c7 => ?_) (fun c7 => ?_)
    · refine gv_run 1 true hD (pc' := 30) (lv' := [(0, .inr (.inr (some 0))), (1, .inl a1)]) (st' := [.inr (.inr (some 0))]) (h' := gr_h I J) (C := (True ∧ True)) rfl ⟨trivial, trivial⟩ ?_
      obtain ⟨r8, h8, E8, P8⟩ := r_next_p (ws0 := ws0) (tb := tb) hws htb ext β N9 I J hI   (by omega) x5.1.1 x5.1.2
      obtain ⟨I9, J10, rfl, hI9, g8, k8, ⟨rfl, q8⟩⟩ := P8
      have FI9 := gr_frt FI g8 rfl rfl
      have FJ10 := gr_fjt FJ k8 rfl rfl
      have t11 := g8 0 69 rfl
      have f12 := (show 0 ≤ I9 0 71 ∧ I9 0 71 ≤ 5 from (hI9 0 71).1)
      have f13 := (show 0 ≤ I9 0 72 ∧ I9 0 72 ≤ 1000 from (hI9 0 72).1)
      have f14 := (show 0 ≤ I9 0 73 ∧ I9 0 73 ≤ 1001 from (hI9 0 73).1)
      have f15 := (show 0 ≤ I9 0 69 ∧ I9 0 69 ≤ 1000 from (hI9 0 69).1)
      have A16 := gr_ATp_nx x5 q8.2.2.2.2.2
      have t17 := gr_ATp_l A16
      refine gv_callV hD rfl (As := []) (st := []) rfl (by decide) rfl rfl (gr_lV hws rfl) (Nat.le_of_ble_eq_true rfl) (gz_Ev_mono (d := 10) (by decide) E8) ?_
      show gv_X _ _ (33, [(0, .inr (.inr (some 0))), (1, .inl a1)], [], gr_sh ++ ext, gr_h I9 J10)
      refine gv_run 1 true hD (pc' := 34) (lv' := [(0, .inr (.inr (some 0))), (1, .inl a1)]) (st' := [.inl 1]) (h' := gr_h I9 J10) (C := (True ∧ True)) rfl ⟨trivial, trivial⟩ ?_
      exact gv_zret hD rfl (by omega) ⟨I9, J10, rfl, hI9, FI9, FJ10, ⟨_, rfl, by omega, by omega, by omega, by omega, by omega, by omega, by omega, by omega, by omega, by omega, by omega, by omega, (Or.inl ⟨by omega, by have e9 : (gs_done β N9 a1 (I 0 78) p9) = (gs_X β N9 p9) := (by unfold gs_done; (repeat first | rw [if_pos (by omega)] | rw [if_neg (by omega)])); rw [e9]; exact ⟨by omega, A16⟩⟩)⟩⟩
    · have f18 := (show 0 ≤ I 0 78 ∧ I 0 78 ≤ 1000 from (hI 0 78).1)
      refine gv_run 4 true hD (pc' := 25) (lv' := [(0, .inr (.inr (some 0))), (1, .inl a1)]) (st' := [.inl (I 0 78), .inl 2, .inr (.inr (some 0))]) (h' := gr_h I J) (C := ((((True ∧ True) ∧ True) ∧ True) ∧ True)) rfl ⟨⟨⟨⟨trivial, trivial⟩, trivial⟩, trivial⟩, trivial⟩ ?_
      obtain ⟨r19, h19, E19, P19⟩ := r_no_p (ws0 := ws0) (tb := tb) hws htb ext I J hI 2 (I 0 78) ⟨by omega, by omega⟩ ⟨by omega, by omega⟩ 
      obtain ⟨I20, J21, rfl, hI20, g19, k19, ⟨z19, rfl, q19⟩⟩ := P19
      have FI20 := gr_frt FI g19 rfl rfl
      have FJ21 := gr_fjt FJ k19 rfl rfl
      have t22 := g19 0 71 rfl
      have t23 := g19 0 72 rfl
      have t24 := g19 0 73 rfl
      have t25 := g19 0 69 rfl
      have f26 := (show 0 ≤ I20 0 71 ∧ I20 0 71 ≤ 5 from (hI20 0 71).1)
      have f27 := (show 0 ≤ I20 0 72 ∧ I20 0 72 ≤ 1000 from (hI20 0 72).1)
      have f28 := (show 0 ≤ I20 0 73 ∧ I20 0 73 ≤ 1001 from (hI20 0 73).1)
      have f29 := (show 0 ≤ I20 0 69 ∧ I20 0 69 ≤ 1000 from (hI20 0 69).1)
      have A30 := gr_ATp_F x5 g19 k19 rfl
      have t31 := gr_ATp_l A30
      refine gv_callV hD rfl (As := [.inl 2, .inl (I 0 78)]) (st := []) rfl (by decide) rfl rfl (gr_lV hws rfl) (Nat.le_of_ble_eq_true rfl) (gz_Ev_mono (d := 1) (by decide) E19) ?_
      show gv_X _ _ (28, [(0, .inr (.inr (some 0))), (1, .inl a1)], [.inl z19], gr_sh ++ ext, gr_h I20 J21)
      exact gv_zret hD rfl (by omega) ⟨I20, J21, rfl, hI20, FI20, FJ21, ⟨_, rfl, by omega, by omega, by omega, by omega, by omega, by omega, by omega, by omega, by omega, by omega, by omega, by omega, (Or.inr ⟨by omega, by unfold gs_done; (repeat first | rw [if_pos (by omega)] | rw [if_neg (by omega)]); exact ⟨by omega, by omega⟩⟩)⟩⟩
  · refine gv_run 2 true hD (pc' := 11) (lv' := [(0, .inr (.inr (some 0))), (1, .inl a1)]) (st' := [.inl 1, .inr (.inr (some 0))]) (h' := gr_h I J) (C := ((True ∧ True) ∧ True)) rfl ⟨⟨trivial, trivial⟩, trivial⟩ ?_
    obtain ⟨r32, h32, E32, P32⟩ := r_no__p (ws0 := ws0) (tb := tb) hws htb ext β N9 p9 I J hI 1 ⟨by omega, by omega⟩ x5 (by omega)
    obtain ⟨I33, J34, rfl, hI33, g32, k32, ⟨z32, rfl, q32⟩⟩ := P32
    have FI33 := gr_frt FI g32 rfl rfl
    have FJ34 := gr_fjt FJ k32 rfl rfl
    have t35 := g32 0 71 rfl
    have t36 := g32 0 72 rfl
    have t37 := g32 0 73 rfl
    have t38 := g32 0 69 rfl
    have f39 := (show 0 ≤ I33 0 71 ∧ I33 0 71 ≤ 5 from (hI33 0 71).1)
    have f40 := (show 0 ≤ I33 0 72 ∧ I33 0 72 ≤ 1000 from (hI33 0 72).1)
    have f41 := (show 0 ≤ I33 0 73 ∧ I33 0 73 ≤ 1001 from (hI33 0 73).1)
    have f42 := (show 0 ≤ I33 0 69 ∧ I33 0 69 ≤ 1000 from (hI33 0 69).1)
    have A43 := gr_ATp_F x5 g32 k32 rfl
    have t44 := gr_ATp_l A43
    refine gv_callV hD rfl (As := [.inl 1]) (st := []) rfl (by decide) rfl rfl (gr_lV hws rfl) (Nat.le_of_ble_eq_true rfl) (gz_Ev_mono (d := 2) (by decide) E32) ?_
    show gv_X _ _ (14, [(0, .inr (.inr (some 0))), (1, .inl a1)], [.inl z32], gr_sh ++ ext, gr_h I33 J34)
    exact gv_zret hD rfl (by omega) ⟨I33, J34, rfl, hI33, FI33, FJ34, ⟨_, rfl, by omega, by omega, by omega, by omega, by omega, by omega, by omega, by omega, by omega, by omega, by omega, by omega, (Or.inr ⟨by omega, by unfold gs_done; (repeat first | rw [if_pos (by omega)] | rw [if_neg (by omega)]); exact ⟨by omega, by omega⟩⟩)⟩⟩
set_option maxHeartbeats 4000000 in
set_option maxRecDepth 100000 in
theorem r_cost_p {ws0 : List Cond} {tb : String → gz_T} (hws : ∀ w ∈ gr_ws, w ∈ ws0) (htb : tb RX13 = gr_T) (ext : gz_Sh) (β : Int → Int) (N9 : Int) (p9 : Int) (I : gr_I) (J : gr_J) (hI : gr_Inv I)   (x0 : I 0 71 = 5 ∨ I 0 73 ≤ I 0 69) (x1 : I 0 72 ≤ I 0 69) (x2 : I 0 71 = 0 ∨ (I 0 72 < I 0 73 ∧ I 0 72 < I 0 69)) (x3 : I 0 71 = 3 → 2 ≤ I 0 73 - I 0 72 ∧ I 0 73 - I 0 72 ≤ 14) (x4 : I 0 72 ≤ I 0 73) (x5 : gr_ATp β N9 p9 I J) (x6 : 0 ≤ p9) (x7 : gr_KW J) : ∃ r h', gz_Ev ws0 tb 11 (yX13_cost, cX13_cost, 1, (some .boolean)) [.inr (.inr (some 0))] (gr_sh ++ ext) (gr_h I J) r (gr_sh ++ ext) h' 0 0 ∧ (∃ (I' : gr_I) (J' : gr_J), h' = gr_h I' J' ∧ gr_Inv I' ∧ gr_fr [71, 72, 73, 74, 75, 76, 77, 101] [] I I' ∧ gr_fj [71, 72, 73, 74, 75, 76, 77, 101] [] J J' ∧ (∃ z : Int, r = some (.inl z) ∧ 0 ≤ z ∧ z ≤ 1 ∧ (I' 0 71 = 5 ∨ I' 0 73 ≤ I' 0 69) ∧ (I' 0 72 ≤ I' 0 69) ∧ (I' 0 71 = 0 ∨ (I' 0 72 < I' 0 73 ∧ I' 0 72 < I' 0 69)) ∧ (I' 0 71 = 3 → 2 ≤ I' 0 73 - I' 0 72 ∧ I' 0 73 - I' 0 72 ≤ 14) ∧ (I' 0 72 ≤ I' 0 73) ∧ (I' 0 69 = I 0 69) ∧ (I 0 73 ≤ I' 0 73) ∧ (I 0 72 ≤ I' 0 72) ∧ (gs_Or z (0 ≤ (gs_cost β N9 p9) ∧ gr_ATp β N9 (gs_cost β N9 p9) I' J') ((gs_cost β N9 p9) < 0 ∧ I' 0 77 = -1 - (gs_cost β N9 p9))))) := by
  have FI : gr_fr [71, 72, 73, 74, 75, 76, 77, 101] [] I I := fun _ _ _ => rfl
  have FJ : gr_fj [71, 72, 73, 74, 75, 76, 77, 101] [] J J := fun _ _ _ => rfl
  have hD : gv_D (gr_E ws0 tb 10 (yX13_cost, cX13_cost, 1, (some .boolean)) kX13_cost) := gq_ok oX13_cost
  refine gr_ev (d := 10) (l := kX13_cost) (Po := fun r h' => (∃ (I' : gr_I) (J' : gr_J), h' = gr_h I' J' ∧ gr_Inv I' ∧ gr_fr [71, 72, 73, 74, 75, 76, 77, 101] [] I I' ∧ gr_fj [71, 72, 73, 74, 75, 76, 77, 101] [] J J' ∧ (∃ z : Int, r = some (.inl z) ∧ 0 ≤ z ∧ z ≤ 1 ∧ (I' 0 71 = 5 ∨ I' 0 73 ≤ I' 0 69) ∧ (I' 0 72 ≤ I' 0 69) ∧ (I' 0 71 = 0 ∨ (I' 0 72 < I' 0 73 ∧ I' 0 72 < I' 0 69)) ∧ (I' 0 71 = 3 → 2 ≤ I' 0 73 - I' 0 72 ∧ I' 0 73 - I' 0 72 ≤ 14) ∧ (I' 0 72 ≤ I' 0 73) ∧ (I' 0 69 = I 0 69) ∧ (I 0 73 ≤ I' 0 73) ∧ (I 0 72 ≤ I' 0 72) ∧ (gs_Or z (0 ≤ (gs_cost β N9 p9) ∧ gr_ATp β N9 (gs_cost β N9 p9) I' J') ((gs_cost β N9 p9) < 0 ∧ I' 0 77 = -1 - (gs_cost β N9 p9)))))) htb rfl (Nat.le_of_ble_eq_true rfl) ?_
  have tAT := gr_ATp_l x5
  have KW := x7
  have f1 := (show 0 ≤ I 0 71 ∧ I 0 71 ≤ 5 from (hI 0 71).1)
  have f2 := (show 0 ≤ I 0 72 ∧ I 0 72 ≤ 1000 from (hI 0 72).1)
  have f3 := (show 0 ≤ I 0 73 ∧ I 0 73 ≤ 1001 from (hI 0 73).1)
  have f4 := (show 0 ≤ I 0 69 ∧ I 0 69 ≤ 1000 from (hI 0 69).1)
  refine gv_run 3 true hD (pc' := 5) (lv' := [(0, .inr (.inr (some 0)))]) (st' := []) (h' := gz_up (gr_h I J) 0 101 (.inl 0)) (C := (((True ∧ True) ∧ True) ∧ True)) rfl ⟨⟨⟨trivial, trivial⟩, trivial⟩, trivial⟩ ?_
  refine gr_st hI FI rfl rfl ⟨⟨by show 0 ≤ _; omega, by show _ ≤ 10000; omega⟩, trivial⟩ (fun I5 hI5 FI5 q6 p6 => ?_)
  have t7 := p6 0 71 (by decide)
  have t8 := p6 0 72 (by decide)
  have t9 := p6 0 73 (by decide)
  have t10 := p6 0 69 (by decide)
  have f11 := (show 0 ≤ I5 0 71 ∧ I5 0 71 ≤ 5 from (hI5 0 71).1)
  have f12 := (show 0 ≤ I5 0 72 ∧ I5 0 72 ≤ 1000 from (hI5 0 72).1)
  have f13 := (show 0 ≤ I5 0 73 ∧ I5 0 73 ≤ 1001 from (hI5 0 73).1)
  have f14 := (show 0 ≤ I5 0 69 ∧ I5 0 69 ≤ 1000 from (hI5 0 69).1)
  have A15 := gr_ATp_sf x5 p6 rfl
  refine gv_run 3 true hD (pc' := 10) (lv' := [(0, .inr (.inr (some 0)))]) (st' := [.inr (.inl (J 0 92)), .inr (.inr (some 0))]) (h' := gr_h I5 J) (C := (((True ∧ True) ∧ True) ∧ True)) rfl ⟨⟨⟨trivial, trivial⟩, trivial⟩, trivial⟩ ?_
  obtain ⟨r16, h16, E16, P16⟩ := r_is_p (ws0 := ws0) (tb := tb) hws htb ext β N9 p9 I5 J hI5 (J 0 92)  A15 (by omega)
  obtain ⟨rfl, ⟨z16, rfl, q16⟩⟩ := P16
  have t17 := (show gs_kw β N9 p9 (J 0 92) = gs_kw β N9 p9 (gs_W 92) from by rw [show J 0 92 = gs_W 92 from KW 92 (by decide) (by decide)])
  refine gv_callV hD rfl (As := [.inr (.inl (J 0 92))]) (st := []) rfl (by decide) rfl rfl (gr_lV hws rfl) (Nat.le_of_ble_eq_true rfl) (gz_Ev_mono (d := 1) (by decide) E16) ?_
  show gv_X _ _ (13, [(0, .inr (.inr (some 0)))], [.inl z16], gr_sh ++ ext, gr_h I5 J)
  refine gv_if_ne (t := 18) hD rfl rfl ⟨by omega, by omega⟩ (fun c18 => ?_) (fun c18 => ?_)
  · refine gv_run 1 true hD (pc' := 19) (lv' := [(0, .inr (.inr (some 0)))]) (st' := [.inr (.inr (some 0))]) (h' := gr_h I5 J) (C := (True ∧ True)) rfl ⟨trivial, trivial⟩ ?_
    obtain ⟨r19, h19, E19, P19⟩ := r_next_p (ws0 := ws0) (tb := tb) hws htb ext β N9 I5 J hI5   (by omega) A15.1.1 A15.1.2
    obtain ⟨I20, J21, rfl, hI20, g19, k19, ⟨rfl, q19⟩⟩ := P19
    have FI20 := gr_frt FI5 g19 rfl rfl
    have FJ21 := gr_fjt FJ k19 rfl rfl
    have t22 := g19 0 69 rfl
    have f23 := (show 0 ≤ I20 0 71 ∧ I20 0 71 ≤ 5 from (hI20 0 71).1)
    have f24 := (show 0 ≤ I20 0 72 ∧ I20 0 72 ≤ 1000 from (hI20 0 72).1)
    have f25 := (show 0 ≤ I20 0 73 ∧ I20 0 73 ≤ 1001 from (hI20 0 73).1)
    have f26 := (show 0 ≤ I20 0 69 ∧ I20 0 69 ≤ 1000 from (hI20 0 69).1)
    have A27 := gr_ATp_nx A15 q19.2.2.2.2.2
    have t28 := gr_ATp_l A27
    refine gv_callV hD rfl (As := []) (st := []) rfl (by decide) rfl rfl (gr_lV hws rfl) (Nat.le_of_ble_eq_true rfl) (gz_Ev_mono (d := 10) (by decide) E19) ?_
    show gv_X _ _ (22, [(0, .inr (.inr (some 0)))], [], gr_sh ++ ext, gr_h I20 J21)
    have f29 := (show 0 ≤ I20 0 71 ∧ I20 0 71 ≤ 5 from (hI20 0 71).1)
    refine gv_run 3 true hD (pc' := 27) (lv' := [(0, .inr (.inr (some 0)))]) (st' := [.inl 2, .inl (I20 0 71)]) (h' := gr_h I20 J21) (C := (((True ∧ True) ∧ True) ∧ True)) rfl ⟨⟨⟨trivial, trivial⟩, trivial⟩, trivial⟩ ?_
    refine gv_icmp_eq (t := 36) hD rfl rfl ⟨⟨by omega, by omega⟩, ⟨by omega, by omega⟩⟩ (fun c30 => ?_) (fun c30 => ?_)
    · have t31 := gr_ATp_k A27 (c := 2) ⟨by omega, by omega⟩
      have t32 := (fun h : gs_T β N9 (gs_X β N9 p9) = 2 => gr_ATp_n A27 h)
      have f33 := (show 0 ≤ I20 0 74 ∧ I20 0 74 ≤ 999999 from (hI20 0 74).1)
      refine gv_run 3 true hD (pc' := 43) (lv' := [(0, .inr (.inr (some 0)))]) (st' := [.inl 10000, .inl (I20 0 74)]) (h' := gr_h I20 J21) (C := (((True ∧ True) ∧ True) ∧ True)) rfl ⟨⟨⟨trivial, trivial⟩, trivial⟩, trivial⟩ ?_
      refine gv_icmp_le (t := 52) hD rfl rfl ⟨⟨by omega, by omega⟩, ⟨by omega, by omega⟩⟩ (fun c34 => ?_) (fun c34 => ?_)
      · have f35 := (show 0 ≤ I20 0 74 ∧ I20 0 74 ≤ 999999 from (hI20 0 74).1)
        refine gv_run 3 true hD (pc' := 57) (lv' := [(0, .inr (.inr (some 0)))]) (st' := [.inl (I20 0 74), .inr (.inr (some 0))]) (h' := gr_h I20 J21) (C := (((True ∧ True) ∧ True) ∧ True)) rfl ⟨⟨⟨trivial, trivial⟩, trivial⟩, trivial⟩ ?_
        refine gv_run 1 true hD (pc' := 60) (lv' := [(0, .inr (.inr (some 0)))]) (st' := []) (h' := gz_up (gr_h I20 J21) 0 101 (.inl (I20 0 74))) (C := (True ∧ True)) rfl ⟨trivial, trivial⟩ ?_
        refine gr_st hI20 FI20 rfl rfl ⟨⟨by show 0 ≤ _; omega, by show _ ≤ 10000; omega⟩, trivial⟩ (fun I36 hI36 FI36 q37 p37 => ?_)
        have t38 := p37 0 71 (by decide)
        have t39 := p37 0 72 (by decide)
        have t40 := p37 0 73 (by decide)
        have t41 := p37 0 69 (by decide)
        have f42 := (show 0 ≤ I36 0 71 ∧ I36 0 71 ≤ 5 from (hI36 0 71).1)
        have f43 := (show 0 ≤ I36 0 72 ∧ I36 0 72 ≤ 1000 from (hI36 0 72).1)
        have f44 := (show 0 ≤ I36 0 73 ∧ I36 0 73 ≤ 1001 from (hI36 0 73).1)
        have f45 := (show 0 ≤ I36 0 69 ∧ I36 0 69 ≤ 1000 from (hI36 0 69).1)
        have A46 := gr_ATp_sf A27 p37 rfl
        refine gv_run 1 true hD (pc' := 61) (lv' := [(0, .inr (.inr (some 0)))]) (st' := [.inr (.inr (some 0))]) (h' := gr_h I36 J21) (C := (True ∧ True)) rfl ⟨trivial, trivial⟩ ?_
        obtain ⟨r47, h47, E47, P47⟩ := r_next_p (ws0 := ws0) (tb := tb) hws htb ext β N9 I36 J21 hI36   (by omega) A46.1.1 A46.1.2
        obtain ⟨I48, J49, rfl, hI48, g47, k47, ⟨rfl, q47⟩⟩ := P47
        have FI48 := gr_frt FI36 g47 rfl rfl
        have FJ49 := gr_fjt FJ21 k47 rfl rfl
        have t50 := g47 0 69 rfl
        have f51 := (show 0 ≤ I48 0 71 ∧ I48 0 71 ≤ 5 from (hI48 0 71).1)
        have f52 := (show 0 ≤ I48 0 72 ∧ I48 0 72 ≤ 1000 from (hI48 0 72).1)
        have f53 := (show 0 ≤ I48 0 73 ∧ I48 0 73 ≤ 1001 from (hI48 0 73).1)
        have f54 := (show 0 ≤ I48 0 69 ∧ I48 0 69 ≤ 1000 from (hI48 0 69).1)
        have A55 := gr_ATp_nx A46 q47.2.2.2.2.2
        have t56 := gr_ATp_l A55
        refine gv_callV hD rfl (As := []) (st := []) rfl (by decide) rfl rfl (gr_lV hws rfl) (Nat.le_of_ble_eq_true rfl) (gz_Ev_mono (d := 10) (by decide) E47) ?_
        show gv_X _ _ (64, [(0, .inr (.inr (some 0)))], [], gr_sh ++ ext, gr_h I48 J49)
        refine gv_run 1 true hD (pc' := 65) (lv' := [(0, .inr (.inr (some 0)))]) (st' := [.inl 1]) (h' := gr_h I48 J49) (C := (True ∧ True)) rfl ⟨trivial, trivial⟩ ?_
        exact gv_zret hD rfl (by omega) ⟨I48, J49, rfl, hI48, FI48, FJ49, ⟨_, rfl, by omega, by omega, by omega, by omega, by omega, by omega, by omega, by omega, by omega, by omega, (Or.inl ⟨by omega, by have e9 : (gs_cost β N9 p9) = (gs_X β N9 (gs_X β N9 p9)) := (by unfold gs_cost; (repeat first | rw [if_pos (by omega)] | rw [if_neg (by omega)])); rw [e9]; exact ⟨by omega, A55⟩⟩)⟩⟩
      · refine gv_run 2 true hD (pc' := 48) (lv' := [(0, .inr (.inr (some 0)))]) (st' := [.inl 5, .inr (.inr (some 0))]) (h' := gr_h I20 J21) (C := ((True ∧ True) ∧ True)) rfl ⟨⟨trivial, trivial⟩, trivial⟩ ?_
        obtain ⟨r57, h57, E57, P57⟩ := r_no__p (ws0 := ws0) (tb := tb) hws htb ext β N9 (gs_X β N9 p9) I20 J21 hI20 5 ⟨by omega, by omega⟩ A27 (by omega)
        obtain ⟨I58, J59, rfl, hI58, g57, k57, ⟨z57, rfl, q57⟩⟩ := P57
        have FI58 := gr_frt FI20 g57 rfl rfl
        have FJ59 := gr_fjt FJ21 k57 rfl rfl
        have t60 := g57 0 71 rfl
        have t61 := g57 0 72 rfl
        have t62 := g57 0 73 rfl
        have t63 := g57 0 69 rfl
        have f64 := (show 0 ≤ I58 0 71 ∧ I58 0 71 ≤ 5 from (hI58 0 71).1)
        have f65 := (show 0 ≤ I58 0 72 ∧ I58 0 72 ≤ 1000 from (hI58 0 72).1)
        have f66 := (show 0 ≤ I58 0 73 ∧ I58 0 73 ≤ 1001 from (hI58 0 73).1)
        have f67 := (show 0 ≤ I58 0 69 ∧ I58 0 69 ≤ 1000 from (hI58 0 69).1)
        have A68 := gr_ATp_F A27 g57 k57 rfl
        have t69 := gr_ATp_l A68
        refine gv_callV hD rfl (As := [.inl 5]) (st := []) rfl (by decide) rfl rfl (gr_lV hws rfl) (Nat.le_of_ble_eq_true rfl) (gz_Ev_mono (d := 2) (by decide) E57) ?_
        show gv_X _ _ (51, [(0, .inr (.inr (some 0)))], [.inl z57], gr_sh ++ ext, gr_h I58 J59)
        exact gv_zret hD rfl (by omega) ⟨I58, J59, rfl, hI58, FI58, FJ59, ⟨_, rfl, by omega, by omega, by omega, by omega, by omega, by omega, by omega, by omega, by omega, by omega, (Or.inr ⟨by omega, by unfold gs_cost; (repeat first | rw [if_pos (by omega)] | rw [if_neg (by omega)]); exact ⟨by omega, by omega⟩⟩)⟩⟩
    · have t70 := gr_ATp_k A27 (c := 2) ⟨by omega, by omega⟩
      refine gv_run 2 true hD (pc' := 32) (lv' := [(0, .inr (.inr (some 0)))]) (st' := [.inl 1, .inr (.inr (some 0))]) (h' := gr_h I20 J21) (C := ((True ∧ True) ∧ True)) rfl ⟨⟨trivial, trivial⟩, trivial⟩ ?_
      obtain ⟨r71, h71, E71, P71⟩ := r_no__p (ws0 := ws0) (tb := tb) hws htb ext β N9 (gs_X β N9 p9) I20 J21 hI20 1 ⟨by omega, by omega⟩ A27 (by omega)
      obtain ⟨I72, J73, rfl, hI72, g71, k71, ⟨z71, rfl, q71⟩⟩ := P71
      have FI72 := gr_frt FI20 g71 rfl rfl
      have FJ73 := gr_fjt FJ21 k71 rfl rfl
      have t74 := g71 0 71 rfl
      have t75 := g71 0 72 rfl
      have t76 := g71 0 73 rfl
      have t77 := g71 0 69 rfl
      have f78 := (show 0 ≤ I72 0 71 ∧ I72 0 71 ≤ 5 from (hI72 0 71).1)
      have f79 := (show 0 ≤ I72 0 72 ∧ I72 0 72 ≤ 1000 from (hI72 0 72).1)
      have f80 := (show 0 ≤ I72 0 73 ∧ I72 0 73 ≤ 1001 from (hI72 0 73).1)
      have f81 := (show 0 ≤ I72 0 69 ∧ I72 0 69 ≤ 1000 from (hI72 0 69).1)
      have A82 := gr_ATp_F A27 g71 k71 rfl
      have t83 := gr_ATp_l A82
      refine gv_callV hD rfl (As := [.inl 1]) (st := []) rfl (by decide) rfl rfl (gr_lV hws rfl) (Nat.le_of_ble_eq_true rfl) (gz_Ev_mono (d := 2) (by decide) E71) ?_
      show gv_X _ _ (35, [(0, .inr (.inr (some 0)))], [.inl z71], gr_sh ++ ext, gr_h I72 J73)
      exact gv_zret hD rfl (by omega) ⟨I72, J73, rfl, hI72, FI72, FJ73, ⟨_, rfl, by omega, by omega, by omega, by omega, by omega, by omega, by omega, by omega, by omega, by omega, (Or.inr ⟨by omega, by unfold gs_cost; (repeat first | rw [if_pos (by omega)] | rw [if_neg (by omega)]); exact ⟨by omega, by omega⟩⟩)⟩⟩
  · refine gv_run 1 true hD (pc' := 17) (lv' := [(0, .inr (.inr (some 0)))]) (st' := [.inl 1]) (h' := gr_h I5 J) (C := (True ∧ True)) rfl ⟨trivial, trivial⟩ ?_
    exact gv_zret hD rfl (by omega) ⟨I5, J, rfl, hI5, FI5, FJ, ⟨_, rfl, by omega, by omega, by omega, by omega, by omega, by omega, by omega, by omega, by omega, by omega, (Or.inl ⟨by omega, by have e9 : (gs_cost β N9 p9) = p9 := (by unfold gs_cost; (repeat first | rw [if_pos (by omega)] | rw [if_neg (by omega)])); rw [e9]; exact ⟨by omega, A15⟩⟩)⟩⟩
