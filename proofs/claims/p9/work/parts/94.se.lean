set_option maxHeartbeats 8000000 in
set_option maxRecDepth 100000 in
theorem r_sign_p {ws0 : List Cond} {tb : String → gz_T} (hws : ∀ w ∈ gr_ws, w ∈ ws0) (htb : tb RX13 = gr_T) (ext : gz_Sh) (β : Int → Int) (N9 : Int) (p9 : Int) (I : gr_I) (J : gr_J) (hI : gr_Inv I) (a1 : Int) (ha1 : 6 ≤ a1 ∧ a1 ≤ 127) (x0 : I 0 71 = 4 → I 0 72 ≤ 999) (x1 : gr_ATp β N9 p9 I J) (x2 : 0 ≤ p9) : ∃ r hₚ, gz_Ev ws0 tb 1 (yX13_sign, cX13_sign, 2, (some .boolean)) [.inr (.inr (some 0)), .inl a1] (gr_sh ++ ext) (gr_h I J) r (gr_sh ++ ext) hₚ 0 0 ∧ (hₚ = gr_h I J ∧ (∃ z : Int, r = some (.inl z) ∧ 0 ≤ z ∧ z ≤ 1 ∧ (z = 0 ∨ I 0 71 = 4) ∧ ((z = 1 ∧ gs_T β N9 p9 = a1) ∨ (z = 0 ∧ ¬ gs_T β N9 p9 = a1)))) := by
  have hD : gv_D (gr_E ws0 tb 0 (yX13_sign, cX13_sign, 2, (some .boolean)) kX13_sign) := gq_of oX13_sign
  refine gr_ev (d := 0) (l := kX13_sign) (Po := fun r hₚ => (hₚ = gr_h I J ∧ (∃ z : Int, r = some (.inl z) ∧ 0 ≤ z ∧ z ≤ 1 ∧ (z = 0 ∨ I 0 71 = 4) ∧ ((z = 1 ∧ gs_T β N9 p9 = a1) ∨ (z = 0 ∧ ¬ gs_T β N9 p9 = a1))))) htb rfl (Nat.le_of_ble_eq_true rfl) ?_
  have tAT := gr_ATp_l x1
  have tS := gr_ATp_s x1 (gr_b_0_72 hI).1 (c := a1) (by (/-0-/first | omega | (simp only [gz_hd] at *; omega)))
  have f1 := gz_hi ((gr_b_0_71 hI))
  have f2 := gz_hi ((gr_b_0_72 hI))
  refine gv_run 3 true hD (pcₚ := 5) (lvₚ := [(0, .inr (.inr (some 0))), (1, .inl a1)]) (stₚ := [.inl 4, .inl (I 0 71)]) (hₚ := gr_h I J) (C := (((True ∧ True) ∧ True) ∧ True)) rfl ⟨⟨⟨trivial, trivial⟩, trivial⟩, trivial⟩ ?_
  refine gv_icmp_ne (t := 25) hD rfl rfl ⟨⟨by (/-1-/first | (have o1 := gz_sh f1; omega) | (simp only [gz_hd] at *; omega)), by (/-2-/first | (have o1 := gz_sh f1; omega) | (simp only [gz_hd] at *; omega))⟩, ⟨by (/-3-/first | omega | (simp only [gz_hd] at *; omega)), by (/-4-/first | omega | (simp only [gz_hd] at *; omega))⟩⟩ (fun c4 => ?_) (fun c4 => ?_)
  · refine gv_run 1 true hD (pcₚ := 26) (lvₚ := [(0, .inr (.inr (some 0))), (1, .inl a1)]) (stₚ := [.inl 0]) (hₚ := gr_h I J) (C := (True ∧ True)) rfl ⟨trivial, trivial⟩ ?_
    exact gv_zret hD rfl (by (/-5-/first | omega | (simp only [gz_hd] at *; omega))) ⟨rfl, ⟨_, rfl, by (/-6-/first | (and_intros; (omega); (omega); (omega); (have o1 := gz_sh f1; omega)) | (simp only [gz_hd] at *; omega))⟩⟩
  · have f5 := gz_hi ((gr_b_0_72 hI))
    have f6 := gz_hi ((gr_b_57 hI (Int.toNat ((I 0 72)))))
    refine gv_run 5 true hD (pcₚ := 17) (lvₚ := [(0, .inr (.inr (some 0))), (1, .inl a1)]) (stₚ := [.inl (I 57 (Int.toNat ((I 0 72))))]) (hₚ := gr_h I J) (C := (((((True ∧ True) ∧ True) ∧ True) ∧ True) ∧ (0 ≤ (I 0 72) ∧ (I 0 72) < ((1000 : Nat) : Int)))) rfl ⟨⟨⟨⟨⟨trivial, trivial⟩, trivial⟩, trivial⟩, trivial⟩, ⟨by (/-7-/first | (have o1 := gz_sh f2; omega) | (simp only [gz_hd] at *; omega)), by (/-8-/first | omega | (simp only [gz_hd] at *; omega))⟩⟩ ?_
    refine gv_run 1 true hD (pcₚ := 18) (lvₚ := [(0, .inr (.inr (some 0))), (1, .inl a1)]) (stₚ := [.inl a1, .inl (I 57 (Int.toNat ((I 0 72))))]) (hₚ := gr_h I J) (C := (True ∧ True)) rfl ⟨trivial, trivial⟩ ?_
    refine gv_icmp_ne (t := 25) hD rfl rfl ⟨⟨by (/-9-/first | (have o1 := gz_sh f6; omega) | (simp only [gz_hd] at *; omega)), by (/-10-/first | (have o1 := gz_sh f6; omega) | (simp only [gz_hd] at *; omega))⟩, ⟨by (/-11-/first | omega | (simp only [gz_hd] at *; omega)), by (/-12-/first | omega | (simp only [gz_hd] at *; omega))⟩⟩ (fun c7 => ?_) (fun c7 => ?_)
    · refine gv_run 1 true hD (pcₚ := 26) (lvₚ := [(0, .inr (.inr (some 0))), (1, .inl a1)]) (stₚ := [.inl 0]) (hₚ := gr_h I J) (C := (True ∧ True)) rfl ⟨trivial, trivial⟩ ?_
      exact gv_zret hD rfl (by (/-13-/first | omega | (simp only [gz_hd] at *; omega))) ⟨rfl, ⟨_, rfl, by (/-14-/first | (and_intros <;> omega) | (simp only [gz_hd] at *; omega))⟩⟩
    · refine gv_run 2 true hD (pcₚ := 26) (lvₚ := [(0, .inr (.inr (some 0))), (1, .inl a1)]) (stₚ := [.inl 1]) (hₚ := gr_h I J) (C := ((True ∧ True) ∧ True)) rfl ⟨⟨trivial, trivial⟩, trivial⟩ ?_
      exact gv_zret hD rfl (by (/-15-/first | omega | (simp only [gz_hd] at *; omega))) ⟨rfl, ⟨_, rfl, by (/-16-/first | (and_intros <;> omega) | (simp only [gz_hd] at *; omega))⟩⟩
set_option maxHeartbeats 8000000 in
set_option maxRecDepth 100000 in
theorem r_is_p {ws0 : List Cond} {tb : String → gz_T} (hws : ∀ w ∈ gr_ws, w ∈ ws0) (htb : tb RX13 = gr_T) (ext : gz_Sh) (β : Int → Int) (N9 : Int) (p9 : Int) (I : gr_I) (J : gr_J) (hI : gr_Inv I) (a1 : Int64)  (x0 : gr_ATp β N9 p9 I J) (x1 : 0 ≤ p9) : ∃ r hₚ, gz_Ev ws0 tb 1 (yX13_is, cX13_is, 3, (some .boolean)) [.inr (.inr (some 0)), .inr (.inl a1)] (gr_sh ++ ext) (gr_h I J) r (gr_sh ++ ext) hₚ 0 0 ∧ (hₚ = gr_h I J ∧ (∃ z : Int, r = some (.inl z) ∧ 0 ≤ z ∧ z ≤ 1 ∧ (z = 0 ∨ I 0 71 = 1) ∧ (z = gs_kw β N9 p9 a1))) := by
  have hD : gv_D (gr_E ws0 tb 0 (yX13_is, cX13_is, 3, (some .boolean)) kX13_is) := gq_of oX13_is
  refine gr_ev (d := 0) (l := kX13_is) (Po := fun r hₚ => (hₚ = gr_h I J ∧ (∃ z : Int, r = some (.inl z) ∧ 0 ≤ z ∧ z ≤ 1 ∧ (z = 0 ∨ I 0 71 = 1) ∧ (z = gs_kw β N9 p9 a1)))) htb rfl (Nat.le_of_ble_eq_true rfl) ?_
  have tAT := gr_ATp_l x0
  have f1 := gz_hi ((gr_b_0_71 hI))
  refine gv_run 3 true hD (pcₚ := 5) (lvₚ := [(0, .inr (.inr (some 0))), (1, .inr (.inl a1))]) (stₚ := [.inl 1, .inl (I 0 71)]) (hₚ := gr_h I J) (C := (((True ∧ True) ∧ True) ∧ True)) rfl ⟨⟨⟨trivial, trivial⟩, trivial⟩, trivial⟩ ?_
  refine gv_icmp_ne (t := 21) hD rfl rfl ⟨⟨by (/-0-/first | (have o1 := gz_sh f1; omega) | (simp only [gz_hd] at *; omega)), by (/-1-/first | (have o1 := gz_sh f1; omega) | (simp only [gz_hd] at *; omega))⟩, ⟨by (/-2-/first | omega | (simp only [gz_hd] at *; omega)), by (/-3-/first | omega | (simp only [gz_hd] at *; omega))⟩⟩ (fun c3 => ?_) (fun c3 => ?_)
  · have t4 := gz_hi (gr_ATp_k x0 (c := 1) ⟨by (/-4-/first | omega | (simp only [gz_hd] at *; omega)), by (/-5-/first | omega | (simp only [gz_hd] at *; omega))⟩)
    refine gv_run 1 true hD (pcₚ := 22) (lvₚ := [(0, .inr (.inr (some 0))), (1, .inr (.inl a1))]) (stₚ := [.inl 0]) (hₚ := gr_h I J) (C := (True ∧ True)) rfl ⟨trivial, trivial⟩ ?_
    exact gv_zret hD rfl (by (/-6-/first | omega | (simp only [gz_hd] at *; omega))) ⟨rfl, ⟨_, rfl, by (/-7-/first | omega | (simp only [gz_hd] at *; omega)), by (/-8-/first | omega | (simp only [gz_hd] at *; omega)), by (/-9-/first | omega | (simp only [gz_hd] at *; omega)), (gs_kw_0 (Or.inl (by (/-10-/first | (have o1 := gz_sh t4; omega) | (simp only [gz_hd] at *; omega))))).symm⟩⟩
  · have t5 := gz_hi (gr_ATp_k x0 (c := 1) ⟨by (/-11-/first | omega | (simp only [gz_hd] at *; omega)), by (/-12-/first | omega | (simp only [gz_hd] at *; omega))⟩)
    have f6 := gz_hi (gw_cmp ((J 0 75)) (a1))
    refine gv_run 4 true hD (pcₚ := 14) (lvₚ := [(0, .inr (.inr (some 0))), (1, .inr (.inl a1))]) (stₚ := [.inl ((lg_cmp ((J 0 75)) (a1)).toInt)]) (hₚ := gr_h I J) (C := ((((True ∧ True) ∧ True) ∧ True) ∧ True)) rfl ⟨⟨⟨⟨trivial, trivial⟩, trivial⟩, trivial⟩, trivial⟩ ?_
    refine gv_if_ne (t := 21) hD rfl rfl ⟨by (/-13-/first | (have o1 := gz_sh f6; omega) | (simp only [gz_hd] at *; omega)), by (/-14-/first | (have o1 := gz_sh f6; omega) | (simp only [gz_hd] at *; omega))⟩ (fun c7 => ?_) (fun c7 => ?_)
    · have j7 := gs_cmpn (a := (J 0 75)) (b := a1) (by (/-15-/first | omega | (simp only [gz_hd] at *; omega)))
      refine gv_run 1 true hD (pcₚ := 22) (lvₚ := [(0, .inr (.inr (some 0))), (1, .inr (.inl a1))]) (stₚ := [.inl 0]) (hₚ := gr_h I J) (C := (True ∧ True)) rfl ⟨trivial, trivial⟩ ?_
      exact gv_zret hD rfl (by (/-16-/first | omega | (simp only [gz_hd] at *; omega))) ⟨rfl, ⟨_, rfl, by (/-17-/first | omega | (simp only [gz_hd] at *; omega)), by (/-18-/first | omega | (simp only [gz_hd] at *; omega)), by (/-19-/first | omega | (simp only [gz_hd] at *; omega)), (gs_kw_0 (Or.inr (by rw [← gr_ATp_w x0]; exact j7))).symm⟩⟩
    · have j7 := gs_cmp0 (a := (J 0 75)) (b := a1) (by (/-20-/first | omega | (simp only [gz_hd] at *; omega)))
      refine gv_run 2 true hD (pcₚ := 22) (lvₚ := [(0, .inr (.inr (some 0))), (1, .inr (.inl a1))]) (stₚ := [.inl 1]) (hₚ := gr_h I J) (C := ((True ∧ True) ∧ True)) rfl ⟨⟨trivial, trivial⟩, trivial⟩ ?_
      exact gv_zret hD rfl (by (/-21-/first | omega | (simp only [gz_hd] at *; omega))) ⟨rfl, ⟨_, rfl, by (/-22-/first | omega | (simp only [gz_hd] at *; omega)), by (/-23-/first | omega | (simp only [gz_hd] at *; omega)), by (/-24-/first | omega | (simp only [gz_hd] at *; omega)), (gs_kw_1 (by (/-25-/first | (have o1 := gz_sh t5; omega) | (simp only [gz_hd] at *; omega))) (by rw [← gr_ATp_w x0]; exact j7)).symm⟩⟩
set_option maxHeartbeats 8000000 in
set_option maxRecDepth 100000 in
theorem r_no_p {ws0 : List Cond} {tb : String → gz_T} (hws : ∀ w ∈ gr_ws, w ∈ ws0) (htb : tb RX13 = gr_T) (ext : gz_Sh) (I : gr_I) (J : gr_J) (hI : gr_Inv I) (a1 : Int) (a2 : Int) (ha1 : 0 ≤ a1 ∧ a1 ≤ 6) (ha2 : (-1) ≤ a2 ∧ a2 ≤ 1001)  : ∃ r hₚ, gz_Ev ws0 tb 1 (yX13_no, cX13_no, 3, (some .boolean)) [.inr (.inr (some 0)), .inl a1, .inl a2] (gr_sh ++ ext) (gr_h I J) r (gr_sh ++ ext) hₚ 0 0 ∧ (∃ (Iₚ : gr_I) (Jₚ : gr_J), hₚ = gr_h Iₚ Jₚ ∧ gr_Inv Iₚ ∧ gr_fr [76, 77] [] I Iₚ ∧ gr_fj [76, 77] [] J Jₚ ∧ (∃ z : Int, r = some (.inl z) ∧ 0 ≤ z ∧ z ≤ 1 ∧ (z = 0) ∧ (Iₚ 0 77 = a2))) := by
  have FI : gr_fr [76, 77] [] I I := fun _ _ _ => rfl
  have FJ : gr_fj [76, 77] [] J J := fun _ _ _ => rfl
  have hD : gv_D (gr_E ws0 tb 0 (yX13_no, cX13_no, 3, (some .boolean)) kX13_no) := gq_of oX13_no
  refine gr_ev (d := 0) (l := kX13_no) (Po := fun r hₚ => (∃ (Iₚ : gr_I) (Jₚ : gr_J), hₚ = gr_h Iₚ Jₚ ∧ gr_Inv Iₚ ∧ gr_fr [76, 77] [] I Iₚ ∧ gr_fj [76, 77] [] J Jₚ ∧ (∃ z : Int, r = some (.inl z) ∧ 0 ≤ z ∧ z ≤ 1 ∧ (z = 0) ∧ (Iₚ 0 77 = a2)))) htb rfl (Nat.le_of_ble_eq_true rfl) ?_
  refine gv_run 3 true hD (pcₚ := 5) (lvₚ := [(0, .inr (.inr (some 0))), (1, .inl a1), (2, .inl a2)]) (stₚ := []) (hₚ := gz_up (gr_h I J) 0 76 (.inl a1)) (C := (((True ∧ True) ∧ True) ∧ True)) rfl ⟨⟨⟨trivial, trivial⟩, trivial⟩, trivial⟩ ?_
  refine gr_st hI FI rfl rfl ⟨⟨by show 0 ≤ _; omega, by show _ ≤ 6; omega⟩, trivial⟩ (fun I1 hI1 FI1 q2 p2 => ?_)
  refine gv_run 3 true hD (pcₚ := 10) (lvₚ := [(0, .inr (.inr (some 0))), (1, .inl a1), (2, .inl a2)]) (stₚ := []) (hₚ := gz_up (gr_h I1 J) 0 77 (.inl a2)) (C := (((True ∧ True) ∧ True) ∧ True)) rfl ⟨⟨⟨trivial, trivial⟩, trivial⟩, trivial⟩ ?_
  refine gr_st hI1 FI1 rfl rfl ⟨⟨by show (-1) ≤ _; omega, by show _ ≤ 1001; omega⟩, trivial⟩ (fun I3 hI3 FI3 q4 p4 => ?_)
  refine gv_run 1 true hD (pcₚ := 11) (lvₚ := [(0, .inr (.inr (some 0))), (1, .inl a1), (2, .inl a2)]) (stₚ := [.inl 0]) (hₚ := gr_h I3 J) (C := (True ∧ True)) rfl ⟨trivial, trivial⟩ ?_
  exact gv_zret hD rfl (by omega) ⟨I3, J, rfl, hI3, FI3, FJ, ⟨_, rfl, by omega⟩⟩
set_option maxHeartbeats 8000000 in
set_option maxRecDepth 100000 in
theorem r_no__p {ws0 : List Cond} {tb : String → gz_T} (hws : ∀ w ∈ gr_ws, w ∈ ws0) (htb : tb RX13 = gr_T) (ext : gz_Sh) (β : Int → Int) (N9 : Int) (p9 : Int) (I : gr_I) (J : gr_J) (hI : gr_Inv I) (a1 : Int) (ha1 : 0 ≤ a1 ∧ a1 ≤ 6) (x0 : gr_ATp β N9 p9 I J) (x1 : 0 ≤ p9) : ∃ r hₚ, gz_Ev ws0 tb 2 (yX13_no_, cX13_no_, 2, (some .boolean)) [.inr (.inr (some 0)), .inl a1] (gr_sh ++ ext) (gr_h I J) r (gr_sh ++ ext) hₚ 0 0 ∧ (∃ (Iₚ : gr_I) (Jₚ : gr_J), hₚ = gr_h Iₚ Jₚ ∧ gr_Inv Iₚ ∧ gr_fr [76, 77] [] I Iₚ ∧ gr_fj [76, 77] [] J Jₚ ∧ (∃ z : Int, r = some (.inl z) ∧ 0 ≤ z ∧ z ≤ 1 ∧ (z = 0) ∧ (Iₚ 0 77 = gs_A β N9 p9))) := by
  have FI : gr_fr [76, 77] [] I I := fun _ _ _ => rfl
  have FJ : gr_fj [76, 77] [] J J := fun _ _ _ => rfl
  have hD : gv_D (gr_E ws0 tb 1 (yX13_no_, cX13_no_, 2, (some .boolean)) kX13_no_) := gq_of oX13_no_
  refine gr_ev (d := 1) (l := kX13_no_) (Po := fun r hₚ => (∃ (Iₚ : gr_I) (Jₚ : gr_J), hₚ = gr_h Iₚ Jₚ ∧ gr_Inv Iₚ ∧ gr_fr [76, 77] [] I Iₚ ∧ gr_fj [76, 77] [] J Jₚ ∧ (∃ z : Int, r = some (.inl z) ∧ 0 ≤ z ∧ z ≤ 1 ∧ (z = 0) ∧ (Iₚ 0 77 = gs_A β N9 p9)))) htb rfl (Nat.le_of_ble_eq_true rfl) ?_
  have tAT := gr_ATp_l x0
  have tE := gs_T4 (β := β) (N := N9) (p := p9)
  have tN := x0.1.2
  have f1 := gz_hi ((gr_b_0_71 hI))
  have f2 := gz_hi ((gr_b_0_72 hI))
  have f3 := gz_hi ((gr_b_0_69 hI))
  refine gv_run 4 true hD (pcₚ := 6) (lvₚ := [(0, .inr (.inr (some 0))), (1, .inl a1)]) (stₚ := [.inl (I 0 71), .inl a1, .inr (.inr (some 0))]) (hₚ := gr_h I J) (C := ((((True ∧ True) ∧ True) ∧ True) ∧ True)) rfl ⟨⟨⟨⟨trivial, trivial⟩, trivial⟩, trivial⟩, trivial⟩ ?_
  refine gv_if_ne (t := 16) hD rfl rfl ⟨by (/-0-/first | (have o1 := gz_sh f1; omega) | (simp only [gz_hd] at *; omega)), by (/-1-/first | (have o1 := gz_sh f1; omega) | (simp only [gz_hd] at *; omega))⟩ (fun c5 => ?_) (fun c5 => ?_)
  · have t6 := gz_hi (gr_ATp_0 x0)
    refine gv_run 2 true hD (pcₚ := 20) (lvₚ := [(0, .inr (.inr (some 0))), (1, .inl a1)]) (stₚ := [.inl (I 0 72), .inl a1, .inr (.inr (some 0))]) (hₚ := gr_h I J) (C := ((True ∧ True) ∧ True)) rfl ⟨⟨trivial, trivial⟩, trivial⟩ ?_
    obtain ⟨r8, h8, E8, P8⟩ := r_no_p (ws0 := ws0) (tb := tb) hws htb ext I J hI a1 (I 0 72) ⟨by (/-2-/first | omega | (simp only [gz_hd] at *; omega)), by (/-3-/first | omega | (simp only [gz_hd] at *; omega))⟩ ⟨by (/-4-/first | (have o1 := gz_sh f2; omega) | (simp only [gz_hd] at *; omega)), by (/-5-/first | (have o1 := gz_sh f2; omega) | (simp only [gz_hd] at *; omega))⟩ 
    obtain ⟨I9, J10, rfl, hI9, g8, k8, ⟨z8, rfl, q8⟩⟩ := P8
    replace q8 := gz_hi q8
    have FI9 := gr_frt FI g8 rfl rfl
    have FJ10 := gr_fjt FJ k8 rfl rfl
    have A17 := gr_ATp_F x0 g8 k8 rfl
    refine gv_callV hD rfl (As := [.inl a1, .inl (I 0 72)]) (st := []) rfl (by decide) rfl rfl (gr_lV hws rfl) (Nat.le_of_ble_eq_true rfl) (gz_Ev_mono (d := 1) (by decide) E8) ?_
    show gv_X _ _ (23, [(0, .inr (.inr (some 0))), (1, .inl a1)], [.inl z8], gr_sh ++ ext, gr_h I9 J10)
    exact gv_zret hD rfl (by (/-6-/first | (have o1 := gz_sh q8; omega) | (simp only [gz_hd] at *; omega))) ⟨I9, J10, rfl, hI9, FI9, FJ10, ⟨_, rfl, by (/-7-/first | (and_intros; (have o1 := gz_sh q8; omega); (have o1 := gz_sh q8; omega); (have o1 := gz_sh q8; omega); (have o1 := gz_sh q8; omega)) | (simp only [gz_hd] at *; omega))⟩⟩
  · have t19 := gz_hi (gr_ATp_0 x0)
    refine gv_run 3 true hD (pcₚ := 20) (lvₚ := [(0, .inr (.inr (some 0))), (1, .inl a1)]) (stₚ := [.inl (I 0 69), .inl a1, .inr (.inr (some 0))]) (hₚ := gr_h I J) (C := (((True ∧ True) ∧ True) ∧ True)) rfl ⟨⟨⟨trivial, trivial⟩, trivial⟩, trivial⟩ ?_
    obtain ⟨r21, h21, E21, P21⟩ := r_no_p (ws0 := ws0) (tb := tb) hws htb ext I J hI a1 (I 0 69) ⟨by (/-8-/first | omega | (simp only [gz_hd] at *; omega)), by (/-9-/first | omega | (simp only [gz_hd] at *; omega))⟩ ⟨by (/-10-/first | (have o1 := gz_sh f3; omega) | (simp only [gz_hd] at *; omega)), by (/-11-/first | (have o1 := gz_sh f3; omega) | (simp only [gz_hd] at *; omega))⟩ 
    obtain ⟨I22, J23, rfl, hI22, g21, k21, ⟨z21, rfl, q21⟩⟩ := P21
    replace q21 := gz_hi q21
    have FI22 := gr_frt FI g21 rfl rfl
    have FJ23 := gr_fjt FJ k21 rfl rfl
    have t25 := gz_hi (g21 0 72 rfl)
    have t26 := gz_hi (g21 0 69 rfl)
    have A30 := gr_ATp_F x0 g21 k21 rfl
    refine gv_callV hD rfl (As := [.inl a1, .inl (I 0 69)]) (st := []) rfl (by decide) rfl rfl (gr_lV hws rfl) (Nat.le_of_ble_eq_true rfl) (gz_Ev_mono (d := 1) (by decide) E21) ?_
    show gv_X _ _ (23, [(0, .inr (.inr (some 0))), (1, .inl a1)], [.inl z21], gr_sh ++ ext, gr_h I22 J23)
    exact gv_zret hD rfl (by (/-12-/first | (have o1 := gz_sh q21; omega) | (simp only [gz_hd] at *; omega))) ⟨I22, J23, rfl, hI22, FI22, FJ23, ⟨_, rfl, by (/-13-/first | (and_intros; (have o1 := gz_sh q21; omega); (have o1 := gz_sh q21; omega); (have o1 := gz_sh q21; omega); (have o1 := gz_sh q21; have o2 := gz_sh t19; have o3 := gz_sh t25; have o4 := gz_sh t26; omega)) | (simp only [gz_hd] at *; omega))⟩⟩
set_option maxHeartbeats 8000000 in
set_option maxRecDepth 100000 in
theorem r_none_p {ws0 : List Cond} {tb : String → gz_T} (hws : ∀ w ∈ gr_ws, w ∈ ws0) (htb : tb RX13 = gr_T) (ext : gz_Sh) (β : Int → Int) (N9 : Int) (p9 : Int) (I : gr_I) (J : gr_J) (hI : gr_Inv I) (a1 : Int) (ha1 : 0 ≤ a1 ∧ a1 ≤ 6) (x0 : gr_ATp β N9 p9 I J) (x1 : 0 ≤ p9) : ∃ r hₚ, gz_Ev ws0 tb 3 (yX13_none, cX13_none, 2, (some .int)) [.inr (.inr (some 0)), .inl a1] (gr_sh ++ ext) (gr_h I J) r (gr_sh ++ ext) hₚ 0 0 ∧ (∃ (Iₚ : gr_I) (Jₚ : gr_J), hₚ = gr_h Iₚ Jₚ ∧ gr_Inv Iₚ ∧ gr_fr [76, 77] [] I Iₚ ∧ gr_fj [76, 77] [] J Jₚ ∧ (∃ z : Int, r = some (.inl z) ∧ (-1) ≤ z ∧ z ≤ (-1) ∧ (Iₚ 0 77 = gs_A β N9 p9))) := by
  have FI : gr_fr [76, 77] [] I I := fun _ _ _ => rfl
  have FJ : gr_fj [76, 77] [] J J := fun _ _ _ => rfl
  have hD : gv_D (gr_E ws0 tb 2 (yX13_none, cX13_none, 2, (some .int)) kX13_none) := gq_of oX13_none
  refine gr_ev (d := 2) (l := kX13_none) (Po := fun r hₚ => (∃ (Iₚ : gr_I) (Jₚ : gr_J), hₚ = gr_h Iₚ Jₚ ∧ gr_Inv Iₚ ∧ gr_fr [76, 77] [] I Iₚ ∧ gr_fj [76, 77] [] J Jₚ ∧ (∃ z : Int, r = some (.inl z) ∧ (-1) ≤ z ∧ z ≤ (-1) ∧ (Iₚ 0 77 = gs_A β N9 p9)))) htb rfl (Nat.le_of_ble_eq_true rfl) ?_
  have tAT := gr_ATp_l x0
  refine gv_run 2 true hD (pcₚ := 2) (lvₚ := [(0, .inr (.inr (some 0))), (1, .inl a1)]) (stₚ := [.inl a1, .inr (.inr (some 0))]) (hₚ := gr_h I J) (C := ((True ∧ True) ∧ True)) rfl ⟨⟨trivial, trivial⟩, trivial⟩ ?_
  obtain ⟨r1, h1, E1, P1⟩ := r_no__p (ws0 := ws0) (tb := tb) hws htb ext β N9 p9 I J hI a1 ⟨by (/-0-/first | omega | (simp only [gz_hd] at *; omega)), by (/-1-/first | omega | (simp only [gz_hd] at *; omega))⟩ x0 (by (/-2-/first | omega | (simp only [gz_hd] at *; omega)))
  obtain ⟨I2, J3, rfl, hI2, g1, k1, ⟨z1, rfl, q1⟩⟩ := P1
  replace q1 := gz_hi q1
  have FI2 := gr_frt FI g1 rfl rfl
  have FJ3 := gr_fjt FJ k1 rfl rfl
  have A4 := gr_ATp_F x0 g1 k1 rfl
  refine gv_callV hD rfl (As := [.inl a1]) (st := []) rfl (by decide) rfl rfl (gr_lV hws rfl) (Nat.le_of_ble_eq_true rfl) (gz_Ev_mono (d := 2) (by decide) E1) ?_
  show gv_X _ _ (5, [(0, .inr (.inr (some 0))), (1, .inl a1)], [.inl z1], gr_sh ++ ext, gr_h I2 J3)
  refine gv_run 2 true hD (pcₚ := 7) (lvₚ := [(0, .inr (.inr (some 0))), (1, .inl a1)]) (stₚ := [.inl (-1)]) (hₚ := gr_h I2 J3) (C := ((True ∧ True) ∧ True)) rfl ⟨⟨trivial, trivial⟩, trivial⟩ ?_
  exact gv_iret hD rfl ⟨I2, J3, rfl, hI2, FI2, FJ3, ⟨_, rfl, by (/-3-/first | (and_intros; (omega); (omega); (have o1 := gz_sh q1; omega)) | (simp only [gz_hd] at *; omega))⟩⟩
set_option maxHeartbeats 8000000 in
set_option maxRecDepth 100000 in
theorem r_name_p {ws0 : List Cond} {tb : String → gz_T} (hws : ∀ w ∈ gr_ws, w ∈ ws0) (htb : tb RX13 = gr_T) (ext : gz_Sh) (β : Int → Int) (N9 : Int) (p9 : Int) (I : gr_I) (J : gr_J) (hI : gr_Inv I)   (x0 : gr_ATp β N9 p9 I J) (x1 : 0 ≤ p9) : ∃ r hₚ, gz_Ev ws0 tb 3 (yX13_name, cX13_name, 1, (some .boolean)) [.inr (.inr (some 0))] (gr_sh ++ ext) (gr_h I J) r (gr_sh ++ ext) hₚ 0 0 ∧ (∃ (Iₚ : gr_I) (Jₚ : gr_J), hₚ = gr_h Iₚ Jₚ ∧ gr_Inv Iₚ ∧ gr_fr [76, 77] [] I Iₚ ∧ gr_fj [76, 77] [] J Jₚ ∧ (∃ z : Int, r = some (.inl z) ∧ 0 ≤ z ∧ z ≤ 1 ∧ (z = 0 ∨ I 0 71 = 1) ∧ ((z = 1 ∧ gs_T β N9 p9 = 1) ∨ (z = 0 ∧ ¬ gs_T β N9 p9 = 1 ∧ Iₚ 0 77 = gs_A β N9 p9)))) := by
  have FI : gr_fr [76, 77] [] I I := fun _ _ _ => rfl
  have FJ : gr_fj [76, 77] [] J J := fun _ _ _ => rfl
  have hD : gv_D (gr_E ws0 tb 2 (yX13_name, cX13_name, 1, (some .boolean)) kX13_name) := gq_of oX13_name
  refine gr_ev (d := 2) (l := kX13_name) (Po := fun r hₚ => (∃ (Iₚ : gr_I) (Jₚ : gr_J), hₚ = gr_h Iₚ Jₚ ∧ gr_Inv Iₚ ∧ gr_fr [76, 77] [] I Iₚ ∧ gr_fj [76, 77] [] J Jₚ ∧ (∃ z : Int, r = some (.inl z) ∧ 0 ≤ z ∧ z ≤ 1 ∧ (z = 0 ∨ I 0 71 = 1) ∧ ((z = 1 ∧ gs_T β N9 p9 = 1) ∨ (z = 0 ∧ ¬ gs_T β N9 p9 = 1 ∧ Iₚ 0 77 = gs_A β N9 p9))))) htb rfl (Nat.le_of_ble_eq_true rfl) ?_
  have tAT := gr_ATp_l x0
  have f1 := gz_hi ((gr_b_0_71 hI))
  refine gv_run 3 true hD (pcₚ := 5) (lvₚ := [(0, .inr (.inr (some 0)))]) (stₚ := [.inl 1, .inl (I 0 71)]) (hₚ := gr_h I J) (C := (((True ∧ True) ∧ True) ∧ True)) rfl ⟨⟨⟨trivial, trivial⟩, trivial⟩, trivial⟩ ?_
  refine gv_icmp_eq (t := 16) hD rfl rfl ⟨⟨by (/-0-/first | (have o1 := gz_sh f1; omega) | (simp only [gz_hd] at *; omega)), by (/-1-/first | (have o1 := gz_sh f1; omega) | (simp only [gz_hd] at *; omega))⟩, ⟨by (/-2-/first | omega | (simp only [gz_hd] at *; omega)), by (/-3-/first | omega | (simp only [gz_hd] at *; omega))⟩⟩ (fun c3 => ?_) (fun c3 => ?_)
  · have t4 := gz_hi (gr_ATp_k x0 (c := 1) ⟨by (/-4-/first | omega | (simp only [gz_hd] at *; omega)), by (/-5-/first | omega | (simp only [gz_hd] at *; omega))⟩)
    refine gv_run 2 true hD (pcₚ := 21) (lvₚ := [(0, .inr (.inr (some 0)))]) (stₚ := [.inl 1]) (hₚ := gr_h I J) (C := ((True ∧ True) ∧ True)) rfl ⟨⟨trivial, trivial⟩, trivial⟩ ?_
    exact gv_zret hD rfl (by (/-6-/first | omega | (simp only [gz_hd] at *; omega))) ⟨I, J, rfl, hI, FI, FJ, ⟨_, rfl, by (/-7-/first | (and_intros; (omega); (omega); (omega); (have o1 := gz_sh t4; omega)) | (simp only [gz_hd] at *; omega))⟩⟩
  · have t5 := gz_hi (gr_ATp_k x0 (c := 1) ⟨by (/-8-/first | omega | (simp only [gz_hd] at *; omega)), by (/-9-/first | omega | (simp only [gz_hd] at *; omega))⟩)
    refine gv_run 2 true hD (pcₚ := 10) (lvₚ := [(0, .inr (.inr (some 0)))]) (stₚ := [.inl 1, .inr (.inr (some 0))]) (hₚ := gr_h I J) (C := ((True ∧ True) ∧ True)) rfl ⟨⟨trivial, trivial⟩, trivial⟩ ?_
    obtain ⟨r6, h6, E6, P6⟩ := r_no__p (ws0 := ws0) (tb := tb) hws htb ext β N9 p9 I J hI 1 ⟨by (/-10-/first | omega | (simp only [gz_hd] at *; omega)), by (/-11-/first | omega | (simp only [gz_hd] at *; omega))⟩ x0 (by (/-12-/first | omega | (simp only [gz_hd] at *; omega)))
    obtain ⟨I7, J8, rfl, hI7, g6, k6, ⟨z6, rfl, q6⟩⟩ := P6
    replace q6 := gz_hi q6
    have FI7 := gr_frt FI g6 rfl rfl
    have FJ8 := gr_fjt FJ k6 rfl rfl
    have t9 := gz_hi (g6 0 71 rfl)
    have A11 := gr_ATp_F x0 g6 k6 rfl
    refine gv_callV hD rfl (As := [.inl 1]) (st := []) rfl (by decide) rfl rfl (gr_lV hws rfl) (Nat.le_of_ble_eq_true rfl) (gz_Ev_mono (d := 2) (by decide) E6) ?_
    show gv_X _ _ (13, [(0, .inr (.inr (some 0)))], [.inl z6], gr_sh ++ ext, gr_h I7 J8)
    refine gv_if_eq (t := 20) hD rfl rfl ⟨by (/-13-/first | (have o1 := gz_sh q6; omega) | (simp only [gz_hd] at *; omega)), by (/-14-/first | (have o1 := gz_sh q6; omega) | (simp only [gz_hd] at *; omega))⟩ (fun c13 => ?_) (fun c13 => ?_)
    · refine gv_run 1 true hD (pcₚ := 21) (lvₚ := [(0, .inr (.inr (some 0)))]) (stₚ := [.inl 0]) (hₚ := gr_h I7 J8) (C := (True ∧ True)) rfl ⟨trivial, trivial⟩ ?_
      exact gv_zret hD rfl (by (/-15-/first | omega | (simp only [gz_hd] at *; omega))) ⟨I7, J8, rfl, hI7, FI7, FJ8, ⟨_, rfl, by (/-16-/first | (and_intros; (omega); (omega); (omega); (have o1 := gz_sh q6; have o2 := gz_sh t5; have o3 := gz_sh t9; omega)) | (simp only [gz_hd] at *; omega))⟩⟩
    · refine gv_run 2 true hD (pcₚ := 21) (lvₚ := [(0, .inr (.inr (some 0)))]) (stₚ := [.inl 1]) (hₚ := gr_h I7 J8) (C := ((True ∧ True) ∧ True)) rfl ⟨⟨trivial, trivial⟩, trivial⟩ ?_
      exact gv_zret hD rfl (by (/-17-/first | omega | (simp only [gz_hd] at *; omega))) ⟨I7, J8, rfl, hI7, FI7, FJ8, ⟨_, rfl, by (/-18-/first | (and_intros; (omega); (omega); (have o1 := gz_sh q6; omega); (have o1 := gz_sh q6; omega)) | (simp only [gz_hd] at *; omega))⟩⟩
set_option maxHeartbeats 8000000 in
set_option maxRecDepth 100000 in
theorem r_need_p {ws0 : List Cond} {tb : String → gz_T} (hws : ∀ w ∈ gr_ws, w ∈ ws0) (htb : tb RX13 = gr_T) (ext : gz_Sh) (β : Int → Int) (N9 : Int) (p9 : Int) (I : gr_I) (J : gr_J) (hI : gr_Inv I) (a1 : Int) (ha1 : 6 ≤ a1 ∧ a1 ≤ 127) (x0 : I 0 71 = 5 ∨ I 0 73 ≤ I 0 69) (x1 : I 0 72 ≤ I 0 69) (x2 : I 0 71 = 0 ∨ (I 0 72 < I 0 73 ∧ I 0 72 < I 0 69)) (x3 : I 0 71 = 3 → 2 ≤ I 0 73 - I 0 72 ∧ I 0 73 - I 0 72 ≤ 14) (x4 : I 0 72 ≤ I 0 73) (x5 : gr_ATp β N9 p9 I J) (x6 : 0 ≤ p9) : ∃ r hₚ, gz_Ev ws0 tb 11 (yX13_need, cX13_need, 2, (some .boolean)) [.inr (.inr (some 0)), .inl a1] (gr_sh ++ ext) (gr_h I J) r (gr_sh ++ ext) hₚ 0 0 ∧ (∃ (Iₚ : gr_I) (Jₚ : gr_J), hₚ = gr_h Iₚ Jₚ ∧ gr_Inv Iₚ ∧ gr_fr [71, 72, 73, 74, 75, 76, 77] [] I Iₚ ∧ gr_fj [71, 72, 73, 74, 75, 76, 77] [] J Jₚ ∧ (∃ z : Int, r = some (.inl z) ∧ 0 ≤ z ∧ z ≤ 1 ∧ (Iₚ 0 71 = 5 ∨ Iₚ 0 73 ≤ Iₚ 0 69) ∧ (Iₚ 0 72 ≤ Iₚ 0 69) ∧ (Iₚ 0 71 = 0 ∨ (Iₚ 0 72 < Iₚ 0 73 ∧ Iₚ 0 72 < Iₚ 0 69)) ∧ (Iₚ 0 71 = 3 → 2 ≤ Iₚ 0 73 - Iₚ 0 72 ∧ Iₚ 0 73 - Iₚ 0 72 ≤ 14) ∧ (Iₚ 0 72 ≤ Iₚ 0 73) ∧ (Iₚ 0 69 = I 0 69) ∧ (I 0 73 ≤ Iₚ 0 73) ∧ (I 0 72 ≤ Iₚ 0 72) ∧ (z = 0 ∨ (I 0 73 ≤ Iₚ 0 72 ∧ I 0 71 = 4)) ∧ (gs_Or z (0 ≤ (gs_need β N9 a1 p9) ∧ gr_ATp β N9 (gs_need β N9 a1 p9) Iₚ Jₚ) ((gs_need β N9 a1 p9) < 0 ∧ Iₚ 0 77 = -1 - (gs_need β N9 a1 p9))))) := by
  have FI : gr_fr [71, 72, 73, 74, 75, 76, 77] [] I I := fun _ _ _ => rfl
  have FJ : gr_fj [71, 72, 73, 74, 75, 76, 77] [] J J := fun _ _ _ => rfl
  have hD : gv_D (gr_E ws0 tb 10 (yX13_need, cX13_need, 2, (some .boolean)) kX13_need) := gq_of oX13_need
  refine gr_ev (d := 10) (l := kX13_need) (Po := fun r hₚ => (∃ (Iₚ : gr_I) (Jₚ : gr_J), hₚ = gr_h Iₚ Jₚ ∧ gr_Inv Iₚ ∧ gr_fr [71, 72, 73, 74, 75, 76, 77] [] I Iₚ ∧ gr_fj [71, 72, 73, 74, 75, 76, 77] [] J Jₚ ∧ (∃ z : Int, r = some (.inl z) ∧ 0 ≤ z ∧ z ≤ 1 ∧ (Iₚ 0 71 = 5 ∨ Iₚ 0 73 ≤ Iₚ 0 69) ∧ (Iₚ 0 72 ≤ Iₚ 0 69) ∧ (Iₚ 0 71 = 0 ∨ (Iₚ 0 72 < Iₚ 0 73 ∧ Iₚ 0 72 < Iₚ 0 69)) ∧ (Iₚ 0 71 = 3 → 2 ≤ Iₚ 0 73 - Iₚ 0 72 ∧ Iₚ 0 73 - Iₚ 0 72 ≤ 14) ∧ (Iₚ 0 72 ≤ Iₚ 0 73) ∧ (Iₚ 0 69 = I 0 69) ∧ (I 0 73 ≤ Iₚ 0 73) ∧ (I 0 72 ≤ Iₚ 0 72) ∧ (z = 0 ∨ (I 0 73 ≤ Iₚ 0 72 ∧ I 0 71 = 4)) ∧ (gs_Or z (0 ≤ (gs_need β N9 a1 p9) ∧ gr_ATp β N9 (gs_need β N9 a1 p9) Iₚ Jₚ) ((gs_need β N9 a1 p9) < 0 ∧ Iₚ 0 77 = -1 - (gs_need β N9 a1 p9)))))) htb rfl (Nat.le_of_ble_eq_true rfl) ?_
  have tAT := gr_ATp_l x5
  have f1 := gz_hi ((gr_b_0_71 hI))
  have f2 := gz_hi ((gr_b_0_72 hI))
  have f3 := gz_hi ((gr_b_0_73 hI))
  have f4 := gz_hi ((gr_b_0_69 hI))
  refine gv_run 2 true hD (pcₚ := 2) (lvₚ := [(0, .inr (.inr (some 0))), (1, .inl a1)]) (stₚ := [.inl a1, .inr (.inr (some 0))]) (hₚ := gr_h I J) (C := ((True ∧ True) ∧ True)) rfl ⟨⟨trivial, trivial⟩, trivial⟩ ?_
  obtain ⟨r5, h5, E5, P5⟩ := r_sign_p (ws0 := ws0) (tb := tb) hws htb ext β N9 p9 I J hI a1 ⟨by (/-0-/first | omega | (simp only [gz_hd] at *; omega)), by (/-1-/first | omega | (simp only [gz_hd] at *; omega))⟩ (by (/-2-/first | (have o1 := gz_sh f2; have o2 := gz_sh f3; have o3 := gz_sh f4; omega) | (simp only [gz_hd] at *; omega))) x5 (by (/-3-/first | omega | (simp only [gz_hd] at *; omega)))
  obtain ⟨rfl, ⟨z5, rfl, q5⟩⟩ := P5
  replace q5 := gz_hi q5
  refine gv_callV hD rfl (As := [.inl a1]) (st := []) rfl (by decide) rfl rfl (gr_lV hws rfl) (Nat.le_of_ble_eq_true rfl) (gz_Ev_mono (d := 1) (by decide) E5) ?_
  show gv_X _ _ (5, [(0, .inr (.inr (some 0))), (1, .inl a1)], [.inl z5], gr_sh ++ ext, gr_h I J)
  refine gv_if_ne (t := 14) hD rfl rfl ⟨by (/-4-/first | (have o1 := gz_sh q5; omega) | (simp only [gz_hd] at *; omega)), by (/-5-/first | (have o1 := gz_sh q5; omega) | (simp only [gz_hd] at *; omega))⟩ (fun c6 => ?_) (fun c6 => ?_)
  · refine gv_run 1 true hD (pcₚ := 15) (lvₚ := [(0, .inr (.inr (some 0))), (1, .inl a1)]) (stₚ := [.inr (.inr (some 0))]) (hₚ := gr_h I J) (C := (True ∧ True)) rfl ⟨trivial, trivial⟩ ?_
    obtain ⟨r7, h7, E7, P7⟩ := r_next_p (ws0 := ws0) (tb := tb) hws htb ext β N9 I J hI   (by (/-6-/first | (have o1 := gz_sh q5; omega) | (simp only [gz_hd] at *; omega))) x5.1.1 x5.1.2
    obtain ⟨I8, J9, rfl, hI8, g7, k7, ⟨rfl, q7⟩⟩ := P7
    replace q7 := gz_hi q7
    have FI8 := gr_frt FI g7 rfl rfl
    have FJ9 := gr_fjt FJ k7 rfl rfl
    have t10 := gz_hi (g7 0 69 rfl)
    have f11 := gz_hi ((gr_b_0_71 hI8))
    have A15 := gr_ATp_nx x5 (gz_sh q7).2.2.2.2.2
    have t16 := gz_hi (gr_ATp_l A15)
    refine gv_callV hD rfl (As := []) (st := []) rfl (by decide) rfl rfl (gr_lV hws rfl) (Nat.le_of_ble_eq_true rfl) (gz_Ev_mono (d := 10) (by decide) E7) ?_
    show gv_X _ _ (18, [(0, .inr (.inr (some 0))), (1, .inl a1)], [], gr_sh ++ ext, gr_h I8 J9)
    refine gv_run 1 true hD (pcₚ := 19) (lvₚ := [(0, .inr (.inr (some 0))), (1, .inl a1)]) (stₚ := [.inl 1]) (hₚ := gr_h I8 J9) (C := (True ∧ True)) rfl ⟨trivial, trivial⟩ ?_
    exact gv_zret hD rfl (by (/-7-/first | omega | (simp only [gz_hd] at *; omega))) ⟨I8, J9, rfl, hI8, FI8, FJ9, ⟨_, rfl, by (/-8-/first | omega | (simp only [gz_hd] at *; omega)), by (/-9-/first | omega | (simp only [gz_hd] at *; omega)), by (/-10-/first | (have o1 := gz_sh f11; have o2 := gz_sh q7; omega) | (simp only [gz_hd] at *; omega)), by (/-11-/first | (have o1 := gz_sh q7; omega) | (simp only [gz_hd] at *; omega)), by (/-12-/first | (have o1 := gz_sh f11; have o2 := gz_sh q7; have o3 := gz_sh t16; omega) | (simp only [gz_hd] at *; omega)), by (/-13-/first | (have o1 := gz_sh q7; have o2 := gz_sh t16; omega) | (simp only [gz_hd] at *; omega)), by (/-14-/first | (have o1 := gz_sh q7; omega) | (simp only [gz_hd] at *; omega)), by (/-15-/first | (have o1 := gz_sh t10; omega) | (simp only [gz_hd] at *; omega)), by (/-16-/first | (have o1 := gz_sh q7; omega) | (simp only [gz_hd] at *; omega)), by (/-17-/first | (have o1 := gz_sh q7; omega) | (simp only [gz_hd] at *; omega)), by (/-18-/first | (have o1 := gz_sh f1; have o2 := gz_sh f11; have o3 := gz_sh q5; have o4 := gz_sh q7; have o5 := gz_sh t16; omega) | (simp only [gz_hd] at *; omega)), (Or.inl ⟨by (/-19-/first | omega | (simp only [gz_hd] at *; omega)), by have e9 : (gs_need β N9 a1 p9) = (gs_X β N9 p9) := (by unfold gs_need; (repeat first | rw [if_pos (by (/-20-/first | (have o1 := gz_sh f11; have o2 := gz_sh q5; have o3 := gz_sh q7; omega) | (simp only [gz_hd] at *; omega)))] | rw [if_neg (by (/-21-/first | omega | (simp only [gz_hd] at *; omega)))])); rw [e9]; exact ⟨by (/-22-/first | (have o1 := gz_sh f3; omega) | (simp only [gz_hd] at *; omega)), A15⟩⟩)⟩⟩
  · refine gv_run 2 true hD (pcₚ := 10) (lvₚ := [(0, .inr (.inr (some 0))), (1, .inl a1)]) (stₚ := [.inl 1, .inr (.inr (some 0))]) (hₚ := gr_h I J) (C := ((True ∧ True) ∧ True)) rfl ⟨⟨trivial, trivial⟩, trivial⟩ ?_
    obtain ⟨r17, h17, E17, P17⟩ := r_no__p (ws0 := ws0) (tb := tb) hws htb ext β N9 p9 I J hI 1 ⟨by (/-23-/first | omega | (simp only [gz_hd] at *; omega)), by (/-24-/first | omega | (simp only [gz_hd] at *; omega))⟩ x5 (by (/-25-/first | omega | (simp only [gz_hd] at *; omega)))
    obtain ⟨I18, J19, rfl, hI18, g17, k17, ⟨z17, rfl, q17⟩⟩ := P17
    replace q17 := gz_hi q17
    have FI18 := gr_frt FI g17 rfl rfl
    have FJ19 := gr_fjt FJ k17 rfl rfl
    have t20 := gz_hi (g17 0 71 rfl)
    have t21 := gz_hi (g17 0 72 rfl)
    have t22 := gz_hi (g17 0 73 rfl)
    have t23 := gz_hi (g17 0 69 rfl)
    have A28 := gr_ATp_F x5 g17 k17 rfl
    refine gv_callV hD rfl (As := [.inl 1]) (st := []) rfl (by decide) rfl rfl (gr_lV hws rfl) (Nat.le_of_ble_eq_true rfl) (gz_Ev_mono (d := 2) (by decide) E17) ?_
    show gv_X _ _ (13, [(0, .inr (.inr (some 0))), (1, .inl a1)], [.inl z17], gr_sh ++ ext, gr_h I18 J19)
    exact gv_zret hD rfl (by (/-26-/first | (have o1 := gz_sh q17; omega) | (simp only [gz_hd] at *; omega))) ⟨I18, J19, rfl, hI18, FI18, FJ19, ⟨_, rfl, by (/-27-/first | (have o1 := gz_sh q17; omega) | (simp only [gz_hd] at *; omega)), by (/-28-/first | (have o1 := gz_sh q17; omega) | (simp only [gz_hd] at *; omega)), by (/-29-/first | (have o1 := gz_sh f1; have o2 := gz_sh t20; have o3 := gz_sh t22; have o4 := gz_sh t23; omega) | (simp only [gz_hd] at *; omega)), by (/-30-/first | (have o1 := gz_sh t21; have o2 := gz_sh t23; omega) | (simp only [gz_hd] at *; omega)), by (/-31-/first | (have o1 := gz_sh f1; have o2 := gz_sh q17; have o3 := gz_sh q5; have o4 := gz_sh t20; have o5 := gz_sh t21; have o6 := gz_sh t22; have o7 := gz_sh t23; omega) | (simp only [gz_hd] at *; omega)), by (/-32-/first | (have o1 := gz_sh q17; have o2 := gz_sh q5; have o3 := gz_sh t20; have o4 := gz_sh t21; have o5 := gz_sh t22; omega) | (simp only [gz_hd] at *; omega)), by (/-33-/first | (have o1 := gz_sh t21; have o2 := gz_sh t22; omega) | (simp only [gz_hd] at *; omega)), by (/-34-/first | (have o1 := gz_sh t23; omega) | (simp only [gz_hd] at *; omega)), by (/-35-/first | (have o1 := gz_sh t22; omega) | (simp only [gz_hd] at *; omega)), by (/-36-/first | (have o1 := gz_sh t21; omega) | (simp only [gz_hd] at *; omega)), by (/-37-/first | (have o1 := gz_sh q17; omega) | (simp only [gz_hd] at *; omega)), (Or.inr ⟨by (/-38-/first | (have o1 := gz_sh q17; omega) | (simp only [gz_hd] at *; omega)), by unfold gs_need; (repeat first | rw [if_pos (by (/-39-/first | omega | (simp only [gz_hd] at *; omega)))] | rw [if_neg (by (/-40-/first | (have o1 := gz_sh q5; omega) | (simp only [gz_hd] at *; omega)))]); exact ⟨by (/-41-/first | (have o1 := gz_sh f2; omega) | (simp only [gz_hd] at *; omega)), by (/-42-/first | (have o1 := gz_sh q17; omega) | (simp only [gz_hd] at *; omega))⟩⟩)⟩⟩
set_option maxHeartbeats 8000000 in
set_option maxRecDepth 100000 in
theorem r_done_p {ws0 : List Cond} {tb : String → gz_T} (hws : ∀ w ∈ gr_ws, w ∈ ws0) (htb : tb RX13 = gr_T) (ext : gz_Sh) (β : Int → Int) (N9 : Int) (p9 : Int) (I : gr_I) (J : gr_J) (hI : gr_Inv I) (a1 : Int) (ha1 : 0 ≤ a1 ∧ a1 ≤ 1) (x0 : I 0 71 = 5 ∨ I 0 73 ≤ I 0 69) (x1 : I 0 72 ≤ I 0 69) (x2 : I 0 71 = 0 ∨ (I 0 72 < I 0 73 ∧ I 0 72 < I 0 69)) (x3 : I 0 71 = 3 → 2 ≤ I 0 73 - I 0 72 ∧ I 0 73 - I 0 72 ≤ 14) (x4 : I 0 72 ≤ I 0 73) (x5 : gr_ATp β N9 p9 I J) (x6 : 0 ≤ p9) : ∃ r hₚ, gz_Ev ws0 tb 11 (yX13_done, cX13_done, 2, (some .boolean)) [.inr (.inr (some 0)), .inl a1] (gr_sh ++ ext) (gr_h I J) r (gr_sh ++ ext) hₚ 0 0 ∧ (∃ (Iₚ : gr_I) (Jₚ : gr_J), hₚ = gr_h Iₚ Jₚ ∧ gr_Inv Iₚ ∧ gr_fr [71, 72, 73, 74, 75, 76, 77] [] I Iₚ ∧ gr_fj [71, 72, 73, 74, 75, 76, 77] [] J Jₚ ∧ (∃ z : Int, r = some (.inl z) ∧ 0 ≤ z ∧ z ≤ 1 ∧ (Iₚ 0 71 = 5 ∨ Iₚ 0 73 ≤ Iₚ 0 69) ∧ (Iₚ 0 72 ≤ Iₚ 0 69) ∧ (Iₚ 0 71 = 0 ∨ (Iₚ 0 72 < Iₚ 0 73 ∧ Iₚ 0 72 < Iₚ 0 69)) ∧ (Iₚ 0 71 = 3 → 2 ≤ Iₚ 0 73 - Iₚ 0 72 ∧ Iₚ 0 73 - Iₚ 0 72 ≤ 14) ∧ (Iₚ 0 72 ≤ Iₚ 0 73) ∧ (Iₚ 0 69 = I 0 69) ∧ (I 0 73 ≤ Iₚ 0 73) ∧ (I 0 72 ≤ Iₚ 0 72) ∧ (z = 0 ∨ a1 = 1) ∧ (z = 0 ∨ (I 0 73 ≤ Iₚ 0 72 ∧ I 0 71 = 4)) ∧ (gs_Or z (0 ≤ (gs_done β N9 a1 (I 0 78) p9) ∧ gr_ATp β N9 (gs_done β N9 a1 (I 0 78) p9) Iₚ Jₚ) ((gs_done β N9 a1 (I 0 78) p9) < 0 ∧ Iₚ 0 77 = -1 - (gs_done β N9 a1 (I 0 78) p9))))) := by
  have FI : gr_fr [71, 72, 73, 74, 75, 76, 77] [] I I := fun _ _ _ => rfl
  have FJ : gr_fj [71, 72, 73, 74, 75, 76, 77] [] J J := fun _ _ _ => rfl
  have hD : gv_D (gr_E ws0 tb 10 (yX13_done, cX13_done, 2, (some .boolean)) kX13_done) := gq_of oX13_done
  refine gr_ev (d := 10) (l := kX13_done) (Po := fun r hₚ => (∃ (Iₚ : gr_I) (Jₚ : gr_J), hₚ = gr_h Iₚ Jₚ ∧ gr_Inv Iₚ ∧ gr_fr [71, 72, 73, 74, 75, 76, 77] [] I Iₚ ∧ gr_fj [71, 72, 73, 74, 75, 76, 77] [] J Jₚ ∧ (∃ z : Int, r = some (.inl z) ∧ 0 ≤ z ∧ z ≤ 1 ∧ (Iₚ 0 71 = 5 ∨ Iₚ 0 73 ≤ Iₚ 0 69) ∧ (Iₚ 0 72 ≤ Iₚ 0 69) ∧ (Iₚ 0 71 = 0 ∨ (Iₚ 0 72 < Iₚ 0 73 ∧ Iₚ 0 72 < Iₚ 0 69)) ∧ (Iₚ 0 71 = 3 → 2 ≤ Iₚ 0 73 - Iₚ 0 72 ∧ Iₚ 0 73 - Iₚ 0 72 ≤ 14) ∧ (Iₚ 0 72 ≤ Iₚ 0 73) ∧ (Iₚ 0 69 = I 0 69) ∧ (I 0 73 ≤ Iₚ 0 73) ∧ (I 0 72 ≤ Iₚ 0 72) ∧ (z = 0 ∨ a1 = 1) ∧ (z = 0 ∨ (I 0 73 ≤ Iₚ 0 72 ∧ I 0 71 = 4)) ∧ (gs_Or z (0 ≤ (gs_done β N9 a1 (I 0 78) p9) ∧ gr_ATp β N9 (gs_done β N9 a1 (I 0 78) p9) Iₚ Jₚ) ((gs_done β N9 a1 (I 0 78) p9) < 0 ∧ Iₚ 0 77 = -1 - (gs_done β N9 a1 (I 0 78) p9)))))) htb rfl (Nat.le_of_ble_eq_true rfl) ?_
  have tAT := gr_ATp_l x5
  have f1 := gz_hi ((gr_b_0_71 hI))
  have f2 := gz_hi ((gr_b_0_72 hI))
  have f3 := gz_hi ((gr_b_0_73 hI))
  have f4 := gz_hi ((gr_b_0_69 hI))
  refine gv_run 2 true hD (pcₚ := 3) (lvₚ := [(0, .inr (.inr (some 0))), (1, .inl a1)]) (stₚ := [.inl 59, .inr (.inr (some 0))]) (hₚ := gr_h I J) (C := ((True ∧ True) ∧ True)) rfl ⟨⟨trivial, trivial⟩, trivial⟩ ?_
  obtain ⟨r5, h5, E5, P5⟩ := r_sign_p (ws0 := ws0) (tb := tb) hws htb ext β N9 p9 I J hI 59 ⟨by (/-0-/first | omega | (simp only [gz_hd] at *; omega)), by (/-1-/first | omega | (simp only [gz_hd] at *; omega))⟩ (by (/-2-/first | (have o1 := gz_sh f2; have o2 := gz_sh f3; have o3 := gz_sh f4; omega) | (simp only [gz_hd] at *; omega))) x5 (by (/-3-/first | omega | (simp only [gz_hd] at *; omega)))
  obtain ⟨rfl, ⟨z5, rfl, q5⟩⟩ := P5
  replace q5 := gz_hi q5
  refine gv_callV hD rfl (As := [.inl 59]) (st := []) rfl (by decide) rfl rfl (gr_lV hws rfl) (Nat.le_of_ble_eq_true rfl) (gz_Ev_mono (d := 1) (by decide) E5) ?_
  show gv_X _ _ (6, [(0, .inr (.inr (some 0))), (1, .inl a1)], [.inl z5], gr_sh ++ ext, gr_h I J)
  refine gv_if_ne (t := 15) hD rfl rfl ⟨by (/-4-/first | (have o1 := gz_sh q5; omega) | (simp only [gz_hd] at *; omega)), by (/-5-/first | (have o1 := gz_sh q5; omega) | (simp only [gz_hd] at *; omega))⟩ (fun c6 => ?_) (fun c6 => ?_)
  · refine gv_run 1 true hD (pcₚ := 16) (lvₚ := [(0, .inr (.inr (some 0))), (1, .inl a1)]) (stₚ := [.inl a1]) (hₚ := gr_h I J) (C := (True ∧ True)) rfl ⟨trivial, trivial⟩ ?_
    refine gv_if_ne (t := 29) hD rfl rfl ⟨by (/-6-/first | omega | (simp only [gz_hd] at *; omega)), by (/-7-/first | omega | (simp only [gz_hd] at *; omega))⟩ (fun c7 => ?_) (fun c7 => ?_)
    · refine gv_run 1 true hD (pcₚ := 30) (lvₚ := [(0, .inr (.inr (some 0))), (1, .inl a1)]) (stₚ := [.inr (.inr (some 0))]) (hₚ := gr_h I J) (C := (True ∧ True)) rfl ⟨trivial, trivial⟩ ?_
      obtain ⟨r8, h8, E8, P8⟩ := r_next_p (ws0 := ws0) (tb := tb) hws htb ext β N9 I J hI   (by (/-8-/first | (have o1 := gz_sh q5; omega) | (simp only [gz_hd] at *; omega))) x5.1.1 x5.1.2
      obtain ⟨I9, J10, rfl, hI9, g8, k8, ⟨rfl, q8⟩⟩ := P8
      replace q8 := gz_hi q8
      have FI9 := gr_frt FI g8 rfl rfl
      have FJ10 := gr_fjt FJ k8 rfl rfl
      have t11 := gz_hi (g8 0 69 rfl)
      have f12 := gz_hi ((gr_b_0_71 hI9))
      have A16 := gr_ATp_nx x5 (gz_sh q8).2.2.2.2.2
      have t17 := gz_hi (gr_ATp_l A16)
      refine gv_callV hD rfl (As := []) (st := []) rfl (by decide) rfl rfl (gr_lV hws rfl) (Nat.le_of_ble_eq_true rfl) (gz_Ev_mono (d := 10) (by decide) E8) ?_
      show gv_X _ _ (33, [(0, .inr (.inr (some 0))), (1, .inl a1)], [], gr_sh ++ ext, gr_h I9 J10)
      refine gv_run 1 true hD (pcₚ := 34) (lvₚ := [(0, .inr (.inr (some 0))), (1, .inl a1)]) (stₚ := [.inl 1]) (hₚ := gr_h I9 J10) (C := (True ∧ True)) rfl ⟨trivial, trivial⟩ ?_
      exact gv_zret hD rfl (by (/-9-/first | omega | (simp only [gz_hd] at *; omega))) ⟨I9, J10, rfl, hI9, FI9, FJ10, ⟨_, rfl, by (/-10-/first | omega | (simp only [gz_hd] at *; omega)), by (/-11-/first | omega | (simp only [gz_hd] at *; omega)), by (/-12-/first | (have o1 := gz_sh f12; have o2 := gz_sh q8; omega) | (simp only [gz_hd] at *; omega)), by (/-13-/first | (have o1 := gz_sh q8; omega) | (simp only [gz_hd] at *; omega)), by (/-14-/first | (have o1 := gz_sh f12; have o2 := gz_sh q8; have o3 := gz_sh t17; omega) | (simp only [gz_hd] at *; omega)), by (/-15-/first | (have o1 := gz_sh q8; have o2 := gz_sh t17; omega) | (simp only [gz_hd] at *; omega)), by (/-16-/first | (have o1 := gz_sh q8; omega) | (simp only [gz_hd] at *; omega)), by (/-17-/first | (have o1 := gz_sh t11; omega) | (simp only [gz_hd] at *; omega)), by (/-18-/first | (have o1 := gz_sh q8; omega) | (simp only [gz_hd] at *; omega)), by (/-19-/first | (have o1 := gz_sh q8; omega) | (simp only [gz_hd] at *; omega)), by (/-20-/first | omega | (simp only [gz_hd] at *; omega)), by (/-21-/first | (have o1 := gz_sh f1; have o2 := gz_sh f12; have o3 := gz_sh q5; have o4 := gz_sh q8; have o5 := gz_sh t17; omega) | (simp only [gz_hd] at *; omega)), (Or.inl ⟨by (/-22-/first | omega | (simp only [gz_hd] at *; omega)), by have e9 : (gs_done β N9 a1 (I 0 78) p9) = (gs_X β N9 p9) := (by unfold gs_done; (repeat first | rw [if_pos (by (/-23-/first | (have o1 := gz_sh f12; have o2 := gz_sh q5; have o3 := gz_sh q8; omega) | (simp only [gz_hd] at *; omega)))] | rw [if_neg (by (/-24-/first | omega | (simp only [gz_hd] at *; omega)))])); rw [e9]; exact ⟨by (/-25-/first | (have o1 := gz_sh f3; omega) | (simp only [gz_hd] at *; omega)), A16⟩⟩)⟩⟩
    · have f18 := gz_hi ((gr_b_0_78 hI))
      refine gv_run 4 true hD (pcₚ := 25) (lvₚ := [(0, .inr (.inr (some 0))), (1, .inl a1)]) (stₚ := [.inl (I 0 78), .inl 2, .inr (.inr (some 0))]) (hₚ := gr_h I J) (C := ((((True ∧ True) ∧ True) ∧ True) ∧ True)) rfl ⟨⟨⟨⟨trivial, trivial⟩, trivial⟩, trivial⟩, trivial⟩ ?_
      obtain ⟨r19, h19, E19, P19⟩ := r_no_p (ws0 := ws0) (tb := tb) hws htb ext I J hI 2 (I 0 78) ⟨by (/-26-/first | omega | (simp only [gz_hd] at *; omega)), by (/-27-/first | omega | (simp only [gz_hd] at *; omega))⟩ ⟨by (/-28-/first | (have o1 := gz_sh f18; omega) | (simp only [gz_hd] at *; omega)), by (/-29-/first | (have o1 := gz_sh f18; omega) | (simp only [gz_hd] at *; omega))⟩ 
      obtain ⟨I20, J21, rfl, hI20, g19, k19, ⟨z19, rfl, q19⟩⟩ := P19
      replace q19 := gz_hi q19
      have FI20 := gr_frt FI g19 rfl rfl
      have FJ21 := gr_fjt FJ k19 rfl rfl
      have t22 := gz_hi (g19 0 71 rfl)
      have t23 := gz_hi (g19 0 72 rfl)
      have t24 := gz_hi (g19 0 73 rfl)
      have t25 := gz_hi (g19 0 69 rfl)
      have A30 := gr_ATp_F x5 g19 k19 rfl
      refine gv_callV hD rfl (As := [.inl 2, .inl (I 0 78)]) (st := []) rfl (by decide) rfl rfl (gr_lV hws rfl) (Nat.le_of_ble_eq_true rfl) (gz_Ev_mono (d := 1) (by decide) E19) ?_
      show gv_X _ _ (28, [(0, .inr (.inr (some 0))), (1, .inl a1)], [.inl z19], gr_sh ++ ext, gr_h I20 J21)
      exact gv_zret hD rfl (by (/-30-/first | (have o1 := gz_sh q19; omega) | (simp only [gz_hd] at *; omega))) ⟨I20, J21, rfl, hI20, FI20, FJ21, ⟨_, rfl, by (/-31-/first | (have o1 := gz_sh q19; omega) | (simp only [gz_hd] at *; omega)), by (/-32-/first | (have o1 := gz_sh q19; omega) | (simp only [gz_hd] at *; omega)), by (/-33-/first | (have o1 := gz_sh f1; have o2 := gz_sh t22; have o3 := gz_sh t24; have o4 := gz_sh t25; omega) | (simp only [gz_hd] at *; omega)), by (/-34-/first | (have o1 := gz_sh t23; have o2 := gz_sh t25; omega) | (simp only [gz_hd] at *; omega)), by (/-35-/first | (have o1 := gz_sh f1; have o2 := gz_sh q5; have o3 := gz_sh t22; have o4 := gz_sh t23; have o5 := gz_sh t24; have o6 := gz_sh t25; omega) | (simp only [gz_hd] at *; omega)), by (/-36-/first | (have o1 := gz_sh q5; have o2 := gz_sh t22; omega) | (simp only [gz_hd] at *; omega)), by (/-37-/first | (have o1 := gz_sh t23; have o2 := gz_sh t24; omega) | (simp only [gz_hd] at *; omega)), by (/-38-/first | (have o1 := gz_sh t25; omega) | (simp only [gz_hd] at *; omega)), by (/-39-/first | (have o1 := gz_sh t24; omega) | (simp only [gz_hd] at *; omega)), by (/-40-/first | (have o1 := gz_sh t23; omega) | (simp only [gz_hd] at *; omega)), by (/-41-/first | (have o1 := gz_sh q19; omega) | (simp only [gz_hd] at *; omega)), by (/-42-/first | (have o1 := gz_sh q19; omega) | (simp only [gz_hd] at *; omega)), (Or.inr ⟨by (/-43-/first | (have o1 := gz_sh q19; omega) | (simp only [gz_hd] at *; omega)), by unfold gs_done; (repeat first | rw [if_pos (by (/-44-/first | omega | (simp only [gz_hd] at *; omega)))] | rw [if_neg (by (/-45-/first | omega | (simp only [gz_hd] at *; omega)))]); exact ⟨by (/-46-/first | (have o1 := gz_sh f18; omega) | (simp only [gz_hd] at *; omega)), by (/-47-/first | (have o1 := gz_sh q19; omega) | (simp only [gz_hd] at *; omega))⟩⟩)⟩⟩
  · refine gv_run 2 true hD (pcₚ := 11) (lvₚ := [(0, .inr (.inr (some 0))), (1, .inl a1)]) (stₚ := [.inl 1, .inr (.inr (some 0))]) (hₚ := gr_h I J) (C := ((True ∧ True) ∧ True)) rfl ⟨⟨trivial, trivial⟩, trivial⟩ ?_
    obtain ⟨r32, h32, E32, P32⟩ := r_no__p (ws0 := ws0) (tb := tb) hws htb ext β N9 p9 I J hI 1 ⟨by (/-48-/first | omega | (simp only [gz_hd] at *; omega)), by (/-49-/first | omega | (simp only [gz_hd] at *; omega))⟩ x5 (by (/-50-/first | omega | (simp only [gz_hd] at *; omega)))
    obtain ⟨I33, J34, rfl, hI33, g32, k32, ⟨z32, rfl, q32⟩⟩ := P32
    replace q32 := gz_hi q32
    have FI33 := gr_frt FI g32 rfl rfl
    have FJ34 := gr_fjt FJ k32 rfl rfl
    have t35 := gz_hi (g32 0 71 rfl)
    have t36 := gz_hi (g32 0 72 rfl)
    have t37 := gz_hi (g32 0 73 rfl)
    have t38 := gz_hi (g32 0 69 rfl)
    have A43 := gr_ATp_F x5 g32 k32 rfl
    refine gv_callV hD rfl (As := [.inl 1]) (st := []) rfl (by decide) rfl rfl (gr_lV hws rfl) (Nat.le_of_ble_eq_true rfl) (gz_Ev_mono (d := 2) (by decide) E32) ?_
    show gv_X _ _ (14, [(0, .inr (.inr (some 0))), (1, .inl a1)], [.inl z32], gr_sh ++ ext, gr_h I33 J34)
    exact gv_zret hD rfl (by (/-51-/first | (have o1 := gz_sh q32; omega) | (simp only [gz_hd] at *; omega))) ⟨I33, J34, rfl, hI33, FI33, FJ34, ⟨_, rfl, by (/-52-/first | (have o1 := gz_sh q32; omega) | (simp only [gz_hd] at *; omega)), by (/-53-/first | (have o1 := gz_sh q32; omega) | (simp only [gz_hd] at *; omega)), by (/-54-/first | (have o1 := gz_sh f1; have o2 := gz_sh t35; have o3 := gz_sh t37; have o4 := gz_sh t38; omega) | (simp only [gz_hd] at *; omega)), by (/-55-/first | (have o1 := gz_sh t36; have o2 := gz_sh t38; omega) | (simp only [gz_hd] at *; omega)), by (/-56-/first | (have o1 := gz_sh f1; have o2 := gz_sh q32; have o3 := gz_sh q5; have o4 := gz_sh t35; have o5 := gz_sh t36; have o6 := gz_sh t37; have o7 := gz_sh t38; omega) | (simp only [gz_hd] at *; omega)), by (/-57-/first | (have o1 := gz_sh q32; have o2 := gz_sh q5; have o3 := gz_sh t35; have o4 := gz_sh t36; have o5 := gz_sh t37; omega) | (simp only [gz_hd] at *; omega)), by (/-58-/first | (have o1 := gz_sh t36; have o2 := gz_sh t37; omega) | (simp only [gz_hd] at *; omega)), by (/-59-/first | (have o1 := gz_sh t38; omega) | (simp only [gz_hd] at *; omega)), by (/-60-/first | (have o1 := gz_sh t37; omega) | (simp only [gz_hd] at *; omega)), by (/-61-/first | (have o1 := gz_sh t36; omega) | (simp only [gz_hd] at *; omega)), by (/-62-/first | (have o1 := gz_sh q32; omega) | (simp only [gz_hd] at *; omega)), by (/-63-/first | (have o1 := gz_sh q32; omega) | (simp only [gz_hd] at *; omega)), (Or.inr ⟨by (/-64-/first | (have o1 := gz_sh q32; omega) | (simp only [gz_hd] at *; omega)), by unfold gs_done; (repeat first | rw [if_pos (by (/-65-/first | omega | (simp only [gz_hd] at *; omega)))] | rw [if_neg (by (/-66-/first | (have o1 := gz_sh q5; omega) | (simp only [gz_hd] at *; omega)))]); exact ⟨by (/-67-/first | (have o1 := gz_sh f2; omega) | (simp only [gz_hd] at *; omega)), by (/-68-/first | (have o1 := gz_sh q32; omega) | (simp only [gz_hd] at *; omega))⟩⟩)⟩⟩
set_option maxHeartbeats 8000000 in
set_option maxRecDepth 100000 in
theorem r_cost_p {ws0 : List Cond} {tb : String → gz_T} (hws : ∀ w ∈ gr_ws, w ∈ ws0) (htb : tb RX13 = gr_T) (ext : gz_Sh) (β : Int → Int) (N9 : Int) (p9 : Int) (I : gr_I) (J : gr_J) (hI : gr_Inv I)   (x0 : I 0 71 = 5 ∨ I 0 73 ≤ I 0 69) (x1 : I 0 72 ≤ I 0 69) (x2 : I 0 71 = 0 ∨ (I 0 72 < I 0 73 ∧ I 0 72 < I 0 69)) (x3 : I 0 71 = 3 → 2 ≤ I 0 73 - I 0 72 ∧ I 0 73 - I 0 72 ≤ 14) (x4 : I 0 72 ≤ I 0 73) (x5 : gr_ATp β N9 p9 I J) (x6 : 0 ≤ p9) (x7 : gr_KW J) : ∃ r hₚ, gz_Ev ws0 tb 11 (yX13_cost, cX13_cost, 1, (some .boolean)) [.inr (.inr (some 0))] (gr_sh ++ ext) (gr_h I J) r (gr_sh ++ ext) hₚ 0 0 ∧ (∃ (Iₚ : gr_I) (Jₚ : gr_J), hₚ = gr_h Iₚ Jₚ ∧ gr_Inv Iₚ ∧ gr_fr [71, 72, 73, 74, 75, 76, 77, 101] [] I Iₚ ∧ gr_fj [71, 72, 73, 74, 75, 76, 77, 101] [] J Jₚ ∧ (∃ z : Int, r = some (.inl z) ∧ 0 ≤ z ∧ z ≤ 1 ∧ (Iₚ 0 71 = 5 ∨ Iₚ 0 73 ≤ Iₚ 0 69) ∧ (Iₚ 0 72 ≤ Iₚ 0 69) ∧ (Iₚ 0 71 = 0 ∨ (Iₚ 0 72 < Iₚ 0 73 ∧ Iₚ 0 72 < Iₚ 0 69)) ∧ (Iₚ 0 71 = 3 → 2 ≤ Iₚ 0 73 - Iₚ 0 72 ∧ Iₚ 0 73 - Iₚ 0 72 ≤ 14) ∧ (Iₚ 0 72 ≤ Iₚ 0 73) ∧ (Iₚ 0 69 = I 0 69) ∧ (I 0 73 ≤ Iₚ 0 73) ∧ (I 0 72 ≤ Iₚ 0 72) ∧ (gs_Or z (0 ≤ (gs_cost β N9 p9) ∧ gr_ATp β N9 (gs_cost β N9 p9) Iₚ Jₚ ∧ Iₚ 0 101 = (gs_prc β N9 p9)) ((gs_cost β N9 p9) < 0 ∧ Iₚ 0 77 = -1 - (gs_cost β N9 p9))))) := by
  have FI : gr_fr [71, 72, 73, 74, 75, 76, 77, 101] [] I I := fun _ _ _ => rfl
  have FJ : gr_fj [71, 72, 73, 74, 75, 76, 77, 101] [] J J := fun _ _ _ => rfl
  have hD : gv_D (gr_E ws0 tb 10 (yX13_cost, cX13_cost, 1, (some .boolean)) kX13_cost) := gq_of oX13_cost
  refine gr_ev (d := 10) (l := kX13_cost) (Po := fun r hₚ => (∃ (Iₚ : gr_I) (Jₚ : gr_J), hₚ = gr_h Iₚ Jₚ ∧ gr_Inv Iₚ ∧ gr_fr [71, 72, 73, 74, 75, 76, 77, 101] [] I Iₚ ∧ gr_fj [71, 72, 73, 74, 75, 76, 77, 101] [] J Jₚ ∧ (∃ z : Int, r = some (.inl z) ∧ 0 ≤ z ∧ z ≤ 1 ∧ (Iₚ 0 71 = 5 ∨ Iₚ 0 73 ≤ Iₚ 0 69) ∧ (Iₚ 0 72 ≤ Iₚ 0 69) ∧ (Iₚ 0 71 = 0 ∨ (Iₚ 0 72 < Iₚ 0 73 ∧ Iₚ 0 72 < Iₚ 0 69)) ∧ (Iₚ 0 71 = 3 → 2 ≤ Iₚ 0 73 - Iₚ 0 72 ∧ Iₚ 0 73 - Iₚ 0 72 ≤ 14) ∧ (Iₚ 0 72 ≤ Iₚ 0 73) ∧ (Iₚ 0 69 = I 0 69) ∧ (I 0 73 ≤ Iₚ 0 73) ∧ (I 0 72 ≤ Iₚ 0 72) ∧ (gs_Or z (0 ≤ (gs_cost β N9 p9) ∧ gr_ATp β N9 (gs_cost β N9 p9) Iₚ Jₚ ∧ Iₚ 0 101 = (gs_prc β N9 p9)) ((gs_cost β N9 p9) < 0 ∧ Iₚ 0 77 = -1 - (gs_cost β N9 p9)))))) htb rfl (Nat.le_of_ble_eq_true rfl) ?_
  have tAT := gr_ATp_l x5
  have KW := x7
  have f1 := gz_hi ((gr_b_0_71 hI))
  have f3 := gz_hi ((gr_b_0_73 hI))
  refine gv_run 3 true hD (pcₚ := 5) (lvₚ := [(0, .inr (.inr (some 0)))]) (stₚ := []) (hₚ := gz_up (gr_h I J) 0 101 (.inl 0)) (C := (((True ∧ True) ∧ True) ∧ True)) rfl ⟨⟨⟨trivial, trivial⟩, trivial⟩, trivial⟩ ?_
  refine gr_st hI FI rfl rfl ⟨⟨by show 0 ≤ _; (/-0-/first | omega | (simp only [gz_hd] at *; omega)), by show _ ≤ 10000; (/-1-/first | omega | (simp only [gz_hd] at *; omega))⟩, trivial⟩ (fun I6 hI6 FI6 q7 p7 => ?_)
  have t8 := gz_hi (p7 0 71 (by decide))
  have t9 := gz_hi (p7 0 72 (by decide))
  have t10 := gz_hi (p7 0 73 (by decide))
  have t11 := gz_hi (p7 0 69 (by decide))
  have A17 := gr_ATp_sf x5 p7 rfl
  refine gv_run 3 true hD (pcₚ := 10) (lvₚ := [(0, .inr (.inr (some 0)))]) (stₚ := [.inr (.inl (J 0 92)), .inr (.inr (some 0))]) (hₚ := gr_h I6 J) (C := (((True ∧ True) ∧ True) ∧ True)) rfl ⟨⟨⟨trivial, trivial⟩, trivial⟩, trivial⟩ ?_
  obtain ⟨r18, h18, E18, P18⟩ := r_is_p (ws0 := ws0) (tb := tb) hws htb ext β N9 p9 I6 J hI6 (J 0 92)  A17 (by (/-2-/first | omega | (simp only [gz_hd] at *; omega)))
  obtain ⟨rfl, ⟨z18, rfl, q18⟩⟩ := P18
  replace q18 := gz_hi q18
  have t19 := gz_hi ((show gs_kw β N9 p9 (J 0 92) = gs_kw β N9 p9 (gs_W 92) from by rw [show J 0 92 = gs_W 92 from KW 92 (by decide) (by decide)]))
  refine gv_callV hD rfl (As := [.inr (.inl (J 0 92))]) (st := []) rfl (by decide) rfl rfl (gr_lV hws rfl) (Nat.le_of_ble_eq_true rfl) (gz_Ev_mono (d := 1) (by decide) E18) ?_
  show gv_X _ _ (13, [(0, .inr (.inr (some 0)))], [.inl z18], gr_sh ++ ext, gr_h I6 J)
  refine gv_if_ne (t := 18) hD rfl rfl ⟨by (/-3-/first | (have o1 := gz_sh q18; omega) | (simp only [gz_hd] at *; omega)), by (/-4-/first | (have o1 := gz_sh q18; omega) | (simp only [gz_hd] at *; omega))⟩ (fun c20 => ?_) (fun c20 => ?_)
  · refine gv_run 1 true hD (pcₚ := 19) (lvₚ := [(0, .inr (.inr (some 0)))]) (stₚ := [.inr (.inr (some 0))]) (hₚ := gr_h I6 J) (C := (True ∧ True)) rfl ⟨trivial, trivial⟩ ?_
    obtain ⟨r21, h21, E21, P21⟩ := r_next_p (ws0 := ws0) (tb := tb) hws htb ext β N9 I6 J hI6   (by (/-5-/first | (have o1 := gz_sh q18; have o2 := gz_sh t10; have o3 := gz_sh t11; have o4 := gz_sh t19; have o5 := gz_sh t8; omega) | (simp only [gz_hd] at *; omega))) A17.1.1 A17.1.2
    obtain ⟨I22, J23, rfl, hI22, g21, k21, ⟨rfl, q21⟩⟩ := P21
    replace q21 := gz_hi q21
    have FI22 := gr_frt FI6 g21 rfl rfl
    have FJ23 := gr_fjt FJ k21 rfl rfl
    have f26 := gz_hi ((gr_b_0_71 hI22))
    have f27 := gz_hi ((gr_b_0_72 hI22))
    have f28 := gz_hi ((gr_b_0_73 hI22))
    have A31 := gr_ATp_nx A17 (gz_sh q21).2.2.2.2.2
    have t32 := gz_hi (gr_ATp_l A31)
    refine gv_callV hD rfl (As := []) (st := []) rfl (by decide) rfl rfl (gr_lV hws rfl) (Nat.le_of_ble_eq_true rfl) (gz_Ev_mono (d := 10) (by decide) E21) ?_
    show gv_X _ _ (22, [(0, .inr (.inr (some 0)))], [], gr_sh ++ ext, gr_h I22 J23)
    refine gv_run 3 true hD (pcₚ := 27) (lvₚ := [(0, .inr (.inr (some 0)))]) (stₚ := [.inl 2, .inl (I22 0 71)]) (hₚ := gr_h I22 J23) (C := (((True ∧ True) ∧ True) ∧ True)) rfl ⟨⟨⟨trivial, trivial⟩, trivial⟩, trivial⟩ ?_
    refine gv_icmp_eq (t := 36) hD rfl rfl ⟨⟨by (/-6-/first | (have o1 := gz_sh f26; omega) | (simp only [gz_hd] at *; omega)), by (/-7-/first | (have o1 := gz_sh f26; omega) | (simp only [gz_hd] at *; omega))⟩, ⟨by (/-8-/first | omega | (simp only [gz_hd] at *; omega)), by (/-9-/first | omega | (simp only [gz_hd] at *; omega))⟩⟩ (fun c34 => ?_) (fun c34 => ?_)
    · have t35 := gz_hi (gr_ATp_k A31 (c := 2) ⟨by (/-10-/first | omega | (simp only [gz_hd] at *; omega)), by (/-11-/first | omega | (simp only [gz_hd] at *; omega))⟩)
      have t36 := gz_hi ((fun h : gs_T β N9 (gs_X β N9 p9) = 2 => gr_ATp_n A31 h))
      have f37 := gz_hi ((gr_b_0_74 hI22))
      refine gv_run 3 true hD (pcₚ := 43) (lvₚ := [(0, .inr (.inr (some 0)))]) (stₚ := [.inl 10000, .inl (I22 0 74)]) (hₚ := gr_h I22 J23) (C := (((True ∧ True) ∧ True) ∧ True)) rfl ⟨⟨⟨trivial, trivial⟩, trivial⟩, trivial⟩ ?_
      refine gv_icmp_le (t := 52) hD rfl rfl ⟨⟨by (/-12-/first | (have o1 := gz_sh f37; omega) | (simp only [gz_hd] at *; omega)), by (/-13-/first | (have o1 := gz_sh f37; omega) | (simp only [gz_hd] at *; omega))⟩, ⟨by (/-14-/first | omega | (simp only [gz_hd] at *; omega)), by (/-15-/first | omega | (simp only [gz_hd] at *; omega))⟩⟩ (fun c38 => ?_) (fun c38 => ?_)
      · have f39 := gz_hi ((gr_b_0_74 hI22))
        refine gv_run 3 true hD (pcₚ := 57) (lvₚ := [(0, .inr (.inr (some 0)))]) (stₚ := [.inl (I22 0 74), .inr (.inr (some 0))]) (hₚ := gr_h I22 J23) (C := (((True ∧ True) ∧ True) ∧ True)) rfl ⟨⟨⟨trivial, trivial⟩, trivial⟩, trivial⟩ ?_
        refine gv_run 1 true hD (pcₚ := 60) (lvₚ := [(0, .inr (.inr (some 0)))]) (stₚ := []) (hₚ := gz_up (gr_h I22 J23) 0 101 (.inl (I22 0 74))) (C := (True ∧ True)) rfl ⟨trivial, trivial⟩ ?_
        refine gr_st hI22 FI22 rfl rfl ⟨⟨by show 0 ≤ _; (/-16-/first | (have o1 := gz_sh f37; omega) | (simp only [gz_hd] at *; omega)), by show _ ≤ 10000; (/-17-/first | omega | (simp only [gz_hd] at *; omega))⟩, trivial⟩ (fun I40 hI40 FI40 q41 p41 => ?_)
        have t43 := gz_hi (p41 0 72 (by decide))
        have t44 := gz_hi (p41 0 73 (by decide))
        have t45 := gz_hi (p41 0 69 (by decide))
        have A51 := gr_ATp_sf A31 p41 rfl
        refine gv_run 1 true hD (pcₚ := 61) (lvₚ := [(0, .inr (.inr (some 0)))]) (stₚ := [.inr (.inr (some 0))]) (hₚ := gr_h I40 J23) (C := (True ∧ True)) rfl ⟨trivial, trivial⟩ ?_
        obtain ⟨r52, h52, E52, P52⟩ := r_next_p (ws0 := ws0) (tb := tb) hws htb ext β N9 I40 J23 hI40   (by (/-18-/first | (have o1 := gz_sh q21; have o2 := gz_sh t44; have o3 := gz_sh t45; omega) | (simp only [gz_hd] at *; omega))) A51.1.1 A51.1.2
        obtain ⟨I53, J54, rfl, hI53, g52, k52, ⟨rfl, q52⟩⟩ := P52
        replace q52 := gz_hi q52
        have FI53 := gr_frt FI40 g52 rfl rfl
        have FJ54 := gr_fjt FJ23 k52 rfl rfl
        have t56 := gz_hi (g52 0 101 rfl)
        have f57 := gz_hi ((gr_b_0_71 hI53))
        have A62 := gr_ATp_nx A51 (gz_sh q52).2.2.2.2.2
        have t63 := gz_hi (gr_ATp_l A62)
        refine gv_callV hD rfl (As := []) (st := []) rfl (by decide) rfl rfl (gr_lV hws rfl) (Nat.le_of_ble_eq_true rfl) (gz_Ev_mono (d := 10) (by decide) E52) ?_
        show gv_X _ _ (64, [(0, .inr (.inr (some 0)))], [], gr_sh ++ ext, gr_h I53 J54)
        refine gv_run 1 true hD (pcₚ := 65) (lvₚ := [(0, .inr (.inr (some 0)))]) (stₚ := [.inl 1]) (hₚ := gr_h I53 J54) (C := (True ∧ True)) rfl ⟨trivial, trivial⟩ ?_
        exact gv_zret hD rfl (by (/-19-/first | omega | (simp only [gz_hd] at *; omega))) ⟨I53, J54, rfl, hI53, FI53, FJ54, ⟨_, rfl, by (/-20-/first | omega | (simp only [gz_hd] at *; omega)), by (/-21-/first | omega | (simp only [gz_hd] at *; omega)), by (/-22-/first | (have o1 := gz_sh f57; have o2 := gz_sh q52; omega) | (simp only [gz_hd] at *; omega)), by (/-23-/first | (have o1 := gz_sh q52; omega) | (simp only [gz_hd] at *; omega)), by (/-24-/first | (have o1 := gz_sh f57; have o2 := gz_sh q52; have o3 := gz_sh t63; omega) | (simp only [gz_hd] at *; omega)), by (/-25-/first | (have o1 := gz_sh q52; have o2 := gz_sh t63; omega) | (simp only [gz_hd] at *; omega)), by (/-26-/first | (have o1 := gz_sh q52; omega) | (simp only [gz_hd] at *; omega)), by (/-27-/first | (have o1 := gz_sh q21; have o2 := gz_sh q52; have o3 := gz_sh t11; have o4 := gz_sh t45; omega) | (simp only [gz_hd] at *; omega)), by (/-28-/first | (have o1 := gz_sh q21; have o2 := gz_sh q52; have o3 := gz_sh t10; have o4 := gz_sh t44; omega) | (simp only [gz_hd] at *; omega)), by (/-29-/first | (have o1 := gz_sh q21; have o2 := gz_sh q52; have o3 := gz_sh t10; have o4 := gz_sh t44; omega) | (simp only [gz_hd] at *; omega)), (Or.inl ⟨by (/-30-/first | omega | (simp only [gz_hd] at *; omega)), by have e9 : (gs_cost β N9 p9) = (gs_X β N9 (gs_X β N9 p9)) := (by unfold gs_cost; (repeat first | rw [if_pos (by (/-31-/first | (have o1 := gz_sh f57; have o2 := gz_sh q52; have o3 := gz_sh t35; have o4 := gz_sh t36; omega) | (simp only [gz_hd] at *; omega)))] | rw [if_neg (by (/-32-/first | (have o1 := gz_sh f37; have o2 := gz_sh f57; have o3 := gz_sh q52; have o4 := gz_sh t35; have o5 := gz_sh t36; have o6 := gz_sh t56; omega) | (simp only [gz_hd] at *; omega)))])); have e8 : I53 0 101 = (gs_prc β N9 p9) := (by unfold gs_prc; (repeat first | rw [if_pos (by (/-33-/first | (have o1 := gz_sh q18; have o2 := gz_sh t19; omega) | (simp only [gz_hd] at *; omega)))] | rw [if_neg (by (/-34-/first | omega | (simp only [gz_hd] at *; omega)))]); (/-35-/first | (have o1 := gz_sh f57; have o2 := gz_sh q52; have o3 := gz_sh t35; have o4 := gz_sh t36; have o5 := gz_sh t56; omega) | (simp only [gz_hd] at *; omega))); rw [e9]; exact ⟨by (/-36-/first | (have o1 := gz_sh f28; have o2 := gz_sh t32; omega) | (simp only [gz_hd] at *; omega)), A62, e8⟩⟩)⟩⟩
      · refine gv_run 2 true hD (pcₚ := 48) (lvₚ := [(0, .inr (.inr (some 0)))]) (stₚ := [.inl 5, .inr (.inr (some 0))]) (hₚ := gr_h I22 J23) (C := ((True ∧ True) ∧ True)) rfl ⟨⟨trivial, trivial⟩, trivial⟩ ?_
        obtain ⟨r64, h64, E64, P64⟩ := r_no__p (ws0 := ws0) (tb := tb) hws htb ext β N9 (gs_X β N9 p9) I22 J23 hI22 5 ⟨by (/-37-/first | omega | (simp only [gz_hd] at *; omega)), by (/-38-/first | omega | (simp only [gz_hd] at *; omega))⟩ A31 (by (/-39-/first | (have o1 := gz_sh f3; omega) | (simp only [gz_hd] at *; omega)))
        obtain ⟨I65, J66, rfl, hI65, g64, k64, ⟨z64, rfl, q64⟩⟩ := P64
        replace q64 := gz_hi q64
        have FI65 := gr_frt FI22 g64 rfl rfl
        have FJ66 := gr_fjt FJ23 k64 rfl rfl
        have t67 := gz_hi (g64 0 71 rfl)
        have t68 := gz_hi (g64 0 72 rfl)
        have t69 := gz_hi (g64 0 73 rfl)
        have t70 := gz_hi (g64 0 69 rfl)
        have A77 := gr_ATp_F A31 g64 k64 rfl
        refine gv_callV hD rfl (As := [.inl 5]) (st := []) rfl (by decide) rfl rfl (gr_lV hws rfl) (Nat.le_of_ble_eq_true rfl) (gz_Ev_mono (d := 2) (by decide) E64) ?_
        show gv_X _ _ (51, [(0, .inr (.inr (some 0)))], [.inl z64], gr_sh ++ ext, gr_h I65 J66)
        exact gv_zret hD rfl (by (/-40-/first | (have o1 := gz_sh q64; omega) | (simp only [gz_hd] at *; omega))) ⟨I65, J66, rfl, hI65, FI65, FJ66, ⟨_, rfl, by (/-41-/first | (have o1 := gz_sh q64; omega) | (simp only [gz_hd] at *; omega)), by (/-42-/first | (have o1 := gz_sh q64; omega) | (simp only [gz_hd] at *; omega)), by (/-43-/first | (have o1 := gz_sh q21; have o2 := gz_sh t69; have o3 := gz_sh t70; omega) | (simp only [gz_hd] at *; omega)), by (/-44-/first | (have o1 := gz_sh q21; have o2 := gz_sh t68; have o3 := gz_sh t70; omega) | (simp only [gz_hd] at *; omega)), by (/-45-/first | (have o1 := gz_sh q21; have o2 := gz_sh t68; have o3 := gz_sh t69; have o4 := gz_sh t70; omega) | (simp only [gz_hd] at *; omega)), by (/-46-/first | (have o1 := gz_sh t67; omega) | (simp only [gz_hd] at *; omega)), by (/-47-/first | (have o1 := gz_sh q21; have o2 := gz_sh t68; have o3 := gz_sh t69; omega) | (simp only [gz_hd] at *; omega)), by (/-48-/first | (have o1 := gz_sh q21; have o2 := gz_sh t11; have o3 := gz_sh t70; omega) | (simp only [gz_hd] at *; omega)), by (/-49-/first | (have o1 := gz_sh q21; have o2 := gz_sh t10; have o3 := gz_sh t69; omega) | (simp only [gz_hd] at *; omega)), by (/-50-/first | (have o1 := gz_sh q21; have o2 := gz_sh t10; have o3 := gz_sh t68; omega) | (simp only [gz_hd] at *; omega)), (Or.inr ⟨by (/-51-/first | (have o1 := gz_sh q64; omega) | (simp only [gz_hd] at *; omega)), by unfold gs_cost; (repeat first | rw [if_pos (by (/-52-/first | (have o1 := gz_sh f37; have o2 := gz_sh t35; have o3 := gz_sh t36; omega) | (simp only [gz_hd] at *; omega)))] | rw [if_neg (by (/-53-/first | omega | (simp only [gz_hd] at *; omega)))]); exact ⟨by (/-54-/first | (have o1 := gz_sh f27; have o2 := gz_sh t32; omega) | (simp only [gz_hd] at *; omega)), by (/-55-/first | (have o1 := gz_sh q64; omega) | (simp only [gz_hd] at *; omega))⟩⟩)⟩⟩
    · have t79 := gz_hi (gr_ATp_k A31 (c := 2) ⟨by (/-56-/first | omega | (simp only [gz_hd] at *; omega)), by (/-57-/first | omega | (simp only [gz_hd] at *; omega))⟩)
      refine gv_run 2 true hD (pcₚ := 32) (lvₚ := [(0, .inr (.inr (some 0)))]) (stₚ := [.inl 1, .inr (.inr (some 0))]) (hₚ := gr_h I22 J23) (C := ((True ∧ True) ∧ True)) rfl ⟨⟨trivial, trivial⟩, trivial⟩ ?_
      obtain ⟨r80, h80, E80, P80⟩ := r_no__p (ws0 := ws0) (tb := tb) hws htb ext β N9 (gs_X β N9 p9) I22 J23 hI22 1 ⟨by (/-58-/first | omega | (simp only [gz_hd] at *; omega)), by (/-59-/first | omega | (simp only [gz_hd] at *; omega))⟩ A31 (by (/-60-/first | (have o1 := gz_sh f3; omega) | (simp only [gz_hd] at *; omega)))
      obtain ⟨I81, J82, rfl, hI81, g80, k80, ⟨z80, rfl, q80⟩⟩ := P80
      replace q80 := gz_hi q80
      have FI81 := gr_frt FI22 g80 rfl rfl
      have FJ82 := gr_fjt FJ23 k80 rfl rfl
      have t83 := gz_hi (g80 0 71 rfl)
      have t84 := gz_hi (g80 0 72 rfl)
      have t85 := gz_hi (g80 0 73 rfl)
      have t86 := gz_hi (g80 0 69 rfl)
      have A93 := gr_ATp_F A31 g80 k80 rfl
      refine gv_callV hD rfl (As := [.inl 1]) (st := []) rfl (by decide) rfl rfl (gr_lV hws rfl) (Nat.le_of_ble_eq_true rfl) (gz_Ev_mono (d := 2) (by decide) E80) ?_
      show gv_X _ _ (35, [(0, .inr (.inr (some 0)))], [.inl z80], gr_sh ++ ext, gr_h I81 J82)
      exact gv_zret hD rfl (by (/-61-/first | (have o1 := gz_sh q80; omega) | (simp only [gz_hd] at *; omega))) ⟨I81, J82, rfl, hI81, FI81, FJ82, ⟨_, rfl, by (/-62-/first | (have o1 := gz_sh q80; omega) | (simp only [gz_hd] at *; omega)), by (/-63-/first | (have o1 := gz_sh q80; omega) | (simp only [gz_hd] at *; omega)), by (/-64-/first | (have o1 := gz_sh f26; have o2 := gz_sh q21; have o3 := gz_sh t83; have o4 := gz_sh t85; have o5 := gz_sh t86; omega) | (simp only [gz_hd] at *; omega)), by (/-65-/first | (have o1 := gz_sh q21; have o2 := gz_sh t84; have o3 := gz_sh t86; omega) | (simp only [gz_hd] at *; omega)), by (/-66-/first | (have o1 := gz_sh f26; have o2 := gz_sh q21; have o3 := gz_sh q80; have o4 := gz_sh t32; have o5 := gz_sh t79; have o6 := gz_sh t83; have o7 := gz_sh t84; have o8 := gz_sh t85; have o9 := gz_sh t86; omega) | (simp only [gz_hd] at *; omega)), by (/-67-/first | (have o1 := gz_sh q21; have o2 := gz_sh q80; have o3 := gz_sh t32; have o4 := gz_sh t79; have o5 := gz_sh t83; have o6 := gz_sh t84; have o7 := gz_sh t85; omega) | (simp only [gz_hd] at *; omega)), by (/-68-/first | (have o1 := gz_sh q21; have o2 := gz_sh t84; have o3 := gz_sh t85; omega) | (simp only [gz_hd] at *; omega)), by (/-69-/first | (have o1 := gz_sh q21; have o2 := gz_sh t11; have o3 := gz_sh t86; omega) | (simp only [gz_hd] at *; omega)), by (/-70-/first | (have o1 := gz_sh q21; have o2 := gz_sh t10; have o3 := gz_sh t85; omega) | (simp only [gz_hd] at *; omega)), by (/-71-/first | (have o1 := gz_sh q21; have o2 := gz_sh t10; have o3 := gz_sh t84; omega) | (simp only [gz_hd] at *; omega)), (Or.inr ⟨by (/-72-/first | (have o1 := gz_sh q80; omega) | (simp only [gz_hd] at *; omega)), by unfold gs_cost; (repeat first | rw [if_pos (by (/-73-/first | (have o1 := gz_sh q18; have o2 := gz_sh t19; omega) | (simp only [gz_hd] at *; omega)))] | rw [if_neg (by (/-74-/first | (have o1 := gz_sh t79; have o2 := gz_sh t83; omega) | (simp only [gz_hd] at *; omega)))]); exact ⟨by (/-75-/first | (have o1 := gz_sh f27; have o2 := gz_sh t32; omega) | (simp only [gz_hd] at *; omega)), by (/-76-/first | (have o1 := gz_sh q80; omega) | (simp only [gz_hd] at *; omega))⟩⟩)⟩⟩
  · refine gv_run 1 true hD (pcₚ := 17) (lvₚ := [(0, .inr (.inr (some 0)))]) (stₚ := [.inl 1]) (hₚ := gr_h I6 J) (C := (True ∧ True)) rfl ⟨trivial, trivial⟩ ?_
    exact gv_zret hD rfl (by (/-77-/first | omega | (simp only [gz_hd] at *; omega))) ⟨I6, J, rfl, hI6, FI6, FJ, ⟨_, rfl, by (/-78-/first | omega | (simp only [gz_hd] at *; omega)), by (/-79-/first | omega | (simp only [gz_hd] at *; omega)), by (/-80-/first | (have o1 := gz_sh f1; have o2 := gz_sh t10; have o3 := gz_sh t11; have o4 := gz_sh t8; omega) | (simp only [gz_hd] at *; omega)), by (/-81-/first | (have o1 := gz_sh t11; have o2 := gz_sh t9; omega) | (simp only [gz_hd] at *; omega)), by (/-82-/first | (have o1 := gz_sh f1; have o2 := gz_sh q18; have o3 := gz_sh t10; have o4 := gz_sh t11; have o5 := gz_sh t8; have o6 := gz_sh t9; omega) | (simp only [gz_hd] at *; omega)), by (/-83-/first | (have o1 := gz_sh q18; have o2 := gz_sh t10; have o3 := gz_sh t8; have o4 := gz_sh t9; omega) | (simp only [gz_hd] at *; omega)), by (/-84-/first | (have o1 := gz_sh t10; have o2 := gz_sh t9; omega) | (simp only [gz_hd] at *; omega)), by (/-85-/first | (have o1 := gz_sh t11; omega) | (simp only [gz_hd] at *; omega)), by (/-86-/first | (have o1 := gz_sh t10; omega) | (simp only [gz_hd] at *; omega)), by (/-87-/first | (have o1 := gz_sh t9; omega) | (simp only [gz_hd] at *; omega)), (Or.inl ⟨by (/-88-/first | omega | (simp only [gz_hd] at *; omega)), by have e9 : (gs_cost β N9 p9) = p9 := (by unfold gs_cost; (repeat first | rw [if_pos (by (/-89-/first | omega | (simp only [gz_hd] at *; omega)))] | rw [if_neg (by (/-90-/first | (have o1 := gz_sh q18; have o2 := gz_sh t19; omega) | (simp only [gz_hd] at *; omega)))])); have e8 : I6 0 101 = (gs_prc β N9 p9) := (by unfold gs_prc; (repeat first | rw [if_pos (by (/-91-/first | omega | (simp only [gz_hd] at *; omega)))] | rw [if_neg (by (/-92-/first | (have o1 := gz_sh q18; have o2 := gz_sh t19; omega) | (simp only [gz_hd] at *; omega)))]); (/-93-/first | omega | (simp only [gz_hd] at *; omega))); rw [e9]; exact ⟨by (/-94-/first | omega | (simp only [gz_hd] at *; omega)), A17, e8⟩⟩)⟩⟩
