theorem gr_GH_F {a b S : Int} {I I' : gr_I} {fs as : List Nat} (h : gr_GH a b S I) (F : gr_fr fs as I I') (hr : (!(as.elem 134) && !(as.elem 135) && !(as.elem 136) && !(as.elem 137)) = true := by rfl) : gr_GH a b S I' := by
  simp only [Bool.and_eq_true, Bool.not_eq_true'] at hr
  obtain ⟨⟨⟨a1, a2⟩, a3⟩, a4⟩ := hr
  exact gr_GH_c h (fun m _ _ => ⟨⟨F _ _ a1, F _ _ a2, F _ _ a3⟩, F _ _ a4, F _ _ a4⟩)
set_option maxHeartbeats 8000000 in
set_option maxRecDepth 100000 in
theorem r_outApplied {ws0 : List Cond} {tb : String → gz_T} (hws : ∀ w ∈ gr_ws, w ∈ ws0) (htb : tb RX13 = gr_T) (ext : gz_Sh) (a9 : Int) (b9 : Int) (S9 : Int) (nr : Nat) (ihR : ∀ (I : gr_I) (J : gr_J) (hI : gr_Inv I) (a1 : Int) (a2 : Int) (ha1 : 0 ≤ a1 ∧ a1 ≤ 1299) (ha2 : 0 ≤ a2 ∧ a2 ≤ 300) (x0 : gr_GH a9 b9 S9 I) (x1 : a9 ≤ a1) (x2 : a1 < b9) (x3 : I 137 (5000 + (Int.toNat a1)) ≤ a2) (x4 : a2 + I 137 (Int.toNat a1) ≤ 300) (_ : (I 137 (Int.toNat a1)).toNat < nr), ∃ r h', gz_Ev ws0 tb (6 + 2 * nr) (yX13_outTerm, cX13_outTerm, 3, none) [.inr (.inr (some 0)), .inl a1, .inl a2] (gr_sh ++ ext) (gr_h I J) r (gr_sh ++ ext) h' 0 0 ∧ (∃ (I' : gr_I) (J' : gr_J), h' = gr_h I' J' ∧ gr_Inv I' ∧ gr_fr [70] [58] I I' ∧ gr_fj [70] [58] J J' ∧ r = none)) (ihA : ∀ (I : gr_I) (J : gr_J) (hI : gr_Inv I) (a1 : Int) (a2 : Int) (ha1 : 0 ≤ a1 ∧ a1 ≤ 1299) (ha2 : 0 ≤ a2 ∧ a2 ≤ 300) (x0 : gr_GH a9 b9 S9 I) (x1 : a9 ≤ a1) (x2 : a1 < b9) (x3 : I 137 (5000 + (Int.toNat a1)) ≤ a2) (x4 : a2 + I 137 (Int.toNat a1) ≤ 300) (x5 : I 134 (Int.toNat a1) = 4) (_ : (I 137 (Int.toNat a1)).toNat < nr), ∃ r h', gz_Ev ws0 tb (6 + 2 * nr) (yX13_outApplied, cX13_outApplied, 4, none) [.inr (.inr (some 0)), .inl a1, .inl a2] (gr_sh ++ ext) (gr_h I J) r (gr_sh ++ ext) h' 0 0 ∧ (∃ (I' : gr_I) (J' : gr_J), h' = gr_h I' J' ∧ gr_Inv I' ∧ gr_fr [70] [58] I I' ∧ gr_fj [70] [58] J J' ∧ r = none)) (I : gr_I) (J : gr_J) (hI : gr_Inv I) (a1 : Int) (a2 : Int) (ha1 : 0 ≤ a1 ∧ a1 ≤ 1299) (ha2 : 0 ≤ a2 ∧ a2 ≤ 300) (x0 : gr_GH a9 b9 S9 I) (x1 : a9 ≤ a1) (x2 : a1 < b9) (x3 : I 137 (5000 + (Int.toNat a1)) ≤ a2) (x4 : a2 + I 137 (Int.toNat a1) ≤ 300) (x5 : I 134 (Int.toNat a1) = 4) (hnr : (I 137 (Int.toNat a1)).toNat < nr + 1) : ∃ r h', gz_Ev ws0 tb (6 + 2 * nr + 1) (yX13_outApplied, cX13_outApplied, 4, none) [.inr (.inr (some 0)), .inl a1, .inl a2] (gr_sh ++ ext) (gr_h I J) r (gr_sh ++ ext) h' 0 0 ∧ (∃ (I' : gr_I) (J' : gr_J), h' = gr_h I' J' ∧ gr_Inv I' ∧ gr_fr [70] [58] I I' ∧ gr_fj [70] [58] J J' ∧ r = none) := by
  have FI : gr_fr [70] [58] I I := fun _ _ _ => rfl
  have FJ : gr_fj [70] [58] J J := fun _ _ _ => rfl
  have hD : gv_D (gr_E ws0 tb (6 + 2 * nr) (yX13_outApplied, cX13_outApplied, 4, none) kX13_outApplied) := gq_of oX13_outApplied
  refine gr_ev (d := (6 + 2 * nr)) (l := kX13_outApplied) (Po := fun r h' => (∃ (I' : gr_I) (J' : gr_J), h' = gr_h I' J' ∧ gr_Inv I' ∧ gr_fr [70] [58] I I' ∧ gr_fj [70] [58] J J' ∧ r = none)) htb rfl (Nat.le_of_ble_eq_true rfl) ?_
  have L74 : ∀ (I1 : gr_I) (J2 : gr_J) , gr_Inv I1 → gr_fr [70] [58] I I1 → gr_fj [70] [58] J J2 → ((0 ≤ a1 ∧ a1 ≤ 1299) ∧ (0 ≤ a2 ∧ a2 ≤ 300)) → gv_X (gr_E ws0 tb (6 + 2 * nr) (yX13_outApplied, cX13_outApplied, 4, none) kX13_outApplied) (gv_Q cX13_outApplied none (gr_sh ++ ext) (fun r h' => (∃ (I' : gr_I) (J' : gr_J), h' = gr_h I' J' ∧ gr_Inv I' ∧ gr_fr [70] [58] I I' ∧ gr_fj [70] [58] J J' ∧ r = none))) (74, [(0, .inr (.inr (some 0))), (1, .inl a1), (2, .inl a2)], [], gr_sh ++ ext, gr_h I1 J2) := by
    intro I1 J2 hI1 FI1 FJ2 m_3
    obtain ⟨ha1_3, ha2_3⟩ := m_3
    have t4 := x0.1
    have t5 := gr_GH_b x0 (x := a1) ⟨by exact gz_m 0 (by omega), by exact gz_m 1 (by omega)⟩
    have t6 := gr_GH_4 x0 (x := a1) ⟨by exact gz_m 2 (by omega), by exact gz_m 3 (by omega)⟩ (by exact gz_m 4 (by omega))
    have f7 := (gr_b_136 hI1 (Int.toNat a1))
    refine gv_run 5 true hD (pc' := 81) (lv' := [(0, .inr (.inr (some 0))), (1, .inl a1), (2, .inl a2)]) (st' := [.inl (I1 136 (Int.toNat a1)), .inr (.inr (some 0))]) (h' := gr_h I1 J2) (C := (((((True ∧ True) ∧ True) ∧ True) ∧ True) ∧ (0 ≤ a1 ∧ a1 < ((2000 : Nat) : Int)))) rfl ⟨⟨⟨⟨⟨trivial, trivial⟩, trivial⟩, trivial⟩, trivial⟩, ⟨by exact gz_m 5 (by omega), by exact gz_m 6 (by omega)⟩⟩ ?_
    rw [FI1 136 (Int.toNat a1) rfl]
    have f8 := (gr_b_136 hI (Int.toNat a1))
    refine gv_run 1 true hD (pc' := 82) (lv' := [(0, .inr (.inr (some 0))), (1, .inl a1), (2, .inl a2)]) (st' := [.inl a2, .inl (I 136 (Int.toNat a1)), .inr (.inr (some 0))]) (h' := gr_h I1 J2) (C := (True ∧ True)) rfl ⟨trivial, trivial⟩ ?_
    have t9 := FI1 137 (Int.toNat ((I 136 (Int.toNat a1)))) rfl
    obtain ⟨r10, h10, E10, P10⟩ := ihR I1 J2 hI1 ((I 136 (Int.toNat a1))) a2 ⟨by exact gz_m 7 (by omega), by exact gz_m 8 (by omega)⟩ ⟨by exact gz_m 9 (by omega), by exact gz_m 10 (by omega)⟩ (gr_GH_F x0 FI1) (by exact gz_m 11 (by omega)) (by exact gz_m 12 (by omega)) (by rw [FI1 137 _ rfl]; exact gz_m 13 (by omega)) (by rw [FI1 137 _ rfl]; exact gz_m 14 (by omega)) (by exact gz_m 15 (by omega))
    obtain ⟨I11, J12, rfl, hI11, g10, k10, rfl⟩ := P10
    have FI11 := gr_frt FI1 g10 rfl rfl
    have FJ12 := gr_fjt FJ2 k10 rfl rfl
    refine gv_callV hD rfl (As := [.inl (I 136 (Int.toNat a1)), .inl a2]) (st := []) rfl (by decide) rfl rfl (gr_lV hws rfl) (Nat.le_of_ble_eq_true rfl) (gz_Ev_mono (d := (6 + 2 * nr)) (Nat.le_refl _) E10) ?_
    show gv_X _ _ (85, [(0, .inr (.inr (some 0))), (1, .inl a1), (2, .inl a2)], [], gr_sh ++ ext, gr_h I11 J12)
    exact gv_vret hD rfl ⟨I11, J12, rfl, hI11, FI11, FJ12, rfl⟩
  have L47 : ∀ (I13 : gr_I) (J14 : gr_J) (v3_15 : Int), gr_Inv I13 → gr_fr [70] [58] I I13 → gr_fj [70] [58] J J14 → ((0 ≤ a1 ∧ a1 ≤ 1299) ∧ (0 ≤ a2 ∧ a2 ≤ 300) ∧ (0 ≤ v3_15 ∧ v3_15 ≤ 1299) ∧ (v3_15 = I 135 (Int.toNat a1))) → gv_X (gr_E ws0 tb (6 + 2 * nr) (yX13_outApplied, cX13_outApplied, 4, none) kX13_outApplied) (gv_Q cX13_outApplied none (gr_sh ++ ext) (fun r h' => (∃ (I' : gr_I) (J' : gr_J), h' = gr_h I' J' ∧ gr_Inv I' ∧ gr_fr [70] [58] I I' ∧ gr_fj [70] [58] J J' ∧ r = none))) (47, [(0, .inr (.inr (some 0))), (1, .inl a1), (2, .inl a2), (3, .inl v3_15)], [], gr_sh ++ ext, gr_h I13 J14) := by
    intro I13 J14 v3_15 hI13 FI13 FJ14 m_15
    obtain ⟨ha1_15, ha2_15, hv3_15, e0_15⟩ := m_15
    have L68 : ∀ (I16 : gr_I) (J17 : gr_J) , gr_Inv I16 → gr_fr [70] [58] I I16 → gr_fj [70] [58] J J17 → ((0 ≤ a1 ∧ a1 ≤ 1299) ∧ (0 ≤ a2 ∧ a2 ≤ 300)) → gv_X (gr_E ws0 tb (6 + 2 * nr) (yX13_outApplied, cX13_outApplied, 4, none) kX13_outApplied) (gv_Q cX13_outApplied none (gr_sh ++ ext) (fun r h' => (∃ (I' : gr_I) (J' : gr_J), h' = gr_h I' J' ∧ gr_Inv I' ∧ gr_fr [70] [58] I I' ∧ gr_fj [70] [58] J J' ∧ r = none))) (68, [(0, .inr (.inr (some 0))), (1, .inl a1), (2, .inl a2)], [], gr_sh ++ ext, gr_h I16 J17) := by
      intro I16 J17 hI16 FI16 FJ17 m_18
      clear ha1_15 ha2_15 hv3_15 e0_15
      obtain ⟨ha1_18, ha2_18⟩ := m_18
      have t19 := x0.1
      have t20 := gr_GH_b x0 (x := a1) ⟨by exact gz_m 16 (by omega), by exact gz_m 17 (by omega)⟩
      have t21 := gr_GH_4 x0 (x := a1) ⟨by exact gz_m 18 (by omega), by exact gz_m 19 (by omega)⟩ (by exact gz_m 20 (by omega))
      refine gv_run 2 true hD (pc' := 71) (lv' := [(0, .inr (.inr (some 0))), (1, .inl a1), (2, .inl a2)]) (st' := [.inl 40, .inr (.inr (some 0))]) (h' := gr_h I16 J17) (C := ((True ∧ True) ∧ True)) rfl ⟨⟨trivial, trivial⟩, trivial⟩ ?_
      obtain ⟨r22, h22, E22, P22⟩ := r_outs (ws0 := ws0) (tb := tb) hws htb ext I16 J17 hI16 40 ⟨by exact gz_m 21 (by omega), by exact gz_m 22 (by omega)⟩ 
      obtain ⟨I23, J24, rfl, hI23, g22, k22, rfl⟩ := P22
      have FI23 := gr_frt FI16 g22 rfl rfl
      have FJ24 := gr_fjt FJ17 k22 rfl rfl
      refine gv_callV hD rfl (As := [.inl 40]) (st := []) rfl (by decide) rfl rfl (gr_lV hws rfl) (Nat.le_of_ble_eq_true rfl) (gz_Ev_mono (d := 1) (by exact gz_m 23 (by omega)) E22) ?_
      show gv_X _ _ (74, [(0, .inr (.inr (some 0))), (1, .inl a1), (2, .inl a2)], [], gr_sh ++ ext, gr_h I23 J24)
      exact L74 I23 J24 hI23 FI23 FJ24 (by exact gz_m 24 (by omega))
    have t25 := x0.1
    have t26 := gr_GH_b x0 (x := a1) ⟨by exact gz_m 25 (by omega), by exact gz_m 26 (by omega)⟩
    have t27 := gr_GH_4 x0 (x := a1) ⟨by exact gz_m 27 (by omega), by exact gz_m 28 (by omega)⟩ (by exact gz_m 29 (by omega))
    have t28 := (show I 137 (Int.toNat v3_15) = I 137 (Int.toNat (I 135 (Int.toNat a1))) from by rw [show v3_15 = I 135 (Int.toNat a1) from by exact gz_m 30 (by omega)])
    have t29 := (show I 137 (5000 + Int.toNat v3_15) = I 137 (5000 + Int.toNat (I 135 (Int.toNat a1))) from by rw [show v3_15 = I 135 (Int.toNat a1) from by exact gz_m 31 (by omega)])
    refine gv_run 3 true hD (pc' := 50) (lv' := [(0, .inr (.inr (some 0))), (1, .inl a1), (2, .inl a2), (3, .inl v3_15)]) (st' := [.inl a2, .inl v3_15, .inr (.inr (some 0))]) (h' := gr_h I13 J14) (C := (((True ∧ True) ∧ True) ∧ True)) rfl ⟨⟨⟨trivial, trivial⟩, trivial⟩, trivial⟩ ?_
    have t30 := FI13 137 (Int.toNat v3_15) rfl
    obtain ⟨r31, h31, E31, P31⟩ := ihR I13 J14 hI13 v3_15 a2 ⟨by exact gz_m 32 (by omega), by exact gz_m 33 (by omega)⟩ ⟨by exact gz_m 34 (by omega), by exact gz_m 35 (by omega)⟩ (gr_GH_F x0 FI13) (by exact gz_m 36 (by omega)) (by exact gz_m 37 (by omega)) (by rw [FI13 137 _ rfl]; exact gz_m 38 (by omega)) (by rw [FI13 137 _ rfl]; exact gz_m 39 (by omega)) (by exact gz_m 40 (by omega))
    obtain ⟨I32, J33, rfl, hI32, g31, k31, rfl⟩ := P31
    have FI32 := gr_frt FI13 g31 rfl rfl
    have FJ33 := gr_fjt FJ14 k31 rfl rfl
    refine gv_callV hD rfl (As := [.inl v3_15, .inl a2]) (st := []) rfl (by decide) rfl rfl (gr_lV hws rfl) (Nat.le_of_ble_eq_true rfl) (gz_Ev_mono (d := (6 + 2 * nr)) (Nat.le_refl _) E31) ?_
    show gv_X _ _ (53, [(0, .inr (.inr (some 0))), (1, .inl a1), (2, .inl a2), (3, .inl v3_15)], [], gr_sh ++ ext, gr_h I32 J33)
    have f34 := (gr_b_134 hI32 (Int.toNat v3_15))
    refine gv_run 4 true hD (pc' := 59) (lv' := [(0, .inr (.inr (some 0))), (1, .inl a1), (2, .inl a2), (3, .inl v3_15)]) (st' := [.inl (I32 134 (Int.toNat v3_15))]) (h' := gr_h I32 J33) (C := ((((True ∧ True) ∧ True) ∧ True) ∧ (0 ≤ v3_15 ∧ v3_15 < ((2000 : Nat) : Int)))) rfl ⟨⟨⟨⟨trivial, trivial⟩, trivial⟩, trivial⟩, ⟨by exact gz_m 41 (by omega), by exact gz_m 42 (by omega)⟩⟩ ?_
    rw [FI32 134 (Int.toNat v3_15) rfl]
    have f35 := (gr_b_134 hI (Int.toNat v3_15))
    refine gv_if_ne (t := 68) hD rfl rfl ⟨by exact gz_m 43 (by omega), by exact gz_m 44 (by omega)⟩ (fun c36 => ?_) (fun c36 => ?_)
    · refine gv_pick [0, 1, 2] rfl ?_
      exact L68 I32 J33 hI32 FI32 FJ33 (by exact gz_m 45 (by omega))
    · refine gv_run 2 true hD (pc' := 65) (lv' := [(0, .inr (.inr (some 0))), (1, .inl a1), (2, .inl a2), (3, .inl v3_15)]) (st' := [.inl 41, .inr (.inr (some 0))]) (h' := gr_h I32 J33) (C := ((True ∧ True) ∧ True)) rfl ⟨⟨trivial, trivial⟩, trivial⟩ ?_
      obtain ⟨r37, h37, E37, P37⟩ := r_outs (ws0 := ws0) (tb := tb) hws htb ext I32 J33 hI32 41 ⟨by exact gz_m 46 (by omega), by exact gz_m 47 (by omega)⟩ 
      obtain ⟨I38, J39, rfl, hI38, g37, k37, rfl⟩ := P37
      have FI38 := gr_frt FI32 g37 rfl rfl
      have FJ39 := gr_fjt FJ33 k37 rfl rfl
      refine gv_callV hD rfl (As := [.inl 41]) (st := []) rfl (by decide) rfl rfl (gr_lV hws rfl) (Nat.le_of_ble_eq_true rfl) (gz_Ev_mono (d := 1) (by exact gz_m 48 (by omega)) E37) ?_
      show gv_X _ _ (68, [(0, .inr (.inr (some 0))), (1, .inl a1), (2, .inl a2), (3, .inl v3_15)], [], gr_sh ++ ext, gr_h I38 J39)
      refine gv_pick [0, 1, 2] rfl ?_
      exact L68 I38 J39 hI38 FI38 FJ39 (by exact gz_m 49 (by omega))
  have t40 := x0.1
  have t41 := gr_GH_b x0 (x := a1) ⟨by exact gz_m 50 (by omega), by exact gz_m 51 (by omega)⟩
  have t42 := gr_GH_4 x0 (x := a1) ⟨by exact gz_m 52 (by omega), by exact gz_m 53 (by omega)⟩ (by exact gz_m 54 (by omega))
  have f43 := (gr_b_135 hI (Int.toNat a1))
  refine gv_run 4 true hD (pc' := 6) (lv' := [(0, .inr (.inr (some 0))), (1, .inl a1), (2, .inl a2)]) (st' := [.inl (I 135 (Int.toNat a1))]) (h' := gr_h I J) (C := ((((True ∧ True) ∧ True) ∧ True) ∧ (0 ≤ a1 ∧ a1 < ((2000 : Nat) : Int)))) rfl ⟨⟨⟨⟨trivial, trivial⟩, trivial⟩, trivial⟩, ⟨by exact gz_m 55 (by omega), by exact gz_m 56 (by omega)⟩⟩ ?_
  have f44 := (gr_b_134 hI (Int.toNat ((I 135 (Int.toNat a1)))))
  refine gv_run 5 true hD (pc' := 13) (lv' := [(3, .inl (I 135 (Int.toNat a1))), (0, .inr (.inr (some 0))), (1, .inl a1), (2, .inl a2)]) (st' := [.inl (I 134 (Int.toNat ((I 135 (Int.toNat a1)))))]) (h' := gr_h I J) (C := (((((True ∧ True) ∧ True) ∧ True) ∧ True) ∧ (0 ≤ ((I 135 (Int.toNat a1))) ∧ ((I 135 (Int.toNat a1))) < ((2000 : Nat) : Int)))) rfl ⟨⟨⟨⟨⟨trivial, trivial⟩, trivial⟩, trivial⟩, trivial⟩, ⟨by exact gz_m 57 (by omega), by exact gz_m 58 (by omega)⟩⟩ ?_
  refine gv_run 1 true hD (pc' := 14) (lv' := [(3, .inl (I 135 (Int.toNat a1))), (0, .inr (.inr (some 0))), (1, .inl a1), (2, .inl a2)]) (st' := [.inl 4, .inl (I 134 (Int.toNat ((I 135 (Int.toNat a1)))))]) (h' := gr_h I J) (C := (True ∧ True)) rfl ⟨trivial, trivial⟩ ?_
  refine gv_icmp_ne (t := 32) hD rfl rfl ⟨⟨by exact gz_m 59 (by omega), by exact gz_m 60 (by omega)⟩, ⟨by exact gz_m 61 (by omega), by exact gz_m 62 (by omega)⟩⟩ (fun c45 => ?_) (fun c45 => ?_)
  · have f46 := (gr_b_134 hI (Int.toNat ((I 135 (Int.toNat a1)))))
    refine gv_run 4 true hD (pc' := 38) (lv' := [(3, .inl (I 135 (Int.toNat a1))), (0, .inr (.inr (some 0))), (1, .inl a1), (2, .inl a2)]) (st' := [.inl (I 134 (Int.toNat ((I 135 (Int.toNat a1)))))]) (h' := gr_h I J) (C := ((((True ∧ True) ∧ True) ∧ True) ∧ (0 ≤ ((I 135 (Int.toNat a1))) ∧ ((I 135 (Int.toNat a1))) < ((2000 : Nat) : Int)))) rfl ⟨⟨⟨⟨trivial, trivial⟩, trivial⟩, trivial⟩, ⟨by exact gz_m 63 (by omega), by exact gz_m 64 (by omega)⟩⟩ ?_
    refine gv_if_ne (t := 47) hD rfl rfl ⟨by exact gz_m 65 (by omega), by exact gz_m 66 (by omega)⟩ (fun c47 => ?_) (fun c47 => ?_)
    · refine gv_pick [1, 2, 3, 0] rfl ?_
      exact L47 I J ((I 135 (Int.toNat a1))) hI FI FJ (by exact gz_m 67 (by omega))
    · refine gv_run 2 true hD (pc' := 44) (lv' := [(3, .inl (I 135 (Int.toNat a1))), (0, .inr (.inr (some 0))), (1, .inl a1), (2, .inl a2)]) (st' := [.inl 40, .inr (.inr (some 0))]) (h' := gr_h I J) (C := ((True ∧ True) ∧ True)) rfl ⟨⟨trivial, trivial⟩, trivial⟩ ?_
      obtain ⟨r48, h48, E48, P48⟩ := r_outs (ws0 := ws0) (tb := tb) hws htb ext I J hI 40 ⟨by exact gz_m 68 (by omega), by exact gz_m 69 (by omega)⟩ 
      obtain ⟨I49, J50, rfl, hI49, g48, k48, rfl⟩ := P48
      have FI49 := gr_frt FI g48 rfl rfl
      have FJ50 := gr_fjt FJ k48 rfl rfl
      refine gv_callV hD rfl (As := [.inl 40]) (st := []) rfl (by decide) rfl rfl (gr_lV hws rfl) (Nat.le_of_ble_eq_true rfl) (gz_Ev_mono (d := 1) (by exact gz_m 70 (by omega)) E48) ?_
      show gv_X _ _ (47, [(3, .inl (I 135 (Int.toNat a1))), (0, .inr (.inr (some 0))), (1, .inl a1), (2, .inl a2)], [], gr_sh ++ ext, gr_h I49 J50)
      refine gv_pick [1, 2, 3, 0] rfl ?_
      exact L47 I49 J50 ((I 135 (Int.toNat a1))) hI49 FI49 FJ50 (by exact gz_m 71 (by omega))
  · refine gv_run 3 true hD (pc' := 20) (lv' := [(3, .inl (I 135 (Int.toNat a1))), (0, .inr (.inr (some 0))), (1, .inl a1), (2, .inl a2)]) (st' := [.inl a2, .inl (I 135 (Int.toNat a1)), .inr (.inr (some 0))]) (h' := gr_h I J) (C := (((True ∧ True) ∧ True) ∧ True)) rfl ⟨⟨⟨trivial, trivial⟩, trivial⟩, trivial⟩ ?_
    obtain ⟨r51, h51, E51, P51⟩ := ihA I J hI ((I 135 (Int.toNat a1))) a2 ⟨by exact gz_m 72 (by omega), by exact gz_m 73 (by omega)⟩ ⟨by exact gz_m 74 (by omega), by exact gz_m 75 (by omega)⟩ x0 (by exact gz_m 76 (by omega)) (by exact gz_m 77 (by omega)) (by exact gz_m 78 (by omega)) (by exact gz_m 79 (by omega)) (by exact gz_m 80 (by omega)) (by exact gz_m 81 (by omega))
    obtain ⟨I52, J53, rfl, hI52, g51, k51, rfl⟩ := P51
    have FI52 := gr_frt FI g51 rfl rfl
    have FJ53 := gr_fjt FJ k51 rfl rfl
    refine gv_callV hD rfl (As := [.inl (I 135 (Int.toNat a1)), .inl a2]) (st := []) rfl (by decide) rfl rfl (gr_lV hws rfl) (Nat.le_of_ble_eq_true rfl) (gz_Ev_mono (d := (6 + 2 * nr)) (Nat.le_refl _) E51) ?_
    show gv_X _ _ (23, [(3, .inl (I 135 (Int.toNat a1))), (0, .inr (.inr (some 0))), (1, .inl a1), (2, .inl a2)], [], gr_sh ++ ext, gr_h I52 J53)
    refine gv_run 2 true hD (pc' := 26) (lv' := [(3, .inl (I 135 (Int.toNat a1))), (0, .inr (.inr (some 0))), (1, .inl a1), (2, .inl a2)]) (st' := [.inl 44, .inr (.inr (some 0))]) (h' := gr_h I52 J53) (C := ((True ∧ True) ∧ True)) rfl ⟨⟨trivial, trivial⟩, trivial⟩ ?_
    obtain ⟨r54, h54, E54, P54⟩ := r_outs (ws0 := ws0) (tb := tb) hws htb ext I52 J53 hI52 44 ⟨by exact gz_m 82 (by omega), by exact gz_m 83 (by omega)⟩ 
    obtain ⟨I55, J56, rfl, hI55, g54, k54, rfl⟩ := P54
    have FI55 := gr_frt FI52 g54 rfl rfl
    have FJ56 := gr_fjt FJ53 k54 rfl rfl
    refine gv_callV hD rfl (As := [.inl 44]) (st := []) rfl (by decide) rfl rfl (gr_lV hws rfl) (Nat.le_of_ble_eq_true rfl) (gz_Ev_mono (d := 1) (by exact gz_m 84 (by omega)) E54) ?_
    show gv_X _ _ (29, [(3, .inl (I 135 (Int.toNat a1))), (0, .inr (.inr (some 0))), (1, .inl a1), (2, .inl a2)], [], gr_sh ++ ext, gr_h I55 J56)
    refine gv_run 1 true hD (pc' := 74) (lv' := [(3, .inl (I 135 (Int.toNat a1))), (0, .inr (.inr (some 0))), (1, .inl a1), (2, .inl a2)]) (st' := []) (h' := gr_h I55 J56) (C := (True ∧ True)) rfl ⟨trivial, trivial⟩ ?_
    refine gv_pick [1, 2, 3] rfl ?_
    exact L74 I55 J56 hI55 FI55 FJ56 (by exact gz_m 85 (by omega))
set_option maxHeartbeats 8000000 in
set_option maxRecDepth 100000 in
theorem r_outTerm_s {ws0 : List Cond} {tb : String → gz_T} (hws : ∀ w ∈ gr_ws, w ∈ ws0) (htb : tb RX13 = gr_T) (ext : gz_Sh) (a9 : Int) (b9 : Int) (S9 : Int) (nr : Nat) (ihR : ∀ (I : gr_I) (J : gr_J) (hI : gr_Inv I) (a1 : Int) (a2 : Int) (ha1 : 0 ≤ a1 ∧ a1 ≤ 1299) (ha2 : 0 ≤ a2 ∧ a2 ≤ 300) (x0 : gr_GH a9 b9 S9 I) (x1 : a9 ≤ a1) (x2 : a1 < b9) (x3 : I 137 (5000 + (Int.toNat a1)) ≤ a2) (x4 : a2 + I 137 (Int.toNat a1) ≤ 300) (_ : (I 137 (Int.toNat a1)).toNat < nr), ∃ r h', gz_Ev ws0 tb (6 + 2 * nr) (yX13_outTerm, cX13_outTerm, 3, none) [.inr (.inr (some 0)), .inl a1, .inl a2] (gr_sh ++ ext) (gr_h I J) r (gr_sh ++ ext) h' 0 0 ∧ (∃ (I' : gr_I) (J' : gr_J), h' = gr_h I' J' ∧ gr_Inv I' ∧ gr_fr [70] [58] I I' ∧ gr_fj [70] [58] J J' ∧ r = none)) (ihA : ∀ (I : gr_I) (J : gr_J) (hI : gr_Inv I) (a1 : Int) (a2 : Int) (ha1 : 0 ≤ a1 ∧ a1 ≤ 1299) (ha2 : 0 ≤ a2 ∧ a2 ≤ 300) (x0 : gr_GH a9 b9 S9 I) (x1 : a9 ≤ a1) (x2 : a1 < b9) (x3 : I 137 (5000 + (Int.toNat a1)) ≤ a2) (x4 : a2 + I 137 (Int.toNat a1) ≤ 300) (x5 : I 134 (Int.toNat a1) = 4) (_ : (I 137 (Int.toNat a1)).toNat < nr), ∃ r h', gz_Ev ws0 tb (6 + 2 * nr) (yX13_outApplied, cX13_outApplied, 4, none) [.inr (.inr (some 0)), .inl a1, .inl a2] (gr_sh ++ ext) (gr_h I J) r (gr_sh ++ ext) h' 0 0 ∧ (∃ (I' : gr_I) (J' : gr_J), h' = gr_h I' J' ∧ gr_Inv I' ∧ gr_fr [70] [58] I I' ∧ gr_fj [70] [58] J J' ∧ r = none)) (I : gr_I) (J : gr_J) (hI : gr_Inv I) (a1 : Int) (a2 : Int) (ha1 : 0 ≤ a1 ∧ a1 ≤ 1299) (ha2 : 0 ≤ a2 ∧ a2 ≤ 300) (x0 : gr_GH a9 b9 S9 I) (x1 : a9 ≤ a1) (x2 : a1 < b9) (x3 : I 137 (5000 + (Int.toNat a1)) ≤ a2) (x4 : a2 + I 137 (Int.toNat a1) ≤ 300) (hnr : (I 137 (Int.toNat a1)).toNat < nr + 1) : ∃ r h', gz_Ev ws0 tb (6 + 2 * nr + 1 + 1) (yX13_outTerm, cX13_outTerm, 3, none) [.inr (.inr (some 0)), .inl a1, .inl a2] (gr_sh ++ ext) (gr_h I J) r (gr_sh ++ ext) h' 0 0 ∧ (∃ (I' : gr_I) (J' : gr_J), h' = gr_h I' J' ∧ gr_Inv I' ∧ gr_fr [70] [58] I I' ∧ gr_fj [70] [58] J J' ∧ r = none) := by
  have FI : gr_fr [70] [58] I I := fun _ _ _ => rfl
  have FJ : gr_fj [70] [58] J J := fun _ _ _ => rfl
  have hD : gv_D (gr_E ws0 tb (6 + 2 * nr + 1) (yX13_outTerm, cX13_outTerm, 3, none) kX13_outTerm) := gq_of oX13_outTerm
  refine gr_ev (d := (6 + 2 * nr + 1)) (l := kX13_outTerm) (Po := fun r h' => (∃ (I' : gr_I) (J' : gr_J), h' = gr_h I' J' ∧ gr_Inv I' ∧ gr_fr [70] [58] I I' ∧ gr_fj [70] [58] J J' ∧ r = none)) htb rfl (Nat.le_of_ble_eq_true rfl) ?_
  have L119 : ∀ (I1 : gr_I) (J2 : gr_J) , gr_Inv I1 → gr_fr [70] [58] I I1 → gr_fj [70] [58] J J2 → gv_X (gr_E ws0 tb (6 + 2 * nr + 1) (yX13_outTerm, cX13_outTerm, 3, none) kX13_outTerm) (gv_Q cX13_outTerm none (gr_sh ++ ext) (fun r h' => (∃ (I' : gr_I) (J' : gr_J), h' = gr_h I' J' ∧ gr_Inv I' ∧ gr_fr [70] [58] I I' ∧ gr_fj [70] [58] J J' ∧ r = none))) (119, [], [], gr_sh ++ ext, gr_h I1 J2) := by
    intro I1 J2 hI1 FI1 FJ2
    exact gv_vret hD rfl ⟨I1, J2, rfl, hI1, FI1, FJ2, rfl⟩
  have f4 := (gr_b_134 hI (Int.toNat a1))
  refine gv_run 4 true hD (pc' := 6) (lv' := [(0, .inr (.inr (some 0))), (1, .inl a1), (2, .inl a2)]) (st' := [.inl (I 134 (Int.toNat a1))]) (h' := gr_h I J) (C := ((((True ∧ True) ∧ True) ∧ True) ∧ (0 ≤ a1 ∧ a1 < ((2000 : Nat) : Int)))) rfl ⟨⟨⟨⟨trivial, trivial⟩, trivial⟩, trivial⟩, ⟨by exact gz_m 0 (by omega), by exact gz_m 1 (by omega)⟩⟩ ?_
  by_cases c5 : ((I 134 (Int.toNat a1))) = 0
  · refine gv_tabAt hD 0 rfl ⟨by exact gz_m 2 (by omega), by exact gz_m 3 (by omega)⟩ c5 ⟨by decide, by decide⟩ rfl (t := 32) rfl ?_
    have t6 := x0.1
    have t7 := gr_GH_b x0 (x := a1) ⟨by exact gz_m 4 (by omega), by exact gz_m 5 (by omega)⟩
    have t8 := gr_GH_0 x0 (x := a1) ⟨by exact gz_m 6 (by omega), by exact gz_m 7 (by omega)⟩ (by exact gz_m 8 (by omega))
    refine gv_run 2 true hD (pc' := 35) (lv' := [(0, .inr (.inr (some 0))), (1, .inl a1), (2, .inl a2)]) (st' := [.inl 92, .inr (.inr (some 0))]) (h' := gr_h I J) (C := ((True ∧ True) ∧ True)) rfl ⟨⟨trivial, trivial⟩, trivial⟩ ?_
    obtain ⟨r9, h9, E9, P9⟩ := r_outs (ws0 := ws0) (tb := tb) hws htb ext I J hI 92 ⟨by exact gz_m 9 (by omega), by exact gz_m 10 (by omega)⟩ 
    obtain ⟨I10, J11, rfl, hI10, g9, k9, rfl⟩ := P9
    have FI10 := gr_frt FI g9 rfl rfl
    have FJ11 := gr_fjt FJ k9 rfl rfl
    refine gv_callV hD rfl (As := [.inl 92]) (st := []) rfl (by decide) rfl rfl (gr_lV hws rfl) (Nat.le_of_ble_eq_true rfl) (gz_Ev_mono (d := 1) (by exact gz_m 11 (by omega)) E9) ?_
    show gv_X _ _ (38, [(0, .inr (.inr (some 0))), (1, .inl a1), (2, .inl a2)], [], gr_sh ++ ext, gr_h I10 J11)
    refine gv_run 2 true hD (pc' := 41) (lv' := [(0, .inr (.inr (some 0))), (1, .inl a1), (2, .inl a2)]) (st' := [.inl 118, .inr (.inr (some 0))]) (h' := gr_h I10 J11) (C := ((True ∧ True) ∧ True)) rfl ⟨⟨trivial, trivial⟩, trivial⟩ ?_
    obtain ⟨r12, h12, E12, P12⟩ := r_outs (ws0 := ws0) (tb := tb) hws htb ext I10 J11 hI10 118 ⟨by exact gz_m 12 (by omega), by exact gz_m 13 (by omega)⟩ 
    obtain ⟨I13, J14, rfl, hI13, g12, k12, rfl⟩ := P12
    have FI13 := gr_frt FI10 g12 rfl rfl
    have FJ14 := gr_fjt FJ11 k12 rfl rfl
    refine gv_callV hD rfl (As := [.inl 118]) (st := []) rfl (by decide) rfl rfl (gr_lV hws rfl) (Nat.le_of_ble_eq_true rfl) (gz_Ev_mono (d := 1) (by exact gz_m 14 (by omega)) E12) ?_
    show gv_X _ _ (44, [(0, .inr (.inr (some 0))), (1, .inl a1), (2, .inl a2)], [], gr_sh ++ ext, gr_h I13 J14)
    refine gv_run 4 true hD (pc' := 48) (lv' := [(0, .inr (.inr (some 0))), (1, .inl a1), (2, .inl a2)]) (st' := [.inl (a2 + 1), .inr (.inr (some 0))]) (h' := gr_h I13 J14) (C := ((((True ∧ True) ∧ True) ∧ True) ∧ True)) rfl ⟨⟨⟨⟨trivial, trivial⟩, trivial⟩, trivial⟩, trivial⟩ ?_
    obtain ⟨r15, h15, E15, P15⟩ := r_outNumber (ws0 := ws0) (tb := tb) hws htb ext 4 I13 J14 hI13 (a2 + 1) ⟨by exact gz_m 15 (by omega), by exact gz_m 16 (by omega)⟩  (by exact gz_m 17 (by omega))
    obtain ⟨I16, J17, rfl, hI16, g15, k15, rfl⟩ := P15
    have FI16 := gr_frt FI13 g15 rfl rfl
    have FJ17 := gr_fjt FJ14 k15 rfl rfl
    refine gv_callV hD rfl (As := [.inl (a2 + 1)]) (st := []) rfl (by decide) rfl rfl (gr_lV hws rfl) (Nat.le_of_ble_eq_true rfl) (gz_Ev_mono (d := 5) (by exact gz_m 18 (by omega)) E15) ?_
    show gv_X _ _ (51, [(0, .inr (.inr (some 0))), (1, .inl a1), (2, .inl a2)], [], gr_sh ++ ext, gr_h I16 J17)
    refine gv_run 2 true hD (pc' := 54) (lv' := [(0, .inr (.inr (some 0))), (1, .inl a1), (2, .inl a2)]) (st' := [.inl 46, .inr (.inr (some 0))]) (h' := gr_h I16 J17) (C := ((True ∧ True) ∧ True)) rfl ⟨⟨trivial, trivial⟩, trivial⟩ ?_
    obtain ⟨r18, h18, E18, P18⟩ := r_outs (ws0 := ws0) (tb := tb) hws htb ext I16 J17 hI16 46 ⟨by exact gz_m 19 (by omega), by exact gz_m 20 (by omega)⟩ 
    obtain ⟨I19, J20, rfl, hI19, g18, k18, rfl⟩ := P18
    have FI19 := gr_frt FI16 g18 rfl rfl
    have FJ20 := gr_fjt FJ17 k18 rfl rfl
    refine gv_callV hD rfl (As := [.inl 46]) (st := []) rfl (by decide) rfl rfl (gr_lV hws rfl) (Nat.le_of_ble_eq_true rfl) (gz_Ev_mono (d := 1) (by exact gz_m 21 (by omega)) E18) ?_
    show gv_X _ _ (57, [(0, .inr (.inr (some 0))), (1, .inl a1), (2, .inl a2)], [], gr_sh ++ ext, gr_h I19 J20)
    have f21 := (gr_b_135 hI19 (Int.toNat a1))
    refine gv_run 5 true hD (pc' := 64) (lv' := [(0, .inr (.inr (some 0))), (1, .inl a1), (2, .inl a2)]) (st' := [.inl (I19 135 (Int.toNat a1)), .inr (.inr (some 0))]) (h' := gr_h I19 J20) (C := (((((True ∧ True) ∧ True) ∧ True) ∧ True) ∧ (0 ≤ a1 ∧ a1 < ((2000 : Nat) : Int)))) rfl ⟨⟨⟨⟨⟨trivial, trivial⟩, trivial⟩, trivial⟩, trivial⟩, ⟨by exact gz_m 22 (by omega), by exact gz_m 23 (by omega)⟩⟩ ?_
    rw [FI19 135 (Int.toNat a1) rfl]
    have f22 := (gr_b_135 hI (Int.toNat a1))
    refine gv_run 3 true hD (pc' := 67) (lv' := [(0, .inr (.inr (some 0))), (1, .inl a1), (2, .inl a2)]) (st' := [.inl (a2 + 1), .inl (I 135 (Int.toNat a1)), .inr (.inr (some 0))]) (h' := gr_h I19 J20) (C := (((True ∧ True) ∧ True) ∧ True)) rfl ⟨⟨⟨trivial, trivial⟩, trivial⟩, trivial⟩ ?_
    have t23 := FI19 137 (Int.toNat ((I 135 (Int.toNat a1)))) rfl
    obtain ⟨r24, h24, E24, P24⟩ := ihR I19 J20 hI19 ((I 135 (Int.toNat a1))) (a2 + 1) ⟨by exact gz_m 24 (by omega), by exact gz_m 25 (by omega)⟩ ⟨by exact gz_m 26 (by omega), by exact gz_m 27 (by omega)⟩ (gr_GH_F x0 FI19) (by exact gz_m 28 (by omega)) (by exact gz_m 29 (by omega)) (by rw [FI19 137 _ rfl]; exact gz_m 30 (by omega)) (by rw [FI19 137 _ rfl]; exact gz_m 31 (by omega)) (by exact gz_m 32 (by omega))
    obtain ⟨I25, J26, rfl, hI25, g24, k24, rfl⟩ := P24
    have FI25 := gr_frt FI19 g24 rfl rfl
    have FJ26 := gr_fjt FJ20 k24 rfl rfl
    refine gv_callV hD rfl (As := [.inl (I 135 (Int.toNat a1)), .inl (a2 + 1)]) (st := []) rfl (by decide) rfl rfl (gr_lV hws rfl) (Nat.le_of_ble_eq_true rfl) (gz_Ev_mono (d := (6 + 2 * nr)) (by exact gz_m 33 (by omega)) E24) ?_
    show gv_X _ _ (70, [(0, .inr (.inr (some 0))), (1, .inl a1), (2, .inl a2)], [], gr_sh ++ ext, gr_h I25 J26)
    refine gv_run 1 true hD (pc' := 119) (lv' := [(0, .inr (.inr (some 0))), (1, .inl a1), (2, .inl a2)]) (st' := []) (h' := gr_h I25 J26) (C := (True ∧ True)) rfl ⟨trivial, trivial⟩ ?_
    refine gv_pick [] rfl ?_
    exact L119 I25 J26 hI25 FI25 FJ26
  by_cases c27 : ((I 134 (Int.toNat a1))) = 1
  · refine gv_tabAt hD 1 rfl ⟨by exact gz_m 34 (by omega), by exact gz_m 35 (by omega)⟩ c27 ⟨by decide, by decide⟩ rfl (t := 73) rfl ?_
    have t28 := x0.1
    have t29 := gr_GH_b x0 (x := a1) ⟨by exact gz_m 36 (by omega), by exact gz_m 37 (by omega)⟩
    have t30 := gr_GH_1 x0 (x := a1) ⟨by exact gz_m 38 (by omega), by exact gz_m 39 (by omega)⟩ (by exact gz_m 40 (by omega))
    refine gv_run 2 true hD (pc' := 76) (lv' := [(0, .inr (.inr (some 0))), (1, .inl a1), (2, .inl a2)]) (st' := [.inl 118, .inr (.inr (some 0))]) (h' := gr_h I J) (C := ((True ∧ True) ∧ True)) rfl ⟨⟨trivial, trivial⟩, trivial⟩ ?_
    obtain ⟨r31, h31, E31, P31⟩ := r_outs (ws0 := ws0) (tb := tb) hws htb ext I J hI 118 ⟨by exact gz_m 41 (by omega), by exact gz_m 42 (by omega)⟩ 
    obtain ⟨I32, J33, rfl, hI32, g31, k31, rfl⟩ := P31
    have FI32 := gr_frt FI g31 rfl rfl
    have FJ33 := gr_fjt FJ k31 rfl rfl
    refine gv_callV hD rfl (As := [.inl 118]) (st := []) rfl (by decide) rfl rfl (gr_lV hws rfl) (Nat.le_of_ble_eq_true rfl) (gz_Ev_mono (d := 1) (by exact gz_m 43 (by omega)) E31) ?_
    show gv_X _ _ (79, [(0, .inr (.inr (some 0))), (1, .inl a1), (2, .inl a2)], [], gr_sh ++ ext, gr_h I32 J33)
    have f34 := (gr_b_135 hI32 (Int.toNat a1))
    refine gv_run 6 true hD (pc' := 87) (lv' := [(0, .inr (.inr (some 0))), (1, .inl a1), (2, .inl a2)]) (st' := [.inl (I32 135 (Int.toNat a1)), .inl a2, .inr (.inr (some 0))]) (h' := gr_h I32 J33) (C := ((((((True ∧ True) ∧ True) ∧ True) ∧ True) ∧ True) ∧ (0 ≤ a1 ∧ a1 < ((2000 : Nat) : Int)))) rfl ⟨⟨⟨⟨⟨⟨trivial, trivial⟩, trivial⟩, trivial⟩, trivial⟩, trivial⟩, ⟨by exact gz_m 44 (by omega), by exact gz_m 45 (by omega)⟩⟩ ?_
    rw [FI32 135 (Int.toNat a1) rfl]
    have f35 := (gr_b_135 hI (Int.toNat a1))
    refine gv_run 1 true hD (pc' := 88) (lv' := [(0, .inr (.inr (some 0))), (1, .inl a1), (2, .inl a2)]) (st' := [.inl (a2 - (I 135 (Int.toNat a1))), .inr (.inr (some 0))]) (h' := gr_h I32 J33) (C := (True ∧ True)) rfl ⟨trivial, trivial⟩ ?_
    obtain ⟨r36, h36, E36, P36⟩ := r_outNumber (ws0 := ws0) (tb := tb) hws htb ext 4 I32 J33 hI32 ((a2 - (I 135 (Int.toNat a1)))) ⟨by exact gz_m 46 (by omega), by exact gz_m 47 (by omega)⟩  (by exact gz_m 48 (by omega))
    obtain ⟨I37, J38, rfl, hI37, g36, k36, rfl⟩ := P36
    have FI37 := gr_frt FI32 g36 rfl rfl
    have FJ38 := gr_fjt FJ33 k36 rfl rfl
    refine gv_callV hD rfl (As := [.inl (a2 - (I 135 (Int.toNat a1)))]) (st := []) rfl (by decide) rfl rfl (gr_lV hws rfl) (Nat.le_of_ble_eq_true rfl) (gz_Ev_mono (d := 5) (by exact gz_m 49 (by omega)) E36) ?_
    show gv_X _ _ (91, [(0, .inr (.inr (some 0))), (1, .inl a1), (2, .inl a2)], [], gr_sh ++ ext, gr_h I37 J38)
    refine gv_run 1 true hD (pc' := 119) (lv' := [(0, .inr (.inr (some 0))), (1, .inl a1), (2, .inl a2)]) (st' := []) (h' := gr_h I37 J38) (C := (True ∧ True)) rfl ⟨trivial, trivial⟩ ?_
    refine gv_pick [] rfl ?_
    exact L119 I37 J38 hI37 FI37 FJ38
  by_cases c39 : ((I 134 (Int.toNat a1))) = 2
  · refine gv_tabAt hD 2 rfl ⟨by exact gz_m 50 (by omega), by exact gz_m 51 (by omega)⟩ c39 ⟨by decide, by decide⟩ rfl (t := 94) rfl ?_
    have t40 := x0.1
    have t41 := gr_GH_b x0 (x := a1) ⟨by exact gz_m 52 (by omega), by exact gz_m 53 (by omega)⟩
    refine gv_run 5 true hD (pc' := 101) (lv' := [(0, .inr (.inr (some 0))), (1, .inl a1), (2, .inl a2)]) (st' := [.inr (.inl (J 137 (Int.toNat a1))), .inr (.inr (some 0))]) (h' := gr_h I J) (C := (((((True ∧ True) ∧ True) ∧ True) ∧ True) ∧ (0 ≤ a1 ∧ a1 < ((2000 : Nat) : Int)))) rfl ⟨⟨⟨⟨⟨trivial, trivial⟩, trivial⟩, trivial⟩, trivial⟩, ⟨by exact gz_m 54 (by omega), by exact gz_m 55 (by omega)⟩⟩ ?_
    obtain ⟨r42, h42, E42, P42⟩ := r_outName (ws0 := ws0) (tb := tb) hws htb ext I J hI ((J 137 (Int.toNat a1)))  
    obtain ⟨I43, J44, rfl, hI43, g42, k42, rfl⟩ := P42
    have FI43 := gr_frt FI g42 rfl rfl
    have FJ44 := gr_fjt FJ k42 rfl rfl
    refine gv_callV hD rfl (As := [.inr (.inl (J 137 (Int.toNat a1)))]) (st := []) rfl (by decide) rfl rfl (gr_lV hws rfl) (Nat.le_of_ble_eq_true rfl) (gz_Ev_mono (d := 2) (by exact gz_m 56 (by omega)) E42) ?_
    show gv_X _ _ (104, [(0, .inr (.inr (some 0))), (1, .inl a1), (2, .inl a2)], [], gr_sh ++ ext, gr_h I43 J44)
    refine gv_run 1 true hD (pc' := 119) (lv' := [(0, .inr (.inr (some 0))), (1, .inl a1), (2, .inl a2)]) (st' := []) (h' := gr_h I43 J44) (C := (True ∧ True)) rfl ⟨trivial, trivial⟩ ?_
    refine gv_pick [] rfl ?_
    exact L119 I43 J44 hI43 FI43 FJ44
  refine gv_tabOut hD rfl ⟨by exact gz_m 57 (by omega), by exact gz_m 58 (by omega)⟩ (by exact gz_m 59 (by omega)) (t := 107) rfl ?_
  have t45 := x0.1
  have t46 := gr_GH_b x0 (x := a1) ⟨by exact gz_m 60 (by omega), by exact gz_m 61 (by omega)⟩
  have t47 := gr_GH_k x0 (x := a1) ⟨by exact gz_m 62 (by omega), by exact gz_m 63 (by omega)⟩
  refine gv_run 3 true hD (pc' := 110) (lv' := [(0, .inr (.inr (some 0))), (1, .inl a1), (2, .inl a2)]) (st' := [.inl a2, .inl a1, .inr (.inr (some 0))]) (h' := gr_h I J) (C := (((True ∧ True) ∧ True) ∧ True)) rfl ⟨⟨⟨trivial, trivial⟩, trivial⟩, trivial⟩ ?_
  obtain ⟨r48, h48, E48, P48⟩ := r_outApplied (ws0 := ws0) (tb := tb) hws htb ext a9 b9 S9 nr ihR ihA I J hI a1 a2 ⟨by exact gz_m 64 (by omega), by exact gz_m 65 (by omega)⟩ ⟨by exact gz_m 66 (by omega), by exact gz_m 67 (by omega)⟩ x0 (by exact gz_m 68 (by omega)) (by exact gz_m 69 (by omega)) (by exact gz_m 70 (by omega)) (by exact gz_m 71 (by omega)) (by exact gz_m 72 (by omega)) (by exact gz_m 73 (by omega))
  obtain ⟨I49, J50, rfl, hI49, g48, k48, rfl⟩ := P48
  have FI49 := gr_frt FI g48 rfl rfl
  have FJ50 := gr_fjt FJ k48 rfl rfl
  refine gv_callV hD rfl (As := [.inl a1, .inl a2]) (st := []) rfl (by decide) rfl rfl (gr_lV hws rfl) (Nat.le_of_ble_eq_true rfl) (gz_Ev_mono (d := (6 + 2 * nr + 1)) (Nat.le_refl _) E48) ?_
  show gv_X _ _ (113, [(0, .inr (.inr (some 0))), (1, .inl a1), (2, .inl a2)], [], gr_sh ++ ext, gr_h I49 J50)
  refine gv_run 2 true hD (pc' := 116) (lv' := [(0, .inr (.inr (some 0))), (1, .inl a1), (2, .inl a2)]) (st' := [.inl 41, .inr (.inr (some 0))]) (h' := gr_h I49 J50) (C := ((True ∧ True) ∧ True)) rfl ⟨⟨trivial, trivial⟩, trivial⟩ ?_
  obtain ⟨r51, h51, E51, P51⟩ := r_outs (ws0 := ws0) (tb := tb) hws htb ext I49 J50 hI49 41 ⟨by exact gz_m 74 (by omega), by exact gz_m 75 (by omega)⟩ 
  obtain ⟨I52, J53, rfl, hI52, g51, k51, rfl⟩ := P51
  have FI52 := gr_frt FI49 g51 rfl rfl
  have FJ53 := gr_fjt FJ50 k51 rfl rfl
  refine gv_callV hD rfl (As := [.inl 41]) (st := []) rfl (by decide) rfl rfl (gr_lV hws rfl) (Nat.le_of_ble_eq_true rfl) (gz_Ev_mono (d := 1) (by exact gz_m 76 (by omega)) E51) ?_
  show gv_X _ _ (119, [(0, .inr (.inr (some 0))), (1, .inl a1), (2, .inl a2)], [], gr_sh ++ ext, gr_h I52 J53)
  refine gv_pick [] rfl ?_
  exact L119 I52 J53 hI52 FI52 FJ53
theorem r_outBoth {ws0 : List Cond} {tb : String → gz_T} (hws : ∀ w ∈ gr_ws, w ∈ ws0) (htb : tb RX13 = gr_T) (ext : gz_Sh) (a9 : Int) (b9 : Int) (S9 : Int) : ∀ nr : Nat, (∀ (I : gr_I) (J : gr_J) (hI : gr_Inv I) (a1 : Int) (a2 : Int) (ha1 : 0 ≤ a1 ∧ a1 ≤ 1299) (ha2 : 0 ≤ a2 ∧ a2 ≤ 300) (x0 : gr_GH a9 b9 S9 I) (x1 : a9 ≤ a1) (x2 : a1 < b9) (x3 : I 137 (5000 + (Int.toNat a1)) ≤ a2) (x4 : a2 + I 137 (Int.toNat a1) ≤ 300) (_ : (I 137 (Int.toNat a1)).toNat < nr), ∃ r h', gz_Ev ws0 tb (6 + 2 * nr) (yX13_outTerm, cX13_outTerm, 3, none) [.inr (.inr (some 0)), .inl a1, .inl a2] (gr_sh ++ ext) (gr_h I J) r (gr_sh ++ ext) h' 0 0 ∧ (∃ (I' : gr_I) (J' : gr_J), h' = gr_h I' J' ∧ gr_Inv I' ∧ gr_fr [70] [58] I I' ∧ gr_fj [70] [58] J J' ∧ r = none)) ∧ (∀ (I : gr_I) (J : gr_J) (hI : gr_Inv I) (a1 : Int) (a2 : Int) (ha1 : 0 ≤ a1 ∧ a1 ≤ 1299) (ha2 : 0 ≤ a2 ∧ a2 ≤ 300) (x0 : gr_GH a9 b9 S9 I) (x1 : a9 ≤ a1) (x2 : a1 < b9) (x3 : I 137 (5000 + (Int.toNat a1)) ≤ a2) (x4 : a2 + I 137 (Int.toNat a1) ≤ 300) (x5 : I 134 (Int.toNat a1) = 4) (_ : (I 137 (Int.toNat a1)).toNat < nr), ∃ r h', gz_Ev ws0 tb (6 + 2 * nr) (yX13_outApplied, cX13_outApplied, 4, none) [.inr (.inr (some 0)), .inl a1, .inl a2] (gr_sh ++ ext) (gr_h I J) r (gr_sh ++ ext) h' 0 0 ∧ (∃ (I' : gr_I) (J' : gr_J), h' = gr_h I' J' ∧ gr_Inv I' ∧ gr_fr [70] [58] I I' ∧ gr_fj [70] [58] J J' ∧ r = none)) := by
  intro nr
  induction nr with
  | zero => exact ⟨fun I J hI a1 a2 ha1 ha2 x0 x1 x2 x3 x4 h => by exact gz_m 0 (by omega), fun I J hI a1 a2 ha1 ha2 x0 x1 x2 x3 x4 x5 h => by exact gz_m 1 (by omega)⟩
  | succ nr ih =>
    refine ⟨fun I J hI a1 a2 ha1 ha2 x0 x1 x2 x3 x4 h => r_outTerm_s hws htb ext a9 b9 S9 nr ih.1 ih.2 I J hI a1 a2 ha1 ha2 x0 x1 x2 x3 x4 h, fun I J hI a1 a2 ha1 ha2 x0 x1 x2 x3 x4 x5 h => ?_⟩
    obtain ⟨r, h', E, P⟩ := r_outApplied hws htb ext a9 b9 S9 nr ih.1 ih.2 I J hI a1 a2 ha1 ha2 x0 x1 x2 x3 x4 x5 h
    exact ⟨r, h', gz_Ev_mono (by exact gz_m 2 (by omega)) E, P⟩
theorem r_outTerm {ws0 : List Cond} {tb : String → gz_T} (hws : ∀ w ∈ gr_ws, w ∈ ws0) (htb : tb RX13 = gr_T) (ext : gz_Sh) (a9 : Int) (b9 : Int) (S9 : Int) : ∀ (nr : Nat) (I : gr_I) (J : gr_J) (hI : gr_Inv I) (a1 : Int) (a2 : Int) (ha1 : 0 ≤ a1 ∧ a1 ≤ 1299) (ha2 : 0 ≤ a2 ∧ a2 ≤ 300) (x0 : gr_GH a9 b9 S9 I) (x1 : a9 ≤ a1) (x2 : a1 < b9) (x3 : I 137 (5000 + (Int.toNat a1)) ≤ a2) (x4 : a2 + I 137 (Int.toNat a1) ≤ 300) (_ : (I 137 (Int.toNat a1)).toNat < nr), ∃ r h', gz_Ev ws0 tb (6 + 2 * nr) (yX13_outTerm, cX13_outTerm, 3, none) [.inr (.inr (some 0)), .inl a1, .inl a2] (gr_sh ++ ext) (gr_h I J) r (gr_sh ++ ext) h' 0 0 ∧ (∃ (I' : gr_I) (J' : gr_J), h' = gr_h I' J' ∧ gr_Inv I' ∧ gr_fr [70] [58] I I' ∧ gr_fj [70] [58] J J' ∧ r = none) := fun nr => (r_outBoth hws htb ext a9 b9 S9 nr).1
