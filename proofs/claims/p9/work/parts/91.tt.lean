theorem gr_GH_F {a b S : Int} {I Iₚ : gr_I} {fs as : List Nat} (h : gr_GH a b S I) (F : gr_fr fs as I Iₚ) (hr : (!(as.elem 134) && !(as.elem 135) && !(as.elem 136) && !(as.elem 137)) = true := by rfl) : gr_GH a b S Iₚ := by
  simp only [Bool.and_eq_true, Bool.not_eq_true'] at hr
  obtain ⟨⟨⟨a1, a2⟩, a3⟩, a4⟩ := hr
  exact gr_GH_c h (fun m _ _ => ⟨⟨F _ _ a1, F _ _ a2, F _ _ a3⟩, F _ _ a4, F _ _ a4⟩)
set_option maxHeartbeats 8000000 in
set_option maxRecDepth 100000 in
theorem r_outApplied {ws0 : List Cond} {tb : String → gz_T} (hws : ∀ w ∈ gr_ws, w ∈ ws0) (htb : tb RX13 = gr_T) (ext : gz_Sh) (a9 : Int) (b9 : Int) (S9 : Int) (nr : Nat) (ihR : ∀ (I : gr_I) (J : gr_J) (hI : gr_Inv I) (a1 : Int) (a2 : Int) (ha1 : 0 ≤ a1 ∧ a1 ≤ 1299) (ha2 : 0 ≤ a2 ∧ a2 ≤ 300) (x0 : gr_GH a9 b9 S9 I) (x1 : a9 ≤ a1) (x2 : a1 < b9) (x3 : I 137 (5000 + (Int.toNat a1)) ≤ a2) (x4 : a2 + I 137 (Int.toNat a1) ≤ 300) (_ : (I 137 (Int.toNat a1)).toNat < nr), ∃ r hₚ, gz_Ev ws0 tb (6 + 2 * nr) (yX13_outTerm, cX13_outTerm, 3, none) [.inr (.inr (some 0)), .inl a1, .inl a2] (gr_sh ++ ext) (gr_h I J) r (gr_sh ++ ext) hₚ 0 0 ∧ (∃ (Iₚ : gr_I) (Jₚ : gr_J), hₚ = gr_h Iₚ Jₚ ∧ gr_Inv Iₚ ∧ gr_fr [70] [58] I Iₚ ∧ gr_fj [70] [58] J Jₚ ∧ r = none)) (ihA : ∀ (I : gr_I) (J : gr_J) (hI : gr_Inv I) (a1 : Int) (a2 : Int) (ha1 : 0 ≤ a1 ∧ a1 ≤ 1299) (ha2 : 0 ≤ a2 ∧ a2 ≤ 300) (x0 : gr_GH a9 b9 S9 I) (x1 : a9 ≤ a1) (x2 : a1 < b9) (x3 : I 137 (5000 + (Int.toNat a1)) ≤ a2) (x4 : a2 + I 137 (Int.toNat a1) ≤ 300) (x5 : I 134 (Int.toNat a1) = 4) (_ : (I 137 (Int.toNat a1)).toNat < nr), ∃ r hₚ, gz_Ev ws0 tb (6 + 2 * nr) (yX13_outApplied, cX13_outApplied, 4, none) [.inr (.inr (some 0)), .inl a1, .inl a2] (gr_sh ++ ext) (gr_h I J) r (gr_sh ++ ext) hₚ 0 0 ∧ (∃ (Iₚ : gr_I) (Jₚ : gr_J), hₚ = gr_h Iₚ Jₚ ∧ gr_Inv Iₚ ∧ gr_fr [70] [58] I Iₚ ∧ gr_fj [70] [58] J Jₚ ∧ r = none)) (I : gr_I) (J : gr_J) (hI : gr_Inv I) (a1 : Int) (a2 : Int) (ha1 : 0 ≤ a1 ∧ a1 ≤ 1299) (ha2 : 0 ≤ a2 ∧ a2 ≤ 300) (x0 : gr_GH a9 b9 S9 I) (x1 : a9 ≤ a1) (x2 : a1 < b9) (x3 : I 137 (5000 + (Int.toNat a1)) ≤ a2) (x4 : a2 + I 137 (Int.toNat a1) ≤ 300) (x5 : I 134 (Int.toNat a1) = 4) (hnr : (I 137 (Int.toNat a1)).toNat < nr + 1) : ∃ r hₚ, gz_Ev ws0 tb (6 + 2 * nr + 1) (yX13_outApplied, cX13_outApplied, 4, none) [.inr (.inr (some 0)), .inl a1, .inl a2] (gr_sh ++ ext) (gr_h I J) r (gr_sh ++ ext) hₚ 0 0 ∧ (∃ (Iₚ : gr_I) (Jₚ : gr_J), hₚ = gr_h Iₚ Jₚ ∧ gr_Inv Iₚ ∧ gr_fr [70] [58] I Iₚ ∧ gr_fj [70] [58] J Jₚ ∧ r = none) := by
  have FI : gr_fr [70] [58] I I := fun _ _ _ => rfl
  have FJ : gr_fj [70] [58] J J := fun _ _ _ => rfl
  have hD : gv_D (gr_E ws0 tb (6 + 2 * nr) (yX13_outApplied, cX13_outApplied, 4, none) kX13_outApplied) := gq_of oX13_outApplied
  refine gr_ev (d := (6 + 2 * nr)) (l := kX13_outApplied) (Po := fun r hₚ => (∃ (Iₚ : gr_I) (Jₚ : gr_J), hₚ = gr_h Iₚ Jₚ ∧ gr_Inv Iₚ ∧ gr_fr [70] [58] I Iₚ ∧ gr_fj [70] [58] J Jₚ ∧ r = none)) htb rfl (Nat.le_of_ble_eq_true rfl) ?_
  have L74 : ∀ (I1 : gr_I) (J2 : gr_J) , gr_Inv I1 → gr_fr [70] [58] I I1 → gr_fj [70] [58] J J2 → ((0 ≤ a1 ∧ a1 ≤ 1299) ∧ (0 ≤ a2 ∧ a2 ≤ 300)) → gv_X (gr_E ws0 tb (6 + 2 * nr) (yX13_outApplied, cX13_outApplied, 4, none) kX13_outApplied) (gv_Q cX13_outApplied none (gr_sh ++ ext) (fun r hₚ => (∃ (Iₚ : gr_I) (Jₚ : gr_J), hₚ = gr_h Iₚ Jₚ ∧ gr_Inv Iₚ ∧ gr_fr [70] [58] I Iₚ ∧ gr_fj [70] [58] J Jₚ ∧ r = none))) (74, [(0, .inr (.inr (some 0))), (1, .inl a1), (2, .inl a2)], [], gr_sh ++ ext, gr_h I1 J2) := by
    intro I1 J2 hI1 FI1 FJ2 m_3
    obtain ⟨ha1_3, ha2_3⟩ := gz_h2 m_3
    have t4 := gz_hi (x0.1)
    have t5 := gz_hi (gr_GH_b x0 (x := a1) ⟨by (/-0-/first | omega | (simp only [gz_hd] at *; omega)), by (/-1-/first | omega | (simp only [gz_hd] at *; omega))⟩)
    have t6 := gz_hi (gr_GH_4 x0 (x := a1) ⟨by (/-2-/first | omega | (simp only [gz_hd] at *; omega)), by (/-3-/first | omega | (simp only [gz_hd] at *; omega))⟩ (by (/-4-/first | omega | (simp only [gz_hd] at *; omega))))
    refine gv_run 5 true hD (pcₚ := 81) (lvₚ := [(0, .inr (.inr (some 0))), (1, .inl a1), (2, .inl a2)]) (stₚ := [.inl (I1 136 (Int.toNat a1)), .inr (.inr (some 0))]) (hₚ := gr_h I1 J2) (C := (((((True ∧ True) ∧ True) ∧ True) ∧ True) ∧ (0 ≤ a1 ∧ a1 < ((2000 : Nat) : Int)))) rfl ⟨⟨⟨⟨⟨trivial, trivial⟩, trivial⟩, trivial⟩, trivial⟩, ⟨by (/-5-/first | omega | (simp only [gz_hd] at *; omega)), by (/-6-/first | omega | (simp only [gz_hd] at *; omega))⟩⟩ ?_
    rw [FI1 136 (Int.toNat a1) rfl]
    have f8 := gz_hi ((gr_b_136 hI (Int.toNat a1)))
    refine gv_run 1 true hD (pcₚ := 82) (lvₚ := [(0, .inr (.inr (some 0))), (1, .inl a1), (2, .inl a2)]) (stₚ := [.inl a2, .inl (I 136 (Int.toNat a1)), .inr (.inr (some 0))]) (hₚ := gr_h I1 J2) (C := (True ∧ True)) rfl ⟨trivial, trivial⟩ ?_
    have t9 := gz_hi (FI1 137 (Int.toNat ((I 136 (Int.toNat a1)))) rfl)
    obtain ⟨r10, h10, E10, P10⟩ := ihR I1 J2 hI1 ((I 136 (Int.toNat a1))) a2 ⟨by (/-7-/first | (have o1 := gz_sh t4; have o2 := gz_sh t6; omega) | (simp only [gz_hd] at *; omega)), by (/-8-/first | (have o1 := gz_sh t4; have o2 := gz_sh t6; omega) | (simp only [gz_hd] at *; omega))⟩ ⟨by (/-9-/first | omega | (simp only [gz_hd] at *; omega)), by (/-10-/first | omega | (simp only [gz_hd] at *; omega))⟩ (gr_GH_F x0 FI1) (by (/-11-/first | (have o1 := gz_sh t6; omega) | (simp only [gz_hd] at *; omega))) (by (/-12-/first | (have o1 := gz_sh t6; omega) | (simp only [gz_hd] at *; omega))) (by rw [FI1 137 _ rfl]; (/-13-/first | (have o1 := gz_sh t6; omega) | (simp only [gz_hd] at *; omega))) (by rw [FI1 137 _ rfl]; (/-14-/first | (have o1 := gz_sh t6; omega) | (simp only [gz_hd] at *; omega))) (by (/-15-/first | (have o1 := gz_sh t5; have o2 := gz_sh t6; have o3 := gz_sh t9; omega) | (simp only [gz_hd] at *; omega)))
    obtain ⟨I11, J12, rfl, hI11, g10, k10, rfl⟩ := P10
    have FI11 := gr_frt FI1 g10 rfl rfl
    have FJ12 := gr_fjt FJ2 k10 rfl rfl
    refine gv_callV hD rfl (As := [.inl (I 136 (Int.toNat a1)), .inl a2]) (st := []) rfl (by decide) rfl rfl (gr_lV hws rfl) (Nat.le_of_ble_eq_true rfl) (gz_Ev_mono (d := (6 + 2 * nr)) (Nat.le_refl _) E10) ?_
    show gv_X _ _ (85, [(0, .inr (.inr (some 0))), (1, .inl a1), (2, .inl a2)], [], gr_sh ++ ext, gr_h I11 J12)
    exact gv_vret hD rfl ⟨I11, J12, rfl, hI11, FI11, FJ12, rfl⟩
  have L47 : ∀ (I13 : gr_I) (J14 : gr_J) (v3_15 : Int), gr_Inv I13 → gr_fr [70] [58] I I13 → gr_fj [70] [58] J J14 → ((0 ≤ a1 ∧ a1 ≤ 1299) ∧ (0 ≤ a2 ∧ a2 ≤ 300) ∧ (0 ≤ v3_15 ∧ v3_15 ≤ 1299) ∧ (v3_15 = I 135 (Int.toNat a1))) → gv_X (gr_E ws0 tb (6 + 2 * nr) (yX13_outApplied, cX13_outApplied, 4, none) kX13_outApplied) (gv_Q cX13_outApplied none (gr_sh ++ ext) (fun r hₚ => (∃ (Iₚ : gr_I) (Jₚ : gr_J), hₚ = gr_h Iₚ Jₚ ∧ gr_Inv Iₚ ∧ gr_fr [70] [58] I Iₚ ∧ gr_fj [70] [58] J Jₚ ∧ r = none))) (47, [(0, .inr (.inr (some 0))), (1, .inl a1), (2, .inl a2), (3, .inl v3_15)], [], gr_sh ++ ext, gr_h I13 J14) := by
    intro I13 J14 v3_15 hI13 FI13 FJ14 m_15
    obtain ⟨ha1_15, ha2_15, hv3_15, e0_15⟩ := gz_h4 m_15
    have L68 : ∀ (I16 : gr_I) (J17 : gr_J) , gr_Inv I16 → gr_fr [70] [58] I I16 → gr_fj [70] [58] J J17 → ((0 ≤ a1 ∧ a1 ≤ 1299) ∧ (0 ≤ a2 ∧ a2 ≤ 300)) → gv_X (gr_E ws0 tb (6 + 2 * nr) (yX13_outApplied, cX13_outApplied, 4, none) kX13_outApplied) (gv_Q cX13_outApplied none (gr_sh ++ ext) (fun r hₚ => (∃ (Iₚ : gr_I) (Jₚ : gr_J), hₚ = gr_h Iₚ Jₚ ∧ gr_Inv Iₚ ∧ gr_fr [70] [58] I Iₚ ∧ gr_fj [70] [58] J Jₚ ∧ r = none))) (68, [(0, .inr (.inr (some 0))), (1, .inl a1), (2, .inl a2)], [], gr_sh ++ ext, gr_h I16 J17) := by
      intro I16 J17 hI16 FI16 FJ17 m_18
      clear ha1_15 ha2_15 hv3_15 e0_15
      obtain ⟨ha1_18, ha2_18⟩ := gz_h2 m_18
      refine gv_run 2 true hD (pcₚ := 71) (lvₚ := [(0, .inr (.inr (some 0))), (1, .inl a1), (2, .inl a2)]) (stₚ := [.inl 40, .inr (.inr (some 0))]) (hₚ := gr_h I16 J17) (C := ((True ∧ True) ∧ True)) rfl ⟨⟨trivial, trivial⟩, trivial⟩ ?_
      obtain ⟨r22, h22, E22, P22⟩ := r_outs (ws0 := ws0) (tb := tb) hws htb ext I16 J17 hI16 40 ⟨by (/-21-/first | omega | (simp only [gz_hd] at *; omega)), by (/-22-/first | omega | (simp only [gz_hd] at *; omega))⟩ 
      obtain ⟨I23, J24, rfl, hI23, g22, k22, rfl⟩ := P22
      have FI23 := gr_frt FI16 g22 rfl rfl
      have FJ24 := gr_fjt FJ17 k22 rfl rfl
      refine gv_callV hD rfl (As := [.inl 40]) (st := []) rfl (by decide) rfl rfl (gr_lV hws rfl) (Nat.le_of_ble_eq_true rfl) (gz_Ev_mono (d := 1) (by (/-23-/first | omega | (simp only [gz_hd] at *; omega))) E22) ?_
      show gv_X _ _ (74, [(0, .inr (.inr (some 0))), (1, .inl a1), (2, .inl a2)], [], gr_sh ++ ext, gr_h I23 J24)
      exact L74 I23 J24 hI23 FI23 FJ24 (by (/-24-/first | (and_intros <;> omega) | (simp only [gz_hd] at *; omega)))
    have t26 := gz_hi (gr_GH_b x0 (x := a1) ⟨by (/-25-/first | omega | (simp only [gz_hd] at *; omega)), by (/-26-/first | omega | (simp only [gz_hd] at *; omega))⟩)
    have t27 := gz_hi (gr_GH_4 x0 (x := a1) ⟨by (/-27-/first | omega | (simp only [gz_hd] at *; omega)), by (/-28-/first | omega | (simp only [gz_hd] at *; omega))⟩ (by (/-29-/first | omega | (simp only [gz_hd] at *; omega))))
    have t28 := gz_hi ((show I 137 (Int.toNat v3_15) = I 137 (Int.toNat (I 135 (Int.toNat a1))) from by rw [show v3_15 = I 135 (Int.toNat a1) from by (/-30-/first | (have o1 := gz_sh e0_15; omega) | (simp only [gz_hd] at *; omega))]))
    have t29 := gz_hi ((show I 137 (5000 + Int.toNat v3_15) = I 137 (5000 + Int.toNat (I 135 (Int.toNat a1))) from by rw [show v3_15 = I 135 (Int.toNat a1) from by (/-31-/first | (have o1 := gz_sh e0_15; omega) | (simp only [gz_hd] at *; omega))]))
    refine gv_run 3 true hD (pcₚ := 50) (lvₚ := [(0, .inr (.inr (some 0))), (1, .inl a1), (2, .inl a2), (3, .inl v3_15)]) (stₚ := [.inl a2, .inl v3_15, .inr (.inr (some 0))]) (hₚ := gr_h I13 J14) (C := (((True ∧ True) ∧ True) ∧ True)) rfl ⟨⟨⟨trivial, trivial⟩, trivial⟩, trivial⟩ ?_
    have t30 := gz_hi (FI13 137 (Int.toNat v3_15) rfl)
    obtain ⟨r31, h31, E31, P31⟩ := ihR I13 J14 hI13 v3_15 a2 ⟨by (/-32-/first | (have o1 := gz_sh hv3_15; omega) | (simp only [gz_hd] at *; omega)), by (/-33-/first | (have o1 := gz_sh hv3_15; omega) | (simp only [gz_hd] at *; omega))⟩ ⟨by (/-34-/first | omega | (simp only [gz_hd] at *; omega)), by (/-35-/first | omega | (simp only [gz_hd] at *; omega))⟩ (gr_GH_F x0 FI13) (by (/-36-/first | (have o1 := gz_sh e0_15; have o2 := gz_sh t27; omega) | (simp only [gz_hd] at *; omega))) (by (/-37-/first | (have o1 := gz_sh e0_15; have o2 := gz_sh t27; omega) | (simp only [gz_hd] at *; omega))) (by rw [FI13 137 _ rfl]; (/-38-/first | (have o1 := gz_sh t27; have o2 := gz_sh t29; omega) | (simp only [gz_hd] at *; omega))) (by rw [FI13 137 _ rfl]; (/-39-/first | (have o1 := gz_sh t27; have o2 := gz_sh t28; omega) | (simp only [gz_hd] at *; omega))) (by (/-40-/first | (have o1 := gz_sh t26; have o2 := gz_sh t27; have o3 := gz_sh t28; have o4 := gz_sh t30; omega) | (simp only [gz_hd] at *; omega)))
    obtain ⟨I32, J33, rfl, hI32, g31, k31, rfl⟩ := P31
    have FI32 := gr_frt FI13 g31 rfl rfl
    have FJ33 := gr_fjt FJ14 k31 rfl rfl
    refine gv_callV hD rfl (As := [.inl v3_15, .inl a2]) (st := []) rfl (by decide) rfl rfl (gr_lV hws rfl) (Nat.le_of_ble_eq_true rfl) (gz_Ev_mono (d := (6 + 2 * nr)) (Nat.le_refl _) E31) ?_
    show gv_X _ _ (53, [(0, .inr (.inr (some 0))), (1, .inl a1), (2, .inl a2), (3, .inl v3_15)], [], gr_sh ++ ext, gr_h I32 J33)
    refine gv_run 4 true hD (pcₚ := 59) (lvₚ := [(0, .inr (.inr (some 0))), (1, .inl a1), (2, .inl a2), (3, .inl v3_15)]) (stₚ := [.inl (I32 134 (Int.toNat v3_15))]) (hₚ := gr_h I32 J33) (C := ((((True ∧ True) ∧ True) ∧ True) ∧ (0 ≤ v3_15 ∧ v3_15 < ((2000 : Nat) : Int)))) rfl ⟨⟨⟨⟨trivial, trivial⟩, trivial⟩, trivial⟩, ⟨by (/-41-/first | (have o1 := gz_sh hv3_15; omega) | (simp only [gz_hd] at *; omega)), by (/-42-/first | (have o1 := gz_sh hv3_15; omega) | (simp only [gz_hd] at *; omega))⟩⟩ ?_
    rw [FI32 134 (Int.toNat v3_15) rfl]
    have f35 := gz_hi ((gr_b_134 hI (Int.toNat v3_15)))
    refine gv_if_ne (t := 68) hD rfl rfl ⟨by (/-43-/first | (have o1 := gz_sh f35; omega) | (simp only [gz_hd] at *; omega)), by (/-44-/first | (have o1 := gz_sh f35; omega) | (simp only [gz_hd] at *; omega))⟩ (fun c36 => ?_) (fun c36 => ?_)
    · refine gv_pick [0, 1, 2] rfl ?_
      exact L68 I32 J33 hI32 FI32 FJ33 (by (/-45-/first | (and_intros <;> omega) | (simp only [gz_hd] at *; omega)))
    · refine gv_run 2 true hD (pcₚ := 65) (lvₚ := [(0, .inr (.inr (some 0))), (1, .inl a1), (2, .inl a2), (3, .inl v3_15)]) (stₚ := [.inl 41, .inr (.inr (some 0))]) (hₚ := gr_h I32 J33) (C := ((True ∧ True) ∧ True)) rfl ⟨⟨trivial, trivial⟩, trivial⟩ ?_
      obtain ⟨r37, h37, E37, P37⟩ := r_outs (ws0 := ws0) (tb := tb) hws htb ext I32 J33 hI32 41 ⟨by (/-46-/first | omega | (simp only [gz_hd] at *; omega)), by (/-47-/first | omega | (simp only [gz_hd] at *; omega))⟩ 
      obtain ⟨I38, J39, rfl, hI38, g37, k37, rfl⟩ := P37
      have FI38 := gr_frt FI32 g37 rfl rfl
      have FJ39 := gr_fjt FJ33 k37 rfl rfl
      refine gv_callV hD rfl (As := [.inl 41]) (st := []) rfl (by decide) rfl rfl (gr_lV hws rfl) (Nat.le_of_ble_eq_true rfl) (gz_Ev_mono (d := 1) (by (/-48-/first | omega | (simp only [gz_hd] at *; omega))) E37) ?_
      show gv_X _ _ (68, [(0, .inr (.inr (some 0))), (1, .inl a1), (2, .inl a2), (3, .inl v3_15)], [], gr_sh ++ ext, gr_h I38 J39)
      refine gv_pick [0, 1, 2] rfl ?_
      exact L68 I38 J39 hI38 FI38 FJ39 (by (/-49-/first | (and_intros <;> omega) | (simp only [gz_hd] at *; omega)))
  have t40 := gz_hi (x0.1)
  have t41 := gz_hi (gr_GH_b x0 (x := a1) ⟨by (/-50-/first | omega | (simp only [gz_hd] at *; omega)), by (/-51-/first | omega | (simp only [gz_hd] at *; omega))⟩)
  have t42 := gz_hi (gr_GH_4 x0 (x := a1) ⟨by (/-52-/first | omega | (simp only [gz_hd] at *; omega)), by (/-53-/first | omega | (simp only [gz_hd] at *; omega))⟩ (by (/-54-/first | omega | (simp only [gz_hd] at *; omega))))
  have f43 := gz_hi ((gr_b_135 hI (Int.toNat a1)))
  refine gv_run 4 true hD (pcₚ := 6) (lvₚ := [(0, .inr (.inr (some 0))), (1, .inl a1), (2, .inl a2)]) (stₚ := [.inl (I 135 (Int.toNat a1))]) (hₚ := gr_h I J) (C := ((((True ∧ True) ∧ True) ∧ True) ∧ (0 ≤ a1 ∧ a1 < ((2000 : Nat) : Int)))) rfl ⟨⟨⟨⟨trivial, trivial⟩, trivial⟩, trivial⟩, ⟨by (/-55-/first | omega | (simp only [gz_hd] at *; omega)), by (/-56-/first | omega | (simp only [gz_hd] at *; omega))⟩⟩ ?_
  have f44 := gz_hi ((gr_b_134 hI (Int.toNat ((I 135 (Int.toNat a1))))))
  refine gv_run 5 true hD (pcₚ := 13) (lvₚ := [(3, .inl (I 135 (Int.toNat a1))), (0, .inr (.inr (some 0))), (1, .inl a1), (2, .inl a2)]) (stₚ := [.inl (I 134 (Int.toNat ((I 135 (Int.toNat a1)))))]) (hₚ := gr_h I J) (C := (((((True ∧ True) ∧ True) ∧ True) ∧ True) ∧ (0 ≤ ((I 135 (Int.toNat a1))) ∧ ((I 135 (Int.toNat a1))) < ((2000 : Nat) : Int)))) rfl ⟨⟨⟨⟨⟨trivial, trivial⟩, trivial⟩, trivial⟩, trivial⟩, ⟨by (/-57-/first | (have o1 := gz_sh t40; have o2 := gz_sh t42; omega) | (simp only [gz_hd] at *; omega)), by (/-58-/first | (have o1 := gz_sh t40; have o2 := gz_sh t42; omega) | (simp only [gz_hd] at *; omega))⟩⟩ ?_
  refine gv_run 1 true hD (pcₚ := 14) (lvₚ := [(3, .inl (I 135 (Int.toNat a1))), (0, .inr (.inr (some 0))), (1, .inl a1), (2, .inl a2)]) (stₚ := [.inl 4, .inl (I 134 (Int.toNat ((I 135 (Int.toNat a1)))))]) (hₚ := gr_h I J) (C := (True ∧ True)) rfl ⟨trivial, trivial⟩ ?_
  refine gv_icmp_ne (t := 32) hD rfl rfl ⟨⟨by (/-59-/first | (have o1 := gz_sh f44; omega) | (simp only [gz_hd] at *; omega)), by (/-60-/first | (have o1 := gz_sh f44; omega) | (simp only [gz_hd] at *; omega))⟩, ⟨by (/-61-/first | omega | (simp only [gz_hd] at *; omega)), by (/-62-/first | omega | (simp only [gz_hd] at *; omega))⟩⟩ (fun c45 => ?_) (fun c45 => ?_)
  · have f46 := gz_hi ((gr_b_134 hI (Int.toNat ((I 135 (Int.toNat a1))))))
    refine gv_run 4 true hD (pcₚ := 38) (lvₚ := [(3, .inl (I 135 (Int.toNat a1))), (0, .inr (.inr (some 0))), (1, .inl a1), (2, .inl a2)]) (stₚ := [.inl (I 134 (Int.toNat ((I 135 (Int.toNat a1)))))]) (hₚ := gr_h I J) (C := ((((True ∧ True) ∧ True) ∧ True) ∧ (0 ≤ ((I 135 (Int.toNat a1))) ∧ ((I 135 (Int.toNat a1))) < ((2000 : Nat) : Int)))) rfl ⟨⟨⟨⟨trivial, trivial⟩, trivial⟩, trivial⟩, ⟨by (/-63-/first | (have o1 := gz_sh t40; have o2 := gz_sh t42; omega) | (simp only [gz_hd] at *; omega)), by (/-64-/first | (have o1 := gz_sh t40; have o2 := gz_sh t42; omega) | (simp only [gz_hd] at *; omega))⟩⟩ ?_
    refine gv_if_ne (t := 47) hD rfl rfl ⟨by (/-65-/first | (have o1 := gz_sh f44; omega) | (simp only [gz_hd] at *; omega)), by (/-66-/first | (have o1 := gz_sh f44; omega) | (simp only [gz_hd] at *; omega))⟩ (fun c47 => ?_) (fun c47 => ?_)
    · refine gv_pick [1, 2, 3, 0] rfl ?_
      exact L47 I J ((I 135 (Int.toNat a1))) hI FI FJ (by (/-67-/first | (and_intros; (omega); (omega); (omega); (omega); (have o1 := gz_sh t40; have o2 := gz_sh t42; omega); (have o1 := gz_sh t40; have o2 := gz_sh t42; omega); (omega)) | (simp only [gz_hd] at *; omega)))
    · refine gv_run 2 true hD (pcₚ := 44) (lvₚ := [(3, .inl (I 135 (Int.toNat a1))), (0, .inr (.inr (some 0))), (1, .inl a1), (2, .inl a2)]) (stₚ := [.inl 40, .inr (.inr (some 0))]) (hₚ := gr_h I J) (C := ((True ∧ True) ∧ True)) rfl ⟨⟨trivial, trivial⟩, trivial⟩ ?_
      obtain ⟨r48, h48, E48, P48⟩ := r_outs (ws0 := ws0) (tb := tb) hws htb ext I J hI 40 ⟨by (/-68-/first | omega | (simp only [gz_hd] at *; omega)), by (/-69-/first | omega | (simp only [gz_hd] at *; omega))⟩ 
      obtain ⟨I49, J50, rfl, hI49, g48, k48, rfl⟩ := P48
      have FI49 := gr_frt FI g48 rfl rfl
      have FJ50 := gr_fjt FJ k48 rfl rfl
      refine gv_callV hD rfl (As := [.inl 40]) (st := []) rfl (by decide) rfl rfl (gr_lV hws rfl) (Nat.le_of_ble_eq_true rfl) (gz_Ev_mono (d := 1) (by (/-70-/first | omega | (simp only [gz_hd] at *; omega))) E48) ?_
      show gv_X _ _ (47, [(3, .inl (I 135 (Int.toNat a1))), (0, .inr (.inr (some 0))), (1, .inl a1), (2, .inl a2)], [], gr_sh ++ ext, gr_h I49 J50)
      refine gv_pick [1, 2, 3, 0] rfl ?_
      exact L47 I49 J50 ((I 135 (Int.toNat a1))) hI49 FI49 FJ50 (by (/-71-/first | (and_intros; (omega); (omega); (omega); (omega); (have o1 := gz_sh t40; have o2 := gz_sh t42; omega); (have o1 := gz_sh t40; have o2 := gz_sh t42; omega); (omega)) | (simp only [gz_hd] at *; omega)))
  · refine gv_run 3 true hD (pcₚ := 20) (lvₚ := [(3, .inl (I 135 (Int.toNat a1))), (0, .inr (.inr (some 0))), (1, .inl a1), (2, .inl a2)]) (stₚ := [.inl a2, .inl (I 135 (Int.toNat a1)), .inr (.inr (some 0))]) (hₚ := gr_h I J) (C := (((True ∧ True) ∧ True) ∧ True)) rfl ⟨⟨⟨trivial, trivial⟩, trivial⟩, trivial⟩ ?_
    obtain ⟨r51, h51, E51, P51⟩ := ihA I J hI ((I 135 (Int.toNat a1))) a2 ⟨by (/-72-/first | (have o1 := gz_sh t40; have o2 := gz_sh t42; omega) | (simp only [gz_hd] at *; omega)), by (/-73-/first | (have o1 := gz_sh t40; have o2 := gz_sh t42; omega) | (simp only [gz_hd] at *; omega))⟩ ⟨by (/-74-/first | omega | (simp only [gz_hd] at *; omega)), by (/-75-/first | omega | (simp only [gz_hd] at *; omega))⟩ x0 (by (/-76-/first | (have o1 := gz_sh t42; omega) | (simp only [gz_hd] at *; omega))) (by (/-77-/first | (have o1 := gz_sh t42; omega) | (simp only [gz_hd] at *; omega))) (by (/-78-/first | (have o1 := gz_sh t42; omega) | (simp only [gz_hd] at *; omega))) (by (/-79-/first | (have o1 := gz_sh t42; omega) | (simp only [gz_hd] at *; omega))) (by (/-80-/first | omega | (simp only [gz_hd] at *; omega))) (by (/-81-/first | (have o1 := gz_sh t41; have o2 := gz_sh t42; omega) | (simp only [gz_hd] at *; omega)))
    obtain ⟨I52, J53, rfl, hI52, g51, k51, rfl⟩ := P51
    have FI52 := gr_frt FI g51 rfl rfl
    have FJ53 := gr_fjt FJ k51 rfl rfl
    refine gv_callV hD rfl (As := [.inl (I 135 (Int.toNat a1)), .inl a2]) (st := []) rfl (by decide) rfl rfl (gr_lV hws rfl) (Nat.le_of_ble_eq_true rfl) (gz_Ev_mono (d := (6 + 2 * nr)) (Nat.le_refl _) E51) ?_
    show gv_X _ _ (23, [(3, .inl (I 135 (Int.toNat a1))), (0, .inr (.inr (some 0))), (1, .inl a1), (2, .inl a2)], [], gr_sh ++ ext, gr_h I52 J53)
    refine gv_run 2 true hD (pcₚ := 26) (lvₚ := [(3, .inl (I 135 (Int.toNat a1))), (0, .inr (.inr (some 0))), (1, .inl a1), (2, .inl a2)]) (stₚ := [.inl 44, .inr (.inr (some 0))]) (hₚ := gr_h I52 J53) (C := ((True ∧ True) ∧ True)) rfl ⟨⟨trivial, trivial⟩, trivial⟩ ?_
    obtain ⟨r54, h54, E54, P54⟩ := r_outs (ws0 := ws0) (tb := tb) hws htb ext I52 J53 hI52 44 ⟨by (/-82-/first | omega | (simp only [gz_hd] at *; omega)), by (/-83-/first | omega | (simp only [gz_hd] at *; omega))⟩ 
    obtain ⟨I55, J56, rfl, hI55, g54, k54, rfl⟩ := P54
    have FI55 := gr_frt FI52 g54 rfl rfl
    have FJ56 := gr_fjt FJ53 k54 rfl rfl
    refine gv_callV hD rfl (As := [.inl 44]) (st := []) rfl (by decide) rfl rfl (gr_lV hws rfl) (Nat.le_of_ble_eq_true rfl) (gz_Ev_mono (d := 1) (by (/-84-/first | omega | (simp only [gz_hd] at *; omega))) E54) ?_
    show gv_X _ _ (29, [(3, .inl (I 135 (Int.toNat a1))), (0, .inr (.inr (some 0))), (1, .inl a1), (2, .inl a2)], [], gr_sh ++ ext, gr_h I55 J56)
    refine gv_run 1 true hD (pcₚ := 74) (lvₚ := [(3, .inl (I 135 (Int.toNat a1))), (0, .inr (.inr (some 0))), (1, .inl a1), (2, .inl a2)]) (stₚ := []) (hₚ := gr_h I55 J56) (C := (True ∧ True)) rfl ⟨trivial, trivial⟩ ?_
    refine gv_pick [1, 2, 3] rfl ?_
    exact L74 I55 J56 hI55 FI55 FJ56 (by (/-85-/first | (and_intros <;> omega) | (simp only [gz_hd] at *; omega)))
set_option maxHeartbeats 8000000 in
set_option maxRecDepth 100000 in
theorem r_outTerm_s {ws0 : List Cond} {tb : String → gz_T} (hws : ∀ w ∈ gr_ws, w ∈ ws0) (htb : tb RX13 = gr_T) (ext : gz_Sh) (a9 : Int) (b9 : Int) (S9 : Int) (nr : Nat) (ihR : ∀ (I : gr_I) (J : gr_J) (hI : gr_Inv I) (a1 : Int) (a2 : Int) (ha1 : 0 ≤ a1 ∧ a1 ≤ 1299) (ha2 : 0 ≤ a2 ∧ a2 ≤ 300) (x0 : gr_GH a9 b9 S9 I) (x1 : a9 ≤ a1) (x2 : a1 < b9) (x3 : I 137 (5000 + (Int.toNat a1)) ≤ a2) (x4 : a2 + I 137 (Int.toNat a1) ≤ 300) (_ : (I 137 (Int.toNat a1)).toNat < nr), ∃ r hₚ, gz_Ev ws0 tb (6 + 2 * nr) (yX13_outTerm, cX13_outTerm, 3, none) [.inr (.inr (some 0)), .inl a1, .inl a2] (gr_sh ++ ext) (gr_h I J) r (gr_sh ++ ext) hₚ 0 0 ∧ (∃ (Iₚ : gr_I) (Jₚ : gr_J), hₚ = gr_h Iₚ Jₚ ∧ gr_Inv Iₚ ∧ gr_fr [70] [58] I Iₚ ∧ gr_fj [70] [58] J Jₚ ∧ r = none)) (ihA : ∀ (I : gr_I) (J : gr_J) (hI : gr_Inv I) (a1 : Int) (a2 : Int) (ha1 : 0 ≤ a1 ∧ a1 ≤ 1299) (ha2 : 0 ≤ a2 ∧ a2 ≤ 300) (x0 : gr_GH a9 b9 S9 I) (x1 : a9 ≤ a1) (x2 : a1 < b9) (x3 : I 137 (5000 + (Int.toNat a1)) ≤ a2) (x4 : a2 + I 137 (Int.toNat a1) ≤ 300) (x5 : I 134 (Int.toNat a1) = 4) (_ : (I 137 (Int.toNat a1)).toNat < nr), ∃ r hₚ, gz_Ev ws0 tb (6 + 2 * nr) (yX13_outApplied, cX13_outApplied, 4, none) [.inr (.inr (some 0)), .inl a1, .inl a2] (gr_sh ++ ext) (gr_h I J) r (gr_sh ++ ext) hₚ 0 0 ∧ (∃ (Iₚ : gr_I) (Jₚ : gr_J), hₚ = gr_h Iₚ Jₚ ∧ gr_Inv Iₚ ∧ gr_fr [70] [58] I Iₚ ∧ gr_fj [70] [58] J Jₚ ∧ r = none)) (I : gr_I) (J : gr_J) (hI : gr_Inv I) (a1 : Int) (a2 : Int) (ha1 : 0 ≤ a1 ∧ a1 ≤ 1299) (ha2 : 0 ≤ a2 ∧ a2 ≤ 300) (x0 : gr_GH a9 b9 S9 I) (x1 : a9 ≤ a1) (x2 : a1 < b9) (x3 : I 137 (5000 + (Int.toNat a1)) ≤ a2) (x4 : a2 + I 137 (Int.toNat a1) ≤ 300) (hnr : (I 137 (Int.toNat a1)).toNat < nr + 1) : ∃ r hₚ, gz_Ev ws0 tb (6 + 2 * nr + 1 + 1) (yX13_outTerm, cX13_outTerm, 3, none) [.inr (.inr (some 0)), .inl a1, .inl a2] (gr_sh ++ ext) (gr_h I J) r (gr_sh ++ ext) hₚ 0 0 ∧ (∃ (Iₚ : gr_I) (Jₚ : gr_J), hₚ = gr_h Iₚ Jₚ ∧ gr_Inv Iₚ ∧ gr_fr [70] [58] I Iₚ ∧ gr_fj [70] [58] J Jₚ ∧ r = none) := by
  have FI : gr_fr [70] [58] I I := fun _ _ _ => rfl
  have FJ : gr_fj [70] [58] J J := fun _ _ _ => rfl
  have hD : gv_D (gr_E ws0 tb (6 + 2 * nr + 1) (yX13_outTerm, cX13_outTerm, 3, none) kX13_outTerm) := gq_of oX13_outTerm
  refine gr_ev (d := (6 + 2 * nr + 1)) (l := kX13_outTerm) (Po := fun r hₚ => (∃ (Iₚ : gr_I) (Jₚ : gr_J), hₚ = gr_h Iₚ Jₚ ∧ gr_Inv Iₚ ∧ gr_fr [70] [58] I Iₚ ∧ gr_fj [70] [58] J Jₚ ∧ r = none)) htb rfl (Nat.le_of_ble_eq_true rfl) ?_
  have L119 : ∀ (I1 : gr_I) (J2 : gr_J) , gr_Inv I1 → gr_fr [70] [58] I I1 → gr_fj [70] [58] J J2 → gv_X (gr_E ws0 tb (6 + 2 * nr + 1) (yX13_outTerm, cX13_outTerm, 3, none) kX13_outTerm) (gv_Q cX13_outTerm none (gr_sh ++ ext) (fun r hₚ => (∃ (Iₚ : gr_I) (Jₚ : gr_J), hₚ = gr_h Iₚ Jₚ ∧ gr_Inv Iₚ ∧ gr_fr [70] [58] I Iₚ ∧ gr_fj [70] [58] J Jₚ ∧ r = none))) (119, [], [], gr_sh ++ ext, gr_h I1 J2) := by
    intro I1 J2 hI1 FI1 FJ2
    exact gv_vret hD rfl ⟨I1, J2, rfl, hI1, FI1, FJ2, rfl⟩
  have f4 := gz_hi ((gr_b_134 hI (Int.toNat a1)))
  refine gv_run 4 true hD (pcₚ := 6) (lvₚ := [(0, .inr (.inr (some 0))), (1, .inl a1), (2, .inl a2)]) (stₚ := [.inl (I 134 (Int.toNat a1))]) (hₚ := gr_h I J) (C := ((((True ∧ True) ∧ True) ∧ True) ∧ (0 ≤ a1 ∧ a1 < ((2000 : Nat) : Int)))) rfl ⟨⟨⟨⟨trivial, trivial⟩, trivial⟩, trivial⟩, ⟨by (/-0-/first | omega | (simp only [gz_hd] at *; omega)), by (/-1-/first | omega | (simp only [gz_hd] at *; omega))⟩⟩ ?_
  by_cases c5 : ((I 134 (Int.toNat a1))) = 0
  · refine gv_tabAt hD 0 rfl ⟨by (/-2-/first | omega | (simp only [gz_hd] at *; omega)), by (/-3-/first | omega | (simp only [gz_hd] at *; omega))⟩ c5 ⟨by decide, by decide⟩ rfl (t := 32) rfl ?_
    have t6 := gz_hi (x0.1)
    have t7 := gz_hi (gr_GH_b x0 (x := a1) ⟨by (/-4-/first | omega | (simp only [gz_hd] at *; omega)), by (/-5-/first | omega | (simp only [gz_hd] at *; omega))⟩)
    have t8 := gz_hi (gr_GH_0 x0 (x := a1) ⟨by (/-6-/first | omega | (simp only [gz_hd] at *; omega)), by (/-7-/first | omega | (simp only [gz_hd] at *; omega))⟩ (by (/-8-/first | omega | (simp only [gz_hd] at *; omega))))
    refine gv_run 2 true hD (pcₚ := 35) (lvₚ := [(0, .inr (.inr (some 0))), (1, .inl a1), (2, .inl a2)]) (stₚ := [.inl 92, .inr (.inr (some 0))]) (hₚ := gr_h I J) (C := ((True ∧ True) ∧ True)) rfl ⟨⟨trivial, trivial⟩, trivial⟩ ?_
    obtain ⟨r9, h9, E9, P9⟩ := r_outs (ws0 := ws0) (tb := tb) hws htb ext I J hI 92 ⟨by (/-9-/first | omega | (simp only [gz_hd] at *; omega)), by (/-10-/first | omega | (simp only [gz_hd] at *; omega))⟩ 
    obtain ⟨I10, J11, rfl, hI10, g9, k9, rfl⟩ := P9
    have FI10 := gr_frt FI g9 rfl rfl
    have FJ11 := gr_fjt FJ k9 rfl rfl
    refine gv_callV hD rfl (As := [.inl 92]) (st := []) rfl (by decide) rfl rfl (gr_lV hws rfl) (Nat.le_of_ble_eq_true rfl) (gz_Ev_mono (d := 1) (by (/-11-/first | omega | (simp only [gz_hd] at *; omega))) E9) ?_
    show gv_X _ _ (38, [(0, .inr (.inr (some 0))), (1, .inl a1), (2, .inl a2)], [], gr_sh ++ ext, gr_h I10 J11)
    refine gv_run 2 true hD (pcₚ := 41) (lvₚ := [(0, .inr (.inr (some 0))), (1, .inl a1), (2, .inl a2)]) (stₚ := [.inl 118, .inr (.inr (some 0))]) (hₚ := gr_h I10 J11) (C := ((True ∧ True) ∧ True)) rfl ⟨⟨trivial, trivial⟩, trivial⟩ ?_
    obtain ⟨r12, h12, E12, P12⟩ := r_outs (ws0 := ws0) (tb := tb) hws htb ext I10 J11 hI10 118 ⟨by (/-12-/first | omega | (simp only [gz_hd] at *; omega)), by (/-13-/first | omega | (simp only [gz_hd] at *; omega))⟩ 
    obtain ⟨I13, J14, rfl, hI13, g12, k12, rfl⟩ := P12
    have FI13 := gr_frt FI10 g12 rfl rfl
    have FJ14 := gr_fjt FJ11 k12 rfl rfl
    refine gv_callV hD rfl (As := [.inl 118]) (st := []) rfl (by decide) rfl rfl (gr_lV hws rfl) (Nat.le_of_ble_eq_true rfl) (gz_Ev_mono (d := 1) (by (/-14-/first | omega | (simp only [gz_hd] at *; omega))) E12) ?_
    show gv_X _ _ (44, [(0, .inr (.inr (some 0))), (1, .inl a1), (2, .inl a2)], [], gr_sh ++ ext, gr_h I13 J14)
    refine gv_run 4 true hD (pcₚ := 48) (lvₚ := [(0, .inr (.inr (some 0))), (1, .inl a1), (2, .inl a2)]) (stₚ := [.inl (a2 + 1), .inr (.inr (some 0))]) (hₚ := gr_h I13 J14) (C := ((((True ∧ True) ∧ True) ∧ True) ∧ True)) rfl ⟨⟨⟨⟨trivial, trivial⟩, trivial⟩, trivial⟩, trivial⟩ ?_
    obtain ⟨r15, h15, E15, P15⟩ := r_outNumber (ws0 := ws0) (tb := tb) hws htb ext 4 I13 J14 hI13 (a2 + 1) ⟨by (/-15-/first | omega | (simp only [gz_hd] at *; omega)), by (/-16-/first | omega | (simp only [gz_hd] at *; omega))⟩  (by (/-17-/first | omega | (simp only [gz_hd] at *; omega)))
    obtain ⟨I16, J17, rfl, hI16, g15, k15, rfl⟩ := P15
    have FI16 := gr_frt FI13 g15 rfl rfl
    have FJ17 := gr_fjt FJ14 k15 rfl rfl
    refine gv_callV hD rfl (As := [.inl (a2 + 1)]) (st := []) rfl (by decide) rfl rfl (gr_lV hws rfl) (Nat.le_of_ble_eq_true rfl) (gz_Ev_mono (d := 5) (by (/-18-/first | omega | (simp only [gz_hd] at *; omega))) E15) ?_
    show gv_X _ _ (51, [(0, .inr (.inr (some 0))), (1, .inl a1), (2, .inl a2)], [], gr_sh ++ ext, gr_h I16 J17)
    refine gv_run 2 true hD (pcₚ := 54) (lvₚ := [(0, .inr (.inr (some 0))), (1, .inl a1), (2, .inl a2)]) (stₚ := [.inl 46, .inr (.inr (some 0))]) (hₚ := gr_h I16 J17) (C := ((True ∧ True) ∧ True)) rfl ⟨⟨trivial, trivial⟩, trivial⟩ ?_
    obtain ⟨r18, h18, E18, P18⟩ := r_outs (ws0 := ws0) (tb := tb) hws htb ext I16 J17 hI16 46 ⟨by (/-19-/first | omega | (simp only [gz_hd] at *; omega)), by (/-20-/first | omega | (simp only [gz_hd] at *; omega))⟩ 
    obtain ⟨I19, J20, rfl, hI19, g18, k18, rfl⟩ := P18
    have FI19 := gr_frt FI16 g18 rfl rfl
    have FJ20 := gr_fjt FJ17 k18 rfl rfl
    refine gv_callV hD rfl (As := [.inl 46]) (st := []) rfl (by decide) rfl rfl (gr_lV hws rfl) (Nat.le_of_ble_eq_true rfl) (gz_Ev_mono (d := 1) (by (/-21-/first | omega | (simp only [gz_hd] at *; omega))) E18) ?_
    show gv_X _ _ (57, [(0, .inr (.inr (some 0))), (1, .inl a1), (2, .inl a2)], [], gr_sh ++ ext, gr_h I19 J20)
    refine gv_run 5 true hD (pcₚ := 64) (lvₚ := [(0, .inr (.inr (some 0))), (1, .inl a1), (2, .inl a2)]) (stₚ := [.inl (I19 135 (Int.toNat a1)), .inr (.inr (some 0))]) (hₚ := gr_h I19 J20) (C := (((((True ∧ True) ∧ True) ∧ True) ∧ True) ∧ (0 ≤ a1 ∧ a1 < ((2000 : Nat) : Int)))) rfl ⟨⟨⟨⟨⟨trivial, trivial⟩, trivial⟩, trivial⟩, trivial⟩, ⟨by (/-22-/first | omega | (simp only [gz_hd] at *; omega)), by (/-23-/first | omega | (simp only [gz_hd] at *; omega))⟩⟩ ?_
    rw [FI19 135 (Int.toNat a1) rfl]
    have f22 := gz_hi ((gr_b_135 hI (Int.toNat a1)))
    refine gv_run 3 true hD (pcₚ := 67) (lvₚ := [(0, .inr (.inr (some 0))), (1, .inl a1), (2, .inl a2)]) (stₚ := [.inl (a2 + 1), .inl (I 135 (Int.toNat a1)), .inr (.inr (some 0))]) (hₚ := gr_h I19 J20) (C := (((True ∧ True) ∧ True) ∧ True)) rfl ⟨⟨⟨trivial, trivial⟩, trivial⟩, trivial⟩ ?_
    have t23 := gz_hi (FI19 137 (Int.toNat ((I 135 (Int.toNat a1)))) rfl)
    obtain ⟨r24, h24, E24, P24⟩ := ihR I19 J20 hI19 ((I 135 (Int.toNat a1))) (a2 + 1) ⟨by (/-24-/first | (have o1 := gz_sh t6; have o2 := gz_sh t8; omega) | (simp only [gz_hd] at *; omega)), by (/-25-/first | (have o1 := gz_sh t6; have o2 := gz_sh t8; omega) | (simp only [gz_hd] at *; omega))⟩ ⟨by (/-26-/first | omega | (simp only [gz_hd] at *; omega)), by (/-27-/first | (have o1 := gz_sh t7; omega) | (simp only [gz_hd] at *; omega))⟩ (gr_GH_F x0 FI19) (by (/-28-/first | (have o1 := gz_sh t8; omega) | (simp only [gz_hd] at *; omega))) (by (/-29-/first | (have o1 := gz_sh t8; omega) | (simp only [gz_hd] at *; omega))) (by rw [FI19 137 _ rfl]; (/-30-/first | (have o1 := gz_sh t8; omega) | (simp only [gz_hd] at *; omega))) (by rw [FI19 137 _ rfl]; (/-31-/first | (have o1 := gz_sh t8; omega) | (simp only [gz_hd] at *; omega))) (by (/-32-/first | (have o1 := gz_sh t23; have o2 := gz_sh t7; have o3 := gz_sh t8; omega) | (simp only [gz_hd] at *; omega)))
    obtain ⟨I25, J26, rfl, hI25, g24, k24, rfl⟩ := P24
    have FI25 := gr_frt FI19 g24 rfl rfl
    have FJ26 := gr_fjt FJ20 k24 rfl rfl
    refine gv_callV hD rfl (As := [.inl (I 135 (Int.toNat a1)), .inl (a2 + 1)]) (st := []) rfl (by decide) rfl rfl (gr_lV hws rfl) (Nat.le_of_ble_eq_true rfl) (gz_Ev_mono (d := (6 + 2 * nr)) (by (/-33-/first | omega | (simp only [gz_hd] at *; omega))) E24) ?_
    show gv_X _ _ (70, [(0, .inr (.inr (some 0))), (1, .inl a1), (2, .inl a2)], [], gr_sh ++ ext, gr_h I25 J26)
    refine gv_run 1 true hD (pcₚ := 119) (lvₚ := [(0, .inr (.inr (some 0))), (1, .inl a1), (2, .inl a2)]) (stₚ := []) (hₚ := gr_h I25 J26) (C := (True ∧ True)) rfl ⟨trivial, trivial⟩ ?_
    refine gv_pick [] rfl ?_
    exact L119 I25 J26 hI25 FI25 FJ26
  by_cases c27 : ((I 134 (Int.toNat a1))) = 1
  · refine gv_tabAt hD 1 rfl ⟨by (/-34-/first | omega | (simp only [gz_hd] at *; omega)), by (/-35-/first | omega | (simp only [gz_hd] at *; omega))⟩ c27 ⟨by decide, by decide⟩ rfl (t := 73) rfl ?_
    have t29 := gz_hi (gr_GH_b x0 (x := a1) ⟨by (/-36-/first | omega | (simp only [gz_hd] at *; omega)), by (/-37-/first | omega | (simp only [gz_hd] at *; omega))⟩)
    have t30 := gz_hi (gr_GH_1 x0 (x := a1) ⟨by (/-38-/first | omega | (simp only [gz_hd] at *; omega)), by (/-39-/first | omega | (simp only [gz_hd] at *; omega))⟩ (by (/-40-/first | omega | (simp only [gz_hd] at *; omega))))
    refine gv_run 2 true hD (pcₚ := 76) (lvₚ := [(0, .inr (.inr (some 0))), (1, .inl a1), (2, .inl a2)]) (stₚ := [.inl 118, .inr (.inr (some 0))]) (hₚ := gr_h I J) (C := ((True ∧ True) ∧ True)) rfl ⟨⟨trivial, trivial⟩, trivial⟩ ?_
    obtain ⟨r31, h31, E31, P31⟩ := r_outs (ws0 := ws0) (tb := tb) hws htb ext I J hI 118 ⟨by (/-41-/first | omega | (simp only [gz_hd] at *; omega)), by (/-42-/first | omega | (simp only [gz_hd] at *; omega))⟩ 
    obtain ⟨I32, J33, rfl, hI32, g31, k31, rfl⟩ := P31
    have FI32 := gr_frt FI g31 rfl rfl
    have FJ33 := gr_fjt FJ k31 rfl rfl
    refine gv_callV hD rfl (As := [.inl 118]) (st := []) rfl (by decide) rfl rfl (gr_lV hws rfl) (Nat.le_of_ble_eq_true rfl) (gz_Ev_mono (d := 1) (by (/-43-/first | omega | (simp only [gz_hd] at *; omega))) E31) ?_
    show gv_X _ _ (79, [(0, .inr (.inr (some 0))), (1, .inl a1), (2, .inl a2)], [], gr_sh ++ ext, gr_h I32 J33)
    refine gv_run 6 true hD (pcₚ := 87) (lvₚ := [(0, .inr (.inr (some 0))), (1, .inl a1), (2, .inl a2)]) (stₚ := [.inl (I32 135 (Int.toNat a1)), .inl a2, .inr (.inr (some 0))]) (hₚ := gr_h I32 J33) (C := ((((((True ∧ True) ∧ True) ∧ True) ∧ True) ∧ True) ∧ (0 ≤ a1 ∧ a1 < ((2000 : Nat) : Int)))) rfl ⟨⟨⟨⟨⟨⟨trivial, trivial⟩, trivial⟩, trivial⟩, trivial⟩, trivial⟩, ⟨by (/-44-/first | omega | (simp only [gz_hd] at *; omega)), by (/-45-/first | omega | (simp only [gz_hd] at *; omega))⟩⟩ ?_
    rw [FI32 135 (Int.toNat a1) rfl]
    have f35 := gz_hi ((gr_b_135 hI (Int.toNat a1)))
    refine gv_run 1 true hD (pcₚ := 88) (lvₚ := [(0, .inr (.inr (some 0))), (1, .inl a1), (2, .inl a2)]) (stₚ := [.inl (a2 - (I 135 (Int.toNat a1))), .inr (.inr (some 0))]) (hₚ := gr_h I32 J33) (C := (True ∧ True)) rfl ⟨trivial, trivial⟩ ?_
    obtain ⟨r36, h36, E36, P36⟩ := r_outNumber (ws0 := ws0) (tb := tb) hws htb ext 4 I32 J33 hI32 ((a2 - (I 135 (Int.toNat a1)))) ⟨by (/-46-/first | (have o1 := gz_sh t30; omega) | (simp only [gz_hd] at *; omega)), by (/-47-/first | (have o1 := gz_sh t29; have o2 := gz_sh t30; omega) | (simp only [gz_hd] at *; omega))⟩  (by (/-48-/first | omega | (simp only [gz_hd] at *; omega)))
    obtain ⟨I37, J38, rfl, hI37, g36, k36, rfl⟩ := P36
    have FI37 := gr_frt FI32 g36 rfl rfl
    have FJ38 := gr_fjt FJ33 k36 rfl rfl
    refine gv_callV hD rfl (As := [.inl (a2 - (I 135 (Int.toNat a1)))]) (st := []) rfl (by decide) rfl rfl (gr_lV hws rfl) (Nat.le_of_ble_eq_true rfl) (gz_Ev_mono (d := 5) (by (/-49-/first | omega | (simp only [gz_hd] at *; omega))) E36) ?_
    show gv_X _ _ (91, [(0, .inr (.inr (some 0))), (1, .inl a1), (2, .inl a2)], [], gr_sh ++ ext, gr_h I37 J38)
    refine gv_run 1 true hD (pcₚ := 119) (lvₚ := [(0, .inr (.inr (some 0))), (1, .inl a1), (2, .inl a2)]) (stₚ := []) (hₚ := gr_h I37 J38) (C := (True ∧ True)) rfl ⟨trivial, trivial⟩ ?_
    refine gv_pick [] rfl ?_
    exact L119 I37 J38 hI37 FI37 FJ38
  by_cases c39 : ((I 134 (Int.toNat a1))) = 2
  · refine gv_tabAt hD 2 rfl ⟨by (/-50-/first | omega | (simp only [gz_hd] at *; omega)), by (/-51-/first | omega | (simp only [gz_hd] at *; omega))⟩ c39 ⟨by decide, by decide⟩ rfl (t := 94) rfl ?_
    refine gv_run 5 true hD (pcₚ := 101) (lvₚ := [(0, .inr (.inr (some 0))), (1, .inl a1), (2, .inl a2)]) (stₚ := [.inr (.inl (J 137 (Int.toNat a1))), .inr (.inr (some 0))]) (hₚ := gr_h I J) (C := (((((True ∧ True) ∧ True) ∧ True) ∧ True) ∧ (0 ≤ a1 ∧ a1 < ((2000 : Nat) : Int)))) rfl ⟨⟨⟨⟨⟨trivial, trivial⟩, trivial⟩, trivial⟩, trivial⟩, ⟨by (/-54-/first | omega | (simp only [gz_hd] at *; omega)), by (/-55-/first | omega | (simp only [gz_hd] at *; omega))⟩⟩ ?_
    obtain ⟨r42, h42, E42, P42⟩ := r_outName (ws0 := ws0) (tb := tb) hws htb ext I J hI ((J 137 (Int.toNat a1)))  
    obtain ⟨I43, J44, rfl, hI43, g42, k42, rfl⟩ := P42
    have FI43 := gr_frt FI g42 rfl rfl
    have FJ44 := gr_fjt FJ k42 rfl rfl
    refine gv_callV hD rfl (As := [.inr (.inl (J 137 (Int.toNat a1)))]) (st := []) rfl (by decide) rfl rfl (gr_lV hws rfl) (Nat.le_of_ble_eq_true rfl) (gz_Ev_mono (d := 2) (by (/-56-/first | omega | (simp only [gz_hd] at *; omega))) E42) ?_
    show gv_X _ _ (104, [(0, .inr (.inr (some 0))), (1, .inl a1), (2, .inl a2)], [], gr_sh ++ ext, gr_h I43 J44)
    refine gv_run 1 true hD (pcₚ := 119) (lvₚ := [(0, .inr (.inr (some 0))), (1, .inl a1), (2, .inl a2)]) (stₚ := []) (hₚ := gr_h I43 J44) (C := (True ∧ True)) rfl ⟨trivial, trivial⟩ ?_
    refine gv_pick [] rfl ?_
    exact L119 I43 J44 hI43 FI43 FJ44
  refine gv_tabOut hD rfl ⟨by (/-57-/first | (have o1 := gz_sh f4; omega) | (simp only [gz_hd] at *; omega)), by (/-58-/first | (have o1 := gz_sh f4; omega) | (simp only [gz_hd] at *; omega))⟩ (by (/-59-/first | (have o1 := gz_sh f4; omega) | (simp only [gz_hd] at *; omega))) (t := 107) rfl ?_
  have t47 := gz_hi (gr_GH_k x0 (x := a1) ⟨by (/-62-/first | omega | (simp only [gz_hd] at *; omega)), by (/-63-/first | omega | (simp only [gz_hd] at *; omega))⟩)
  refine gv_run 3 true hD (pcₚ := 110) (lvₚ := [(0, .inr (.inr (some 0))), (1, .inl a1), (2, .inl a2)]) (stₚ := [.inl a2, .inl a1, .inr (.inr (some 0))]) (hₚ := gr_h I J) (C := (((True ∧ True) ∧ True) ∧ True)) rfl ⟨⟨⟨trivial, trivial⟩, trivial⟩, trivial⟩ ?_
  obtain ⟨r48, h48, E48, P48⟩ := r_outApplied (ws0 := ws0) (tb := tb) hws htb ext a9 b9 S9 nr ihR ihA I J hI a1 a2 ⟨by (/-64-/first | omega | (simp only [gz_hd] at *; omega)), by (/-65-/first | omega | (simp only [gz_hd] at *; omega))⟩ ⟨by (/-66-/first | omega | (simp only [gz_hd] at *; omega)), by (/-67-/first | omega | (simp only [gz_hd] at *; omega))⟩ x0 (by (/-68-/first | omega | (simp only [gz_hd] at *; omega))) (by (/-69-/first | omega | (simp only [gz_hd] at *; omega))) (by (/-70-/first | omega | (simp only [gz_hd] at *; omega))) (by (/-71-/first | omega | (simp only [gz_hd] at *; omega))) (by (/-72-/first | (have o1 := gz_sh f4; have o2 := gz_sh t47; omega) | (simp only [gz_hd] at *; omega))) (by (/-73-/first | omega | (simp only [gz_hd] at *; omega)))
  obtain ⟨I49, J50, rfl, hI49, g48, k48, rfl⟩ := P48
  have FI49 := gr_frt FI g48 rfl rfl
  have FJ50 := gr_fjt FJ k48 rfl rfl
  refine gv_callV hD rfl (As := [.inl a1, .inl a2]) (st := []) rfl (by decide) rfl rfl (gr_lV hws rfl) (Nat.le_of_ble_eq_true rfl) (gz_Ev_mono (d := (6 + 2 * nr + 1)) (Nat.le_refl _) E48) ?_
  show gv_X _ _ (113, [(0, .inr (.inr (some 0))), (1, .inl a1), (2, .inl a2)], [], gr_sh ++ ext, gr_h I49 J50)
  refine gv_run 2 true hD (pcₚ := 116) (lvₚ := [(0, .inr (.inr (some 0))), (1, .inl a1), (2, .inl a2)]) (stₚ := [.inl 41, .inr (.inr (some 0))]) (hₚ := gr_h I49 J50) (C := ((True ∧ True) ∧ True)) rfl ⟨⟨trivial, trivial⟩, trivial⟩ ?_
  obtain ⟨r51, h51, E51, P51⟩ := r_outs (ws0 := ws0) (tb := tb) hws htb ext I49 J50 hI49 41 ⟨by (/-74-/first | omega | (simp only [gz_hd] at *; omega)), by (/-75-/first | omega | (simp only [gz_hd] at *; omega))⟩ 
  obtain ⟨I52, J53, rfl, hI52, g51, k51, rfl⟩ := P51
  have FI52 := gr_frt FI49 g51 rfl rfl
  have FJ53 := gr_fjt FJ50 k51 rfl rfl
  refine gv_callV hD rfl (As := [.inl 41]) (st := []) rfl (by decide) rfl rfl (gr_lV hws rfl) (Nat.le_of_ble_eq_true rfl) (gz_Ev_mono (d := 1) (by (/-76-/first | omega | (simp only [gz_hd] at *; omega))) E51) ?_
  show gv_X _ _ (119, [(0, .inr (.inr (some 0))), (1, .inl a1), (2, .inl a2)], [], gr_sh ++ ext, gr_h I52 J53)
  refine gv_pick [] rfl ?_
  exact L119 I52 J53 hI52 FI52 FJ53
theorem r_outBoth {ws0 : List Cond} {tb : String → gz_T} (hws : ∀ w ∈ gr_ws, w ∈ ws0) (htb : tb RX13 = gr_T) (ext : gz_Sh) (a9 : Int) (b9 : Int) (S9 : Int) : ∀ nr : Nat, (∀ (I : gr_I) (J : gr_J) (hI : gr_Inv I) (a1 : Int) (a2 : Int) (ha1 : 0 ≤ a1 ∧ a1 ≤ 1299) (ha2 : 0 ≤ a2 ∧ a2 ≤ 300) (x0 : gr_GH a9 b9 S9 I) (x1 : a9 ≤ a1) (x2 : a1 < b9) (x3 : I 137 (5000 + (Int.toNat a1)) ≤ a2) (x4 : a2 + I 137 (Int.toNat a1) ≤ 300) (_ : (I 137 (Int.toNat a1)).toNat < nr), ∃ r hₚ, gz_Ev ws0 tb (6 + 2 * nr) (yX13_outTerm, cX13_outTerm, 3, none) [.inr (.inr (some 0)), .inl a1, .inl a2] (gr_sh ++ ext) (gr_h I J) r (gr_sh ++ ext) hₚ 0 0 ∧ (∃ (Iₚ : gr_I) (Jₚ : gr_J), hₚ = gr_h Iₚ Jₚ ∧ gr_Inv Iₚ ∧ gr_fr [70] [58] I Iₚ ∧ gr_fj [70] [58] J Jₚ ∧ r = none)) ∧ (∀ (I : gr_I) (J : gr_J) (hI : gr_Inv I) (a1 : Int) (a2 : Int) (ha1 : 0 ≤ a1 ∧ a1 ≤ 1299) (ha2 : 0 ≤ a2 ∧ a2 ≤ 300) (x0 : gr_GH a9 b9 S9 I) (x1 : a9 ≤ a1) (x2 : a1 < b9) (x3 : I 137 (5000 + (Int.toNat a1)) ≤ a2) (x4 : a2 + I 137 (Int.toNat a1) ≤ 300) (x5 : I 134 (Int.toNat a1) = 4) (_ : (I 137 (Int.toNat a1)).toNat < nr), ∃ r hₚ, gz_Ev ws0 tb (6 + 2 * nr) (yX13_outApplied, cX13_outApplied, 4, none) [.inr (.inr (some 0)), .inl a1, .inl a2] (gr_sh ++ ext) (gr_h I J) r (gr_sh ++ ext) hₚ 0 0 ∧ (∃ (Iₚ : gr_I) (Jₚ : gr_J), hₚ = gr_h Iₚ Jₚ ∧ gr_Inv Iₚ ∧ gr_fr [70] [58] I Iₚ ∧ gr_fj [70] [58] J Jₚ ∧ r = none)) := by
  intro nr
  induction nr with
  | zero => exact ⟨fun I J hI a1 a2 ha1 ha2 x0 x1 x2 x3 x4 h => by omega, fun I J hI a1 a2 ha1 ha2 x0 x1 x2 x3 x4 x5 h => by omega⟩
  | succ nr ih =>
    refine ⟨fun I J hI a1 a2 ha1 ha2 x0 x1 x2 x3 x4 h => r_outTerm_s hws htb ext a9 b9 S9 nr ih.1 ih.2 I J hI a1 a2 ha1 ha2 x0 x1 x2 x3 x4 h, fun I J hI a1 a2 ha1 ha2 x0 x1 x2 x3 x4 x5 h => ?_⟩
    obtain ⟨r, hₚ, E, P⟩ := r_outApplied hws htb ext a9 b9 S9 nr ih.1 ih.2 I J hI a1 a2 ha1 ha2 x0 x1 x2 x3 x4 x5 h
    exact ⟨r, hₚ, gz_Ev_mono (by omega) E, P⟩
theorem r_outTerm {ws0 : List Cond} {tb : String → gz_T} (hws : ∀ w ∈ gr_ws, w ∈ ws0) (htb : tb RX13 = gr_T) (ext : gz_Sh) (a9 : Int) (b9 : Int) (S9 : Int) : ∀ (nr : Nat) (I : gr_I) (J : gr_J) (hI : gr_Inv I) (a1 : Int) (a2 : Int) (ha1 : 0 ≤ a1 ∧ a1 ≤ 1299) (ha2 : 0 ≤ a2 ∧ a2 ≤ 300) (x0 : gr_GH a9 b9 S9 I) (x1 : a9 ≤ a1) (x2 : a1 < b9) (x3 : I 137 (5000 + (Int.toNat a1)) ≤ a2) (x4 : a2 + I 137 (Int.toNat a1) ≤ 300) (_ : (I 137 (Int.toNat a1)).toNat < nr), ∃ r hₚ, gz_Ev ws0 tb (6 + 2 * nr) (yX13_outTerm, cX13_outTerm, 3, none) [.inr (.inr (some 0)), .inl a1, .inl a2] (gr_sh ++ ext) (gr_h I J) r (gr_sh ++ ext) hₚ 0 0 ∧ (∃ (Iₚ : gr_I) (Jₚ : gr_J), hₚ = gr_h Iₚ Jₚ ∧ gr_Inv Iₚ ∧ gr_fr [70] [58] I Iₚ ∧ gr_fj [70] [58] J Jₚ ∧ r = none) := fun nr => (r_outBoth hws htb ext a9 b9 S9 nr).1
