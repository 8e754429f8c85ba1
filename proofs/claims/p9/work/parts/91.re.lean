set_option maxHeartbeats 8000000 in
set_option maxRecDepth 100000 in
theorem r_thingOf {ws0 : List Cond} {tb : String → gz_T} (hws : ∀ w ∈ gr_ws, w ∈ ws0) (htb : tb RX13 = gr_T) (ext : gz_Sh) (I : gr_I) (J : gr_J) (hI : gr_Inv I) (a1 : Int) (ha1 : 0 ≤ a1 ∧ a1 ≤ 1299) (x0 : I 134 (a1).toNat = 1 → 0 ≤ I 135 (a1).toNat ∧ I 135 (a1).toNat < I 0 220) : ∃ r hₚ, gz_Ev ws0 tb 2 (yX13_thingOf, cX13_thingOf, 2, (some .int)) [.inr (.inr (some 0)), .inl a1] (gr_sh ++ ext) (gr_h I J) r (gr_sh ++ ext) hₚ 0 0 ∧ (hₚ = gr_h I J ∧ (∃ z : Int, r = some (.inl z) ∧ (-2147483648) ≤ z ∧ z ≤ 2147483647)) := by
  have hD : gv_D (gr_E ws0 tb 1 (yX13_thingOf, cX13_thingOf, 2, (some .int)) kX13_thingOf) := gq_of oX13_thingOf
  refine gr_ev (d := 1) (l := kX13_thingOf) (Po := fun r hₚ => (hₚ = gr_h I J ∧ (∃ z : Int, r = some (.inl z) ∧ (-2147483648) ≤ z ∧ z ≤ 2147483647))) htb rfl (Nat.le_of_ble_eq_true rfl) ?_
  have f1 := gz_hi ((gr_b_0_220 hI))
  have f2 := gz_hi ((gr_b_0_4 hI))
  have L61 : ∀ (s0_3 : Int), (((-2147483648) ≤ s0_3 ∧ s0_3 ≤ 2147483647)) → gv_X (gr_E ws0 tb 1 (yX13_thingOf, cX13_thingOf, 2, (some .int)) kX13_thingOf) (gv_Q cX13_thingOf (some .int) (gr_sh ++ ext) (fun r hₚ => (hₚ = gr_h I J ∧ (∃ z : Int, r = some (.inl z) ∧ (-2147483648) ≤ z ∧ z ≤ 2147483647)))) (61, [], [.inl s0_3], gr_sh ++ ext, gr_h I J) := by
    intro s0_3 m_3
    have hs0_3 := m_3
    exact gv_iret hD rfl ⟨rfl, ⟨_, rfl, by (/-0-/first | omega | (simp only [gz_hd] at *; omega))⟩⟩
  have f6 := gz_hi ((gr_b_134 hI (Int.toNat a1)))
  refine gv_run 4 true hD (pcₚ := 6) (lvₚ := [(0, .inr (.inr (some 0))), (1, .inl a1)]) (stₚ := [.inl (I 134 (Int.toNat a1))]) (hₚ := gr_h I J) (C := ((((True ∧ True) ∧ True) ∧ True) ∧ (0 ≤ a1 ∧ a1 < ((2000 : Nat) : Int)))) rfl ⟨⟨⟨⟨trivial, trivial⟩, trivial⟩, trivial⟩, ⟨by (/-1-/first | omega | (simp only [gz_hd] at *; omega)), by (/-2-/first | omega | (simp only [gz_hd] at *; omega))⟩⟩ ?_
  refine gv_run 1 true hD (pcₚ := 7) (lvₚ := [(0, .inr (.inr (some 0))), (1, .inl a1)]) (stₚ := [.inl 2, .inl (I 134 (Int.toNat a1))]) (hₚ := gr_h I J) (C := (True ∧ True)) rfl ⟨trivial, trivial⟩ ?_
  refine gv_icmp_ne (t := 29) hD rfl rfl ⟨⟨by (/-3-/first | (have o1 := gz_sh f6; omega) | (simp only [gz_hd] at *; omega)), by (/-4-/first | (have o1 := gz_sh f6; omega) | (simp only [gz_hd] at *; omega))⟩, ⟨by (/-5-/first | omega | (simp only [gz_hd] at *; omega)), by (/-6-/first | omega | (simp only [gz_hd] at *; omega))⟩⟩ (fun c7 => ?_) (fun c7 => ?_)
  · have f8 := gz_hi ((gr_b_134 hI (Int.toNat a1)))
    refine gv_run 4 true hD (pcₚ := 35) (lvₚ := [(0, .inr (.inr (some 0))), (1, .inl a1)]) (stₚ := [.inl (I 134 (Int.toNat a1))]) (hₚ := gr_h I J) (C := ((((True ∧ True) ∧ True) ∧ True) ∧ (0 ≤ a1 ∧ a1 < ((2000 : Nat) : Int)))) rfl ⟨⟨⟨⟨trivial, trivial⟩, trivial⟩, trivial⟩, ⟨by (/-7-/first | omega | (simp only [gz_hd] at *; omega)), by (/-8-/first | omega | (simp only [gz_hd] at *; omega))⟩⟩ ?_
    refine gv_run 1 true hD (pcₚ := 36) (lvₚ := [(0, .inr (.inr (some 0))), (1, .inl a1)]) (stₚ := [.inl 1, .inl (I 134 (Int.toNat a1))]) (hₚ := gr_h I J) (C := (True ∧ True)) rfl ⟨trivial, trivial⟩ ?_
    refine gv_icmp_ne (t := 60) hD rfl rfl ⟨⟨by (/-9-/first | (have o1 := gz_sh f6; omega) | (simp only [gz_hd] at *; omega)), by (/-10-/first | (have o1 := gz_sh f6; omega) | (simp only [gz_hd] at *; omega))⟩, ⟨by (/-11-/first | omega | (simp only [gz_hd] at *; omega)), by (/-12-/first | omega | (simp only [gz_hd] at *; omega))⟩⟩ (fun c9 => ?_) (fun c9 => ?_)
    · refine gv_run 1 true hD (pcₚ := 61) (lvₚ := [(0, .inr (.inr (some 0))), (1, .inl a1)]) (stₚ := [.inl (-1)]) (hₚ := gr_h I J) (C := (True ∧ True)) rfl ⟨trivial, trivial⟩ ?_
      refine gv_pick [] rfl ?_
      exact L61 (-1) (by (/-13-/first | (and_intros <;> omega) | (simp only [gz_hd] at *; omega)))
    · have f10 := gz_hi ((gr_b_0_220 hI))
      refine gv_run 7 true hD (pcₚ := 50) (lvₚ := [(0, .inr (.inr (some 0))), (1, .inl a1)]) (stₚ := [.inr (.inr (some 0)), .inl ((I 0 220) - 1), .inr (.inr (some 138))]) (hₚ := gr_h I J) (C := (((((((True ∧ True) ∧ True) ∧ True) ∧ True) ∧ True) ∧ True) ∧ True)) rfl ⟨⟨⟨⟨⟨⟨⟨trivial, trivial⟩, trivial⟩, trivial⟩, trivial⟩, trivial⟩, trivial⟩, trivial⟩ ?_
      have f11 := gz_hi ((gr_b_135 hI (Int.toNat a1)))
      refine gv_run 3 true hD (pcₚ := 55) (lvₚ := [(0, .inr (.inr (some 0))), (1, .inl a1)]) (stₚ := [.inl (I 135 (Int.toNat a1)), .inl ((I 0 220) - 1), .inr (.inr (some 138))]) (hₚ := gr_h I J) (C := (((True ∧ True) ∧ True) ∧ (0 ≤ a1 ∧ a1 < ((2000 : Nat) : Int)))) rfl ⟨⟨⟨trivial, trivial⟩, trivial⟩, ⟨by (/-14-/first | omega | (simp only [gz_hd] at *; omega)), by (/-15-/first | omega | (simp only [gz_hd] at *; omega))⟩⟩ ?_
      have f12 := gz_hi ((gr_b_138 hI (Int.toNat ((((I 0 220) - 1) - (I 135 (Int.toNat a1)))))))
      refine gv_run 2 true hD (pcₚ := 57) (lvₚ := [(0, .inr (.inr (some 0))), (1, .inl a1)]) (stₚ := [.inl (I 138 (Int.toNat ((((I 0 220) - 1) - (I 135 (Int.toNat a1))))))]) (hₚ := gr_h I J) (C := ((True ∧ True) ∧ (0 ≤ ((((I 0 220) - 1) - (I 135 (Int.toNat a1)))) ∧ ((((I 0 220) - 1) - (I 135 (Int.toNat a1)))) < ((400 : Nat) : Int)))) rfl ⟨⟨trivial, trivial⟩, ⟨by (/-16-/first | omega | (simp only [gz_hd] at *; omega)), by (/-17-/first | (have o1 := gz_sh f1; omega) | (simp only [gz_hd] at *; omega))⟩⟩ ?_
      refine gv_run 1 true hD (pcₚ := 61) (lvₚ := [(0, .inr (.inr (some 0))), (1, .inl a1)]) (stₚ := [.inl (I 138 (Int.toNat ((((I 0 220) - 1) - (I 135 (Int.toNat a1))))))]) (hₚ := gr_h I J) (C := (True ∧ True)) rfl ⟨trivial, trivial⟩ ?_
      refine gv_pick [] rfl ?_
      exact L61 ((I 138 (Int.toNat ((((I 0 220) - 1) - (I 135 (Int.toNat a1))))))) (by (/-18-/first | (have o1 := gz_sh f12; omega) | (simp only [gz_hd] at *; omega)))
  · have f13 := gz_hi ((gr_b_0_4 hI))
    refine gv_run 7 true hD (pcₚ := 23) (lvₚ := [(0, .inr (.inr (some 0))), (1, .inl a1)]) (stₚ := [.inr (.inr (some 137)), .inl (I 0 4), .inl 0, .inr (.inr (some 4))]) (hₚ := gr_h I J) (C := (((((((True ∧ True) ∧ True) ∧ True) ∧ True) ∧ True) ∧ True) ∧ True)) rfl ⟨⟨⟨⟨⟨⟨⟨trivial, trivial⟩, trivial⟩, trivial⟩, trivial⟩, trivial⟩, trivial⟩, trivial⟩ ?_
    refine gv_run 2 true hD (pcₚ := 25) (lvₚ := [(0, .inr (.inr (some 0))), (1, .inl a1)]) (stₚ := [.inr (.inl (J 137 (Int.toNat a1))), .inl (I 0 4), .inl 0, .inr (.inr (some 4))]) (hₚ := gr_h I J) (C := ((True ∧ True) ∧ (0 ≤ a1 ∧ a1 < ((2000 : Nat) : Int)))) rfl ⟨⟨trivial, trivial⟩, ⟨by (/-19-/first | omega | (simp only [gz_hd] at *; omega)), by (/-20-/first | omega | (simp only [gz_hd] at *; omega))⟩⟩ ?_
    obtain ⟨r14, h14, E14, P14⟩ := r_find_4 (ws0 := ws0) (tb := tb) hws htb ext I J hI 0 (I 0 4) ((J 137 (Int.toNat a1))) ⟨by (/-21-/first | omega | (simp only [gz_hd] at *; omega)), by (/-22-/first | omega | (simp only [gz_hd] at *; omega))⟩ ⟨by (/-23-/first | (have o1 := gz_sh f2; omega) | (simp only [gz_hd] at *; omega)), by (/-24-/first | (have o1 := gz_sh f2; omega) | (simp only [gz_hd] at *; omega))⟩ (by (/-25-/first | (have o1 := gz_sh f2; omega) | (simp only [gz_hd] at *; omega)))
    obtain ⟨rfl, ⟨z14, rfl, q14⟩⟩ := P14
    replace q14 := gz_hi q14
    refine gv_callS hD rfl (As := [.inr (.inr (some 4)), .inl 0, .inl (I 0 4), .inr (.inl (J 137 (Int.toNat a1)))]) (st := []) rfl (gr_lS hws rfl) (Nat.le_of_ble_eq_true rfl) (gz_Ev_mono (d := 1) (by decide) E14) ?_
    show gv_X _ _ (28, [(0, .inr (.inr (some 0))), (1, .inl a1)], [.inl z14], gr_sh ++ ext, gr_h I J)
    exact gv_iret hD rfl ⟨rfl, ⟨_, rfl, by (/-26-/first | (and_intros; (have o1 := gz_sh q14; omega); (have o1 := gz_sh q14; omega)) | (simp only [gz_hd] at *; omega))⟩⟩
