set_option maxHeartbeats 8000000 in
set_option maxRecDepth 100000 in
theorem d_X5_comesBefore {ws0 : List Cond} {tb : String → gz_T} (hws : gc_Ws ws0) (htb : gc_tbs tb) (sh : gz_Sh) (ro : Nat → Nat) (I : gr_I) (J : gr_J) (A : gc_A) (hI : gc_Inv ro I) (a1 : Int) (a2 : Int) (hb : gc_Base sh ro A) (ha1 : 0 ≤ a1 ∧ a1 ≤ 47999) (ha2 : 0 ≤ a2 ∧ a2 ≤ 47999)  : ∃ r hₚ, gz_Ev ws0 tb 1 (yX5_comesBefore, cX5_comesBefore, 3, (some .boolean)) [.inr (.inr (some 61)), .inl a1, .inl a2] sh (gc_h sh I J A) r sh hₚ 0 0 ∧ (hₚ = gc_h sh I J A ∧ (∃ z : Int, r = some (.inl z) ∧ 0 ≤ z ∧ z ≤ 1)) := by
  have A_48_5 : A 48 5 = some 52 := gc_bA_48_5 hb
  have A_61_1 : A 61 1 = some 48 := gc_bA_61_1 hb
  have A_61_12 : A 61 12 = some 68 := gc_bA_61_12 hb
  have B_48 := gz_hi (show 48 < 1000000 from by decide)
  have B_52 := gz_hi (show 52 < 1000000 from by decide)
  have B_61 := gz_hi (show 61 < 1000000 from by decide)
  have B_68 := gz_hi (show 68 < 1000000 from by decide)
  have R_52 := gz_hi (show ro 52 = 13 from gc_bR_52 hb)
  have R_68 := gz_hi (show ro 68 = 0 from gc_bR_68 hb)
  have S_48 : sh[48]? = some (false, 0, 22) := gc_bS_48 hb
  have S_52 : sh[52]? = some (true, 1, 3000) := gc_bS_52 hb
  have S_61 : sh[61]? = some (false, 5, 19) := gc_bS_61 hb
  have S_68 : sh[68]? = some (true, 1, 48000) := gc_bS_68 hb
  have hD : gv_D (gc_E5 ws0 tb 0 (yX5_comesBefore, cX5_comesBefore, 3, (some .boolean)) kX5_comesBefore) := gq_of oX5_comesBefore
  refine gc_ev5 (d := 0) (l := kX5_comesBefore) (Po := fun r hₚ => (hₚ = gc_h sh I J A ∧ (∃ z : Int, r = some (.inl z) ∧ 0 ≤ z ∧ z ≤ 1))) htb rfl (Nat.le_of_ble_eq_true rfl) ?_
  have L35 : ∀ (s0_1 : Int), ((0 ≤ s0_1 ∧ s0_1 ≤ 1)) → gv_X (gc_E5 ws0 tb 0 (yX5_comesBefore, cX5_comesBefore, 3, (some .boolean)) kX5_comesBefore) (gv_Q cX5_comesBefore (some .boolean) sh (fun r hₚ => (hₚ = gc_h sh I J A ∧ (∃ z : Int, r = some (.inl z) ∧ 0 ≤ z ∧ z ≤ 1)))) (35, [], [.inl s0_1], sh, gc_h sh I J A) := by
    intro s0_1 m_1
    have hs0_1 := m_1
    exact gv_zret hD rfl (by (/-0-/first | omega | (simp only [gz_hd] at *; omega))) ⟨rfl, ⟨_, rfl, by (/-1-/first | omega | (simp only [gz_hd] at *; omega))⟩⟩
  have L68 : ∀ (s0_2 : Int), ((0 ≤ s0_2 ∧ s0_2 ≤ 1)) → gv_X (gc_E5 ws0 tb 0 (yX5_comesBefore, cX5_comesBefore, 3, (some .boolean)) kX5_comesBefore) (gv_Q cX5_comesBefore (some .boolean) sh (fun r hₚ => (hₚ = gc_h sh I J A ∧ (∃ z : Int, r = some (.inl z) ∧ 0 ≤ z ∧ z ≤ 1)))) (68, [], [.inl s0_2], sh, gc_h sh I J A) := by
    intro s0_2 m_2
    have hs0_2 := m_2
    exact gv_zret hD rfl (by (/-2-/first | omega | (simp only [gz_hd] at *; omega))) ⟨rfl, ⟨_, rfl, by (/-3-/first | omega | (simp only [gz_hd] at *; omega))⟩⟩
  refine gv_run 1 true hD (pcₚ := 1) (lvₚ := [(0, .inr (.inr (some 61))), (1, .inl a1), (2, .inl a2)]) (stₚ := [.inr (.inr (some 61))]) (hₚ := gc_h sh I J A) (C := (True ∧ True)) rfl ⟨trivial, trivial⟩ ?_
  refine gv_get hD rfl rfl S_61 ⟨by decide, (gz_sh B_61)⟩ (gc_hA S_61 rfl A_61_12) ?_
  show gv_X _ _ (4, [(0, .inr (.inr (some 61))), (1, .inl a1), (2, .inl a2)], [.inr (.inr (some 68))], sh, gc_h sh I J A)
  refine gv_run 1 true hD (pcₚ := 5) (lvₚ := [(0, .inr (.inr (some 61))), (1, .inl a1), (2, .inl a2)]) (stₚ := [.inl a1, .inr (.inr (some 68))]) (hₚ := gc_h sh I J A) (C := (True ∧ True)) rfl ⟨trivial, trivial⟩ ?_
  have f3 := gz_hi ((gc_b_0 hI (gz_sh R_68) (Int.toNat a1)))
  refine gv_iald hD rfl S_68 rfl ⟨by decide, (gz_sh B_68)⟩ ⟨by (/-4-/first | omega | (simp only [gz_hd] at *; omega)), by (/-5-/first | omega | (simp only [gz_hd] at *; omega))⟩ (gc_iI S_68 rfl) ?_
  show gv_X _ _ (6, [(0, .inr (.inr (some 61))), (1, .inl a1), (2, .inl a2)], [.inl (I 68 (Int.toNat a1))], sh, gc_h sh I J A)
  refine gv_run 1 true hD (pcₚ := 7) (lvₚ := [(0, .inr (.inr (some 61))), (1, .inl a1), (2, .inl a2)]) (stₚ := [.inr (.inr (some 61)), .inl (I 68 (Int.toNat a1))]) (hₚ := gc_h sh I J A) (C := (True ∧ True)) rfl ⟨trivial, trivial⟩ ?_
  refine gv_get hD rfl rfl S_61 ⟨by decide, (gz_sh B_61)⟩ (gc_hA S_61 rfl A_61_12) ?_
  show gv_X _ _ (10, [(0, .inr (.inr (some 61))), (1, .inl a1), (2, .inl a2)], [.inr (.inr (some 68)), .inl (I 68 (Int.toNat a1))], sh, gc_h sh I J A)
  refine gv_run 1 true hD (pcₚ := 11) (lvₚ := [(0, .inr (.inr (some 61))), (1, .inl a1), (2, .inl a2)]) (stₚ := [.inl a2, .inr (.inr (some 68)), .inl (I 68 (Int.toNat a1))]) (hₚ := gc_h sh I J A) (C := (True ∧ True)) rfl ⟨trivial, trivial⟩ ?_
  have f4 := gz_hi ((gc_b_0 hI (gz_sh R_68) (Int.toNat a2)))
  refine gv_iald hD rfl S_68 rfl ⟨by decide, (gz_sh B_68)⟩ ⟨by (/-6-/first | omega | (simp only [gz_hd] at *; omega)), by (/-7-/first | omega | (simp only [gz_hd] at *; omega))⟩ (gc_iI S_68 rfl) ?_
  show gv_X _ _ (12, [(0, .inr (.inr (some 61))), (1, .inl a1), (2, .inl a2)], [.inl (I 68 (Int.toNat a2)), .inl (I 68 (Int.toNat a1))], sh, gc_h sh I J A)
  refine gv_icmp_eq (t := 36) hD rfl rfl ⟨⟨by (/-8-/first | (have o1 := gz_sh f3; omega) | (simp only [gz_hd] at *; omega)), by (/-9-/first | (have o1 := gz_sh f3; omega) | (simp only [gz_hd] at *; omega))⟩, ⟨by (/-10-/first | (have o1 := gz_sh f4; omega) | (simp only [gz_hd] at *; omega)), by (/-11-/first | (have o1 := gz_sh f4; omega) | (simp only [gz_hd] at *; omega))⟩⟩ (fun c5 => ?_) (fun c5 => ?_)
  · show gv_X _ _ (36, [(0, .inr (.inr (some 61))), (1, .inl a1), (2, .inl a2)], [], sh, gc_h sh I J A)
    refine gv_run 1 true hD (pcₚ := 37) (lvₚ := [(0, .inr (.inr (some 61))), (1, .inl a1), (2, .inl a2)]) (stₚ := [.inr (.inr (some 61))]) (hₚ := gc_h sh I J A) (C := (True ∧ True)) rfl ⟨trivial, trivial⟩ ?_
    refine gv_get hD rfl rfl S_61 ⟨by decide, (gz_sh B_61)⟩ (gc_hA S_61 rfl A_61_1) ?_
    show gv_X _ _ (40, [(0, .inr (.inr (some 61))), (1, .inl a1), (2, .inl a2)], [.inr (.inr (some 48))], sh, gc_h sh I J A)
    refine gv_get hD rfl rfl S_48 ⟨by decide, (gz_sh B_48)⟩ (gc_hA S_48 rfl A_48_5) ?_
    show gv_X _ _ (43, [(0, .inr (.inr (some 61))), (1, .inl a1), (2, .inl a2)], [.inr (.inr (some 52))], sh, gc_h sh I J A)
    have f6 := gz_hi (gw_div (x := a1) (y := 16) ⟨by (/-12-/first | omega | (simp only [gz_hd] at *; omega)), by (/-13-/first | omega | (simp only [gz_hd] at *; omega))⟩ ⟨by (/-14-/first | omega | (simp only [gz_hd] at *; omega)), by (/-15-/first | omega | (simp only [gz_hd] at *; omega))⟩)
    refine gv_run 3 true hD (pcₚ := 47) (lvₚ := [(0, .inr (.inr (some 61))), (1, .inl a1), (2, .inl a2)]) (stₚ := [.inl ((Int32.ofInt a1 / Int32.ofInt 16).toInt), .inr (.inr (some 52))]) (hₚ := gc_h sh I J A) (C := (((True ∧ True) ∧ True) ∧ (gz_R 16 ∧ ¬ 16 = 0))) rfl ⟨⟨⟨trivial, trivial⟩, trivial⟩, ⟨⟨by (/-16-/first | omega | (simp only [gz_hd] at *; omega)), by (/-17-/first | omega | (simp only [gz_hd] at *; omega))⟩, by (/-18-/first | omega | (simp only [gz_hd] at *; omega))⟩⟩ ?_
    have f7 := gz_hi ((gc_b_13 hI (gz_sh R_52) (Int.toNat (((Int32.ofInt a1 / Int32.ofInt 16).toInt)))))
    refine gv_iald hD rfl S_52 rfl ⟨by decide, (gz_sh B_52)⟩ ⟨by (/-19-/first | (have o1 := gz_sh f6; omega) | (simp only [gz_hd] at *; omega)), by (/-20-/first | (have o1 := gz_sh f6; omega) | (simp only [gz_hd] at *; omega))⟩ (gc_iI S_52 rfl) ?_
    show gv_X _ _ (48, [(0, .inr (.inr (some 61))), (1, .inl a1), (2, .inl a2)], [.inl (I 52 (Int.toNat (((Int32.ofInt a1 / Int32.ofInt 16).toInt))))], sh, gc_h sh I J A)
    refine gv_run 1 true hD (pcₚ := 49) (lvₚ := [(0, .inr (.inr (some 61))), (1, .inl a1), (2, .inl a2)]) (stₚ := [.inr (.inr (some 61)), .inl (I 52 (Int.toNat (((Int32.ofInt a1 / Int32.ofInt 16).toInt))))]) (hₚ := gc_h sh I J A) (C := (True ∧ True)) rfl ⟨trivial, trivial⟩ ?_
    refine gv_get hD rfl rfl S_61 ⟨by decide, (gz_sh B_61)⟩ (gc_hA S_61 rfl A_61_1) ?_
    show gv_X _ _ (52, [(0, .inr (.inr (some 61))), (1, .inl a1), (2, .inl a2)], [.inr (.inr (some 48)), .inl (I 52 (Int.toNat (((Int32.ofInt a1 / Int32.ofInt 16).toInt))))], sh, gc_h sh I J A)
    refine gv_get hD rfl rfl S_48 ⟨by decide, (gz_sh B_48)⟩ (gc_hA S_48 rfl A_48_5) ?_
    show gv_X _ _ (55, [(0, .inr (.inr (some 61))), (1, .inl a1), (2, .inl a2)], [.inr (.inr (some 52)), .inl (I 52 (Int.toNat (((Int32.ofInt a1 / Int32.ofInt 16).toInt))))], sh, gc_h sh I J A)
    have f8 := gz_hi (gw_div (x := a2) (y := 16) ⟨by (/-21-/first | omega | (simp only [gz_hd] at *; omega)), by (/-22-/first | omega | (simp only [gz_hd] at *; omega))⟩ ⟨by (/-23-/first | omega | (simp only [gz_hd] at *; omega)), by (/-24-/first | omega | (simp only [gz_hd] at *; omega))⟩)
    refine gv_run 3 true hD (pcₚ := 59) (lvₚ := [(0, .inr (.inr (some 61))), (1, .inl a1), (2, .inl a2)]) (stₚ := [.inl ((Int32.ofInt a2 / Int32.ofInt 16).toInt), .inr (.inr (some 52)), .inl (I 52 (Int.toNat (((Int32.ofInt a1 / Int32.ofInt 16).toInt))))]) (hₚ := gc_h sh I J A) (C := (((True ∧ True) ∧ True) ∧ (gz_R 16 ∧ ¬ 16 = 0))) rfl ⟨⟨⟨trivial, trivial⟩, trivial⟩, ⟨⟨by (/-25-/first | omega | (simp only [gz_hd] at *; omega)), by (/-26-/first | omega | (simp only [gz_hd] at *; omega))⟩, by (/-27-/first | omega | (simp only [gz_hd] at *; omega))⟩⟩ ?_
    have f9 := gz_hi ((gc_b_13 hI (gz_sh R_52) (Int.toNat (((Int32.ofInt a2 / Int32.ofInt 16).toInt)))))
    refine gv_iald hD rfl S_52 rfl ⟨by decide, (gz_sh B_52)⟩ ⟨by (/-28-/first | (have o1 := gz_sh f8; omega) | (simp only [gz_hd] at *; omega)), by (/-29-/first | (have o1 := gz_sh f8; omega) | (simp only [gz_hd] at *; omega))⟩ (gc_iI S_52 rfl) ?_
    show gv_X _ _ (60, [(0, .inr (.inr (some 61))), (1, .inl a1), (2, .inl a2)], [.inl (I 52 (Int.toNat (((Int32.ofInt a2 / Int32.ofInt 16).toInt)))), .inl (I 52 (Int.toNat (((Int32.ofInt a1 / Int32.ofInt 16).toInt))))], sh, gc_h sh I J A)
    refine gv_icmp_ge (t := 67) hD rfl rfl ⟨⟨by (/-30-/first | (have o1 := gz_sh f7; omega) | (simp only [gz_hd] at *; omega)), by (/-31-/first | (have o1 := gz_sh f7; omega) | (simp only [gz_hd] at *; omega))⟩, ⟨by (/-32-/first | (have o1 := gz_sh f9; omega) | (simp only [gz_hd] at *; omega)), by (/-33-/first | (have o1 := gz_sh f9; omega) | (simp only [gz_hd] at *; omega))⟩⟩ (fun c10 => ?_) (fun c10 => ?_)
    · show gv_X _ _ (67, [(0, .inr (.inr (some 61))), (1, .inl a1), (2, .inl a2)], [], sh, gc_h sh I J A)
      refine gv_run 1 true hD (pcₚ := 68) (lvₚ := [(0, .inr (.inr (some 61))), (1, .inl a1), (2, .inl a2)]) (stₚ := [.inl 0]) (hₚ := gc_h sh I J A) (C := (True ∧ True)) rfl ⟨trivial, trivial⟩ ?_
      refine gv_pick [] rfl ?_
      exact L68 0 (by (/-34-/first | (and_intros <;> omega) | (simp only [gz_hd] at *; omega)))
    · show gv_X _ _ (63, [(0, .inr (.inr (some 61))), (1, .inl a1), (2, .inl a2)], [], sh, gc_h sh I J A)
      refine gv_run 2 true hD (pcₚ := 68) (lvₚ := [(0, .inr (.inr (some 61))), (1, .inl a1), (2, .inl a2)]) (stₚ := [.inl 1]) (hₚ := gc_h sh I J A) (C := ((True ∧ True) ∧ True)) rfl ⟨⟨trivial, trivial⟩, trivial⟩ ?_
      refine gv_pick [] rfl ?_
      exact L68 1 (by (/-35-/first | (and_intros <;> omega) | (simp only [gz_hd] at *; omega)))
  · show gv_X _ _ (15, [(0, .inr (.inr (some 61))), (1, .inl a1), (2, .inl a2)], [], sh, gc_h sh I J A)
    refine gv_run 1 true hD (pcₚ := 16) (lvₚ := [(0, .inr (.inr (some 61))), (1, .inl a1), (2, .inl a2)]) (stₚ := [.inr (.inr (some 61))]) (hₚ := gc_h sh I J A) (C := (True ∧ True)) rfl ⟨trivial, trivial⟩ ?_
    refine gv_get hD rfl rfl S_61 ⟨by decide, (gz_sh B_61)⟩ (gc_hA S_61 rfl A_61_12) ?_
    show gv_X _ _ (19, [(0, .inr (.inr (some 61))), (1, .inl a1), (2, .inl a2)], [.inr (.inr (some 68))], sh, gc_h sh I J A)
    refine gv_run 1 true hD (pcₚ := 20) (lvₚ := [(0, .inr (.inr (some 61))), (1, .inl a1), (2, .inl a2)]) (stₚ := [.inl a1, .inr (.inr (some 68))]) (hₚ := gc_h sh I J A) (C := (True ∧ True)) rfl ⟨trivial, trivial⟩ ?_
    refine gv_iald hD rfl S_68 rfl ⟨by decide, (gz_sh B_68)⟩ ⟨by (/-36-/first | omega | (simp only [gz_hd] at *; omega)), by (/-37-/first | omega | (simp only [gz_hd] at *; omega))⟩ (gc_iI S_68 rfl) ?_
    show gv_X _ _ (21, [(0, .inr (.inr (some 61))), (1, .inl a1), (2, .inl a2)], [.inl (I 68 (Int.toNat a1))], sh, gc_h sh I J A)
    refine gv_run 1 true hD (pcₚ := 22) (lvₚ := [(0, .inr (.inr (some 61))), (1, .inl a1), (2, .inl a2)]) (stₚ := [.inr (.inr (some 61)), .inl (I 68 (Int.toNat a1))]) (hₚ := gc_h sh I J A) (C := (True ∧ True)) rfl ⟨trivial, trivial⟩ ?_
    refine gv_get hD rfl rfl S_61 ⟨by decide, (gz_sh B_61)⟩ (gc_hA S_61 rfl A_61_12) ?_
    show gv_X _ _ (25, [(0, .inr (.inr (some 61))), (1, .inl a1), (2, .inl a2)], [.inr (.inr (some 68)), .inl (I 68 (Int.toNat a1))], sh, gc_h sh I J A)
    refine gv_run 1 true hD (pcₚ := 26) (lvₚ := [(0, .inr (.inr (some 61))), (1, .inl a1), (2, .inl a2)]) (stₚ := [.inl a2, .inr (.inr (some 68)), .inl (I 68 (Int.toNat a1))]) (hₚ := gc_h sh I J A) (C := (True ∧ True)) rfl ⟨trivial, trivial⟩ ?_
    refine gv_iald hD rfl S_68 rfl ⟨by decide, (gz_sh B_68)⟩ ⟨by (/-38-/first | omega | (simp only [gz_hd] at *; omega)), by (/-39-/first | omega | (simp only [gz_hd] at *; omega))⟩ (gc_iI S_68 rfl) ?_
    show gv_X _ _ (27, [(0, .inr (.inr (some 61))), (1, .inl a1), (2, .inl a2)], [.inl (I 68 (Int.toNat a2)), .inl (I 68 (Int.toNat a1))], sh, gc_h sh I J A)
    refine gv_icmp_ge (t := 34) hD rfl rfl ⟨⟨by (/-40-/first | (have o1 := gz_sh f3; omega) | (simp only [gz_hd] at *; omega)), by (/-41-/first | (have o1 := gz_sh f3; omega) | (simp only [gz_hd] at *; omega))⟩, ⟨by (/-42-/first | (have o1 := gz_sh f4; omega) | (simp only [gz_hd] at *; omega)), by (/-43-/first | (have o1 := gz_sh f4; omega) | (simp only [gz_hd] at *; omega))⟩⟩ (fun c13 => ?_) (fun c13 => ?_)
    · show gv_X _ _ (34, [(0, .inr (.inr (some 61))), (1, .inl a1), (2, .inl a2)], [], sh, gc_h sh I J A)
      refine gv_run 1 true hD (pcₚ := 35) (lvₚ := [(0, .inr (.inr (some 61))), (1, .inl a1), (2, .inl a2)]) (stₚ := [.inl 0]) (hₚ := gc_h sh I J A) (C := (True ∧ True)) rfl ⟨trivial, trivial⟩ ?_
      refine gv_pick [] rfl ?_
      exact L35 0 (by (/-44-/first | (and_intros <;> omega) | (simp only [gz_hd] at *; omega)))
    · show gv_X _ _ (30, [(0, .inr (.inr (some 61))), (1, .inl a1), (2, .inl a2)], [], sh, gc_h sh I J A)
      refine gv_run 2 true hD (pcₚ := 35) (lvₚ := [(0, .inr (.inr (some 61))), (1, .inl a1), (2, .inl a2)]) (stₚ := [.inl 1]) (hₚ := gc_h sh I J A) (C := ((True ∧ True) ∧ True)) rfl ⟨⟨trivial, trivial⟩, trivial⟩ ?_
      refine gv_pick [] rfl ?_
      exact L35 1 (by (/-45-/first | (and_intros <;> omega) | (simp only [gz_hd] at *; omega)))
