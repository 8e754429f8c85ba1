def gc_isForms (sh : gz_Sh) (ro : Nat → Nat) (A : gc_A) (p : Nat) : Prop := sh[p]? = some (false, 2, 10) ∧ ro p = 24 ∧ p < 1000000 ∧ A p 0 = some 20 ∧ sh[20]? = some (true, 0, 12000) ∧ ro 20 = 36 ∧ 20 < 1000000 ∧ A p 1 = some (p + 1) ∧ sh[(p + 1)]? = some (true, 0, 36864) ∧ ro (p + 1) = 1 ∧ (p + 1) < 1000000 ∧ A p 2 = some (p + 2) ∧ sh[(p + 2)]? = some (true, 1, 1536) ∧ ro (p + 2) = 33 ∧ (p + 2) < 1000000 ∧ A p 3 = some (p + 3) ∧ sh[(p + 3)]? = some (true, 1, 1536) ∧ ro (p + 3) = 34 ∧ (p + 3) < 1000000 ∧ A p 4 = some (p + 4) ∧ sh[(p + 4)]? = some (true, 1, 512) ∧ ro (p + 4) = 34 ∧ (p + 4) < 1000000 ∧ A p 5 = some (p + 5) ∧ sh[(p + 5)]? = some (true, 1, 1536) ∧ ro (p + 5) = 35 ∧ (p + 5) < 1000000 ∧ sh[(p + 6)]? = some (true, 0, 24) ∧ ro (p + 6) = 1 ∧ (p + 6) < 1000000 ∧ sh[(p + 7)]? = some (true, 0, 24) ∧ ro (p + 7) = 1 ∧ (p + 7) < 1000000
def gc_isTongue (sh : gz_Sh) (ro : Nat → Nat) (A : gc_A) (p : Nat) : Prop := sh[p]? = some (false, 11, 16) ∧ ro p = 23 ∧ p < 1000000 ∧ A p 0 = some (p + 1) ∧ gc_isNames sh ro A (p + 1) 8 6 ∧ A p 1 = some (p + 3) ∧ gc_isNames sh ro A (p + 3) 48 10 ∧ A p 2 = some (p + 5) ∧ sh[(p + 5)]? = some (true, 1, 48) ∧ ro (p + 5) = 30 ∧ (p + 5) < 1000000 ∧ A p 3 = some (p + 6) ∧ sh[(p + 6)]? = some (true, 1, 48) ∧ ro (p + 6) = 31 ∧ (p + 6) < 1000000 ∧ A p 4 = some (p + 7) ∧ gc_isNames sh ro A (p + 7) 16 7 ∧ A p 5 = some (p + 9) ∧ sh[(p + 9)]? = some (true, 1, 16) ∧ ro (p + 9) = 0 ∧ (p + 9) < 1000000 ∧ A p 7 = some (p + 10) ∧ sh[(p + 10)]? = some (true, 1, 600) ∧ ro (p + 10) = 41 ∧ (p + 10) < 1000000 ∧ A p 8 = some (p + 11) ∧ gc_isNames sh ro A (p + 11) 24 8 ∧ A p 9 = some (p + 13) ∧ sh[(p + 13)]? = some (true, 1, 24) ∧ ro (p + 13) = 32 ∧ (p + 13) < 1000000 ∧ A p 10 = some (p + 14) ∧ sh[(p + 14)]? = some (true, 1, 1728) ∧ ro (p + 14) = 39 ∧ (p + 14) < 1000000 ∧ A p 12 = some (p + 15) ∧ sh[(p + 15)]? = some (true, 1, 704) ∧ ro (p + 15) = 40 ∧ (p + 15) < 1000000 ∧ A p 14 = some (p + 16) ∧ sh[(p + 16)]? = some (true, 4, 384) ∧ ro (p + 16) = 0 ∧ (p + 16) < 1000000 ∧ A p 15 = some (p + 17) ∧ gc_isForms sh ro A (p + 17)
set_option maxHeartbeats 8000000 in
set_option maxRecDepth 100000 in
theorem d_X11_sizeOf {ws0 : List Cond} {tb : String → gz_T} (hws : gc_Ws ws0) (htb : gc_tbs tb) (sh : gz_Sh) (ro : Nat → Nat) (I : gr_I) (J : gr_J) (A : gc_A) (hI : gc_Inv ro I) (p : Nat) (a1 : Int) (hp : gc_isTongue sh ro A p) (ha1 : (-2147483648) ≤ a1 ∧ a1 ≤ 2147483647)  : ∃ r hₚ, gz_Ev ws0 tb 1 (yX11_sizeOf, cX11_sizeOf, 2, (some .int)) [.inr (.inr (some p)), .inl a1] sh (gc_h sh I J A) r sh hₚ 0 0 ∧ (hₚ = gc_h sh I J A ∧ (∃ z : Int, r = some (.inl z) ∧ 0 ≤ z ∧ z ≤ 400)) := by
  obtain ⟨S_p, R_p, B_p, A_p_0, h_p_1, A_p_1, h_p_3, A_p_2, S_p_5, R_p_5, B_p_5, A_p_3, S_p_6, R_p_6, B_p_6, A_p_4, h_p_7, A_p_5, S_p_9, R_p_9, B_p_9, A_p_7, S_p_10, R_p_10, B_p_10, A_p_8, h_p_11, A_p_9, S_p_13, R_p_13, B_p_13, A_p_10, S_p_14, R_p_14, B_p_14, A_p_12, S_p_15, R_p_15, B_p_15, A_p_14, S_p_16, R_p_16, B_p_16, A_p_15, h_p_17⟩ := id hp
  replace R_p := gz_hi R_p
  replace B_p := gz_hi B_p
  replace R_p_5 := gz_hi R_p_5
  replace B_p_5 := gz_hi B_p_5
  replace R_p_6 := gz_hi R_p_6
  replace B_p_6 := gz_hi B_p_6
  replace R_p_9 := gz_hi R_p_9
  replace B_p_9 := gz_hi B_p_9
  replace R_p_10 := gz_hi R_p_10
  replace B_p_10 := gz_hi B_p_10
  replace R_p_13 := gz_hi R_p_13
  replace B_p_13 := gz_hi B_p_13
  replace R_p_14 := gz_hi R_p_14
  replace B_p_14 := gz_hi B_p_14
  replace R_p_15 := gz_hi R_p_15
  replace B_p_15 := gz_hi B_p_15
  replace R_p_16 := gz_hi R_p_16
  replace B_p_16 := gz_hi B_p_16
  obtain ⟨S_p_1, R_p_1, B_p_1, A_p_1_0, S_p_1_1, R_p_1_1, B_p_1_1, Q0_p_1, Q1_p_1, Q2_p_1⟩ := id h_p_1
  replace R_p_1 := gz_hi R_p_1
  replace B_p_1 := gz_hi B_p_1
  replace R_p_1_1 := gz_hi R_p_1_1
  replace B_p_1_1 := gz_hi B_p_1_1
  obtain ⟨S_p_3, R_p_3, B_p_3, A_p_3_0, S_p_3_1, R_p_3_1, B_p_3_1, Q0_p_3, Q1_p_3, Q2_p_3⟩ := id h_p_3
  replace R_p_3 := gz_hi R_p_3
  replace B_p_3 := gz_hi B_p_3
  replace R_p_3_1 := gz_hi R_p_3_1
  replace B_p_3_1 := gz_hi B_p_3_1
  obtain ⟨S_p_7, R_p_7, B_p_7, A_p_7_0, S_p_7_1, R_p_7_1, B_p_7_1, Q0_p_7, Q1_p_7, Q2_p_7⟩ := id h_p_7
  replace R_p_7 := gz_hi R_p_7
  replace B_p_7 := gz_hi B_p_7
  replace R_p_7_1 := gz_hi R_p_7_1
  replace B_p_7_1 := gz_hi B_p_7_1
  obtain ⟨S_p_11, R_p_11, B_p_11, A_p_11_0, S_p_11_1, R_p_11_1, B_p_11_1, Q0_p_11, Q1_p_11, Q2_p_11⟩ := id h_p_11
  replace R_p_11 := gz_hi R_p_11
  replace B_p_11 := gz_hi B_p_11
  replace R_p_11_1 := gz_hi R_p_11_1
  replace B_p_11_1 := gz_hi B_p_11_1
  obtain ⟨S_p_17, R_p_17, B_p_17, A_p_17_0, S_20, R_20, B_20, A_p_17_1, S_p_17_1, R_p_17_1, B_p_17_1, A_p_17_2, S_p_17_2, R_p_17_2, B_p_17_2, A_p_17_3, S_p_17_3, R_p_17_3, B_p_17_3, A_p_17_4, S_p_17_4, R_p_17_4, B_p_17_4, A_p_17_5, S_p_17_5, R_p_17_5, B_p_17_5, S_p_17_6, R_p_17_6, B_p_17_6, S_p_17_7, R_p_17_7, B_p_17_7⟩ := id h_p_17
  replace R_p_17 := gz_hi R_p_17
  replace B_p_17 := gz_hi B_p_17
  replace R_20 := gz_hi R_20
  replace B_20 := gz_hi B_20
  replace R_p_17_1 := gz_hi R_p_17_1
  replace B_p_17_1 := gz_hi B_p_17_1
  replace R_p_17_2 := gz_hi R_p_17_2
  replace B_p_17_2 := gz_hi B_p_17_2
  replace R_p_17_3 := gz_hi R_p_17_3
  replace B_p_17_3 := gz_hi B_p_17_3
  replace R_p_17_4 := gz_hi R_p_17_4
  replace B_p_17_4 := gz_hi B_p_17_4
  replace R_p_17_5 := gz_hi R_p_17_5
  replace B_p_17_5 := gz_hi B_p_17_5
  replace R_p_17_6 := gz_hi R_p_17_6
  replace B_p_17_6 := gz_hi B_p_17_6
  replace R_p_17_7 := gz_hi R_p_17_7
  replace B_p_17_7 := gz_hi B_p_17_7
  have hD : gv_D (gc_E11 ws0 tb 0 (yX11_sizeOf, cX11_sizeOf, 2, (some .int)) kX11_sizeOf) := gq_of oX11_sizeOf
  refine gc_ev11 (d := 0) (l := kX11_sizeOf) (Po := fun r hₚ => (hₚ = gc_h sh I J A ∧ (∃ z : Int, r = some (.inl z) ∧ 0 ≤ z ∧ z ≤ 400))) htb rfl (Nat.le_of_ble_eq_true rfl) ?_
  refine gv_run 1 true hD (pcₚ := 1) (lvₚ := [(0, .inr (.inr (some p))), (1, .inl a1)]) (stₚ := [.inl a1]) (hₚ := gc_h sh I J A) (C := (True ∧ True)) rfl ⟨trivial, trivial⟩ ?_
  by_cases c1 : a1 = 8
  · refine gv_tabAt hD 8 rfl ⟨by (/-0-/first | omega | (simp only [gz_hd] at *; omega)), by (/-1-/first | omega | (simp only [gz_hd] at *; omega))⟩ c1 ⟨by decide, by decide⟩ rfl (t := 40) rfl ?_
    refine gv_run 1 true hD (pcₚ := 41) (lvₚ := [(0, .inr (.inr (some p))), (1, .inl a1)]) (stₚ := [.inr (.inr (some p))]) (hₚ := gc_h sh I J A) (C := (True ∧ True)) rfl ⟨trivial, trivial⟩ ?_
    refine gv_get hD rfl rfl S_p ⟨by decide, (gz_sh B_p)⟩ (gc_hA S_p rfl A_p_0) ?_
    show gv_X _ _ (44, [(0, .inr (.inr (some p))), (1, .inl a1)], [.inr (.inr (some (p + 1)))], sh, gc_h sh I J A)
    have f2 := gz_hi ((show 0 ≤ I (p + 1) 1 ∧ I (p + 1) 1 ≤ 8 from gc_in2 hI (gz_sh R_p_1) rfl rfl rfl))
    refine gv_get hD rfl rfl S_p_1 ⟨by decide, (gz_sh B_p_1)⟩ (gc_hI S_p_1 rfl) ?_
    show gv_X _ _ (47, [(0, .inr (.inr (some p))), (1, .inl a1)], [.inl (I (p + 1) 1)], sh, gc_h sh I J A)
    exact gv_iret hD rfl ⟨rfl, ⟨_, rfl, by (/-2-/first | (and_intros; (have o1 := gz_sh f2; omega); (have o1 := gz_sh f2; omega)) | (simp only [gz_hd] at *; omega))⟩⟩
  by_cases c3 : a1 = 9
  · refine gv_tabAt hD 9 rfl ⟨by (/-3-/first | omega | (simp only [gz_hd] at *; omega)), by (/-4-/first | omega | (simp only [gz_hd] at *; omega))⟩ c3 ⟨by decide, by decide⟩ rfl (t := 48) rfl ?_
    refine gv_run 1 true hD (pcₚ := 49) (lvₚ := [(0, .inr (.inr (some p))), (1, .inl a1)]) (stₚ := [.inr (.inr (some p))]) (hₚ := gc_h sh I J A) (C := (True ∧ True)) rfl ⟨trivial, trivial⟩ ?_
    refine gv_get hD rfl rfl S_p ⟨by decide, (gz_sh B_p)⟩ (gc_hA S_p rfl A_p_1) ?_
    show gv_X _ _ (52, [(0, .inr (.inr (some p))), (1, .inl a1)], [.inr (.inr (some (p + 3)))], sh, gc_h sh I J A)
    have f4 := gz_hi ((show 0 ≤ I (p + 3) 1 ∧ I (p + 3) 1 ≤ 48 from gc_in2 hI (gz_sh R_p_3) rfl rfl rfl))
    refine gv_get hD rfl rfl S_p_3 ⟨by decide, (gz_sh B_p_3)⟩ (gc_hI S_p_3 rfl) ?_
    show gv_X _ _ (55, [(0, .inr (.inr (some p))), (1, .inl a1)], [.inl (I (p + 3) 1)], sh, gc_h sh I J A)
    exact gv_iret hD rfl ⟨rfl, ⟨_, rfl, by (/-5-/first | (and_intros; (have o1 := gz_sh f4; omega); (have o1 := gz_sh f4; omega)) | (simp only [gz_hd] at *; omega))⟩⟩
  by_cases c5 : a1 = 10
  · refine gv_tabAt hD 10 rfl ⟨by (/-6-/first | omega | (simp only [gz_hd] at *; omega)), by (/-7-/first | omega | (simp only [gz_hd] at *; omega))⟩ c5 ⟨by decide, by decide⟩ rfl (t := 56) rfl ?_
    refine gv_run 1 true hD (pcₚ := 57) (lvₚ := [(0, .inr (.inr (some p))), (1, .inl a1)]) (stₚ := [.inr (.inr (some p))]) (hₚ := gc_h sh I J A) (C := (True ∧ True)) rfl ⟨trivial, trivial⟩ ?_
    refine gv_get hD rfl rfl S_p ⟨by decide, (gz_sh B_p)⟩ (gc_hA S_p rfl A_p_4) ?_
    show gv_X _ _ (60, [(0, .inr (.inr (some p))), (1, .inl a1)], [.inr (.inr (some (p + 7)))], sh, gc_h sh I J A)
    have f6 := gz_hi ((show 0 ≤ I (p + 7) 1 ∧ I (p + 7) 1 ≤ 16 from gc_in2 hI (gz_sh R_p_7) rfl rfl rfl))
    refine gv_get hD rfl rfl S_p_7 ⟨by decide, (gz_sh B_p_7)⟩ (gc_hI S_p_7 rfl) ?_
    show gv_X _ _ (63, [(0, .inr (.inr (some p))), (1, .inl a1)], [.inl (I (p + 7) 1)], sh, gc_h sh I J A)
    exact gv_iret hD rfl ⟨rfl, ⟨_, rfl, by (/-8-/first | (and_intros; (have o1 := gz_sh f6; omega); (have o1 := gz_sh f6; omega)) | (simp only [gz_hd] at *; omega))⟩⟩
  by_cases c7 : a1 = 11
  · refine gv_tabAt hD 11 rfl ⟨by (/-9-/first | omega | (simp only [gz_hd] at *; omega)), by (/-10-/first | omega | (simp only [gz_hd] at *; omega))⟩ c7 ⟨by decide, by decide⟩ rfl (t := 64) rfl ?_
    refine gv_run 1 true hD (pcₚ := 65) (lvₚ := [(0, .inr (.inr (some p))), (1, .inl a1)]) (stₚ := [.inr (.inr (some p))]) (hₚ := gc_h sh I J A) (C := (True ∧ True)) rfl ⟨trivial, trivial⟩ ?_
    have f8 := gz_hi ((show 0 ≤ I p 6 ∧ I p 6 ≤ 24 from gc_in2 hI (gz_sh R_p) rfl rfl rfl))
    refine gv_get hD rfl rfl S_p ⟨by decide, (gz_sh B_p)⟩ (gc_hI S_p rfl) ?_
    show gv_X _ _ (68, [(0, .inr (.inr (some p))), (1, .inl a1)], [.inl (I p 6)], sh, gc_h sh I J A)
    exact gv_iret hD rfl ⟨rfl, ⟨_, rfl, by (/-11-/first | (and_intros; (have o1 := gz_sh f8; omega); (have o1 := gz_sh f8; omega)) | (simp only [gz_hd] at *; omega))⟩⟩
  by_cases c9 : a1 = 12
  · refine gv_tabAt hD 12 rfl ⟨by (/-12-/first | omega | (simp only [gz_hd] at *; omega)), by (/-13-/first | omega | (simp only [gz_hd] at *; omega))⟩ c9 ⟨by decide, by decide⟩ rfl (t := 69) rfl ?_
    refine gv_run 1 true hD (pcₚ := 70) (lvₚ := [(0, .inr (.inr (some p))), (1, .inl a1)]) (stₚ := [.inr (.inr (some p))]) (hₚ := gc_h sh I J A) (C := (True ∧ True)) rfl ⟨trivial, trivial⟩ ?_
    refine gv_get hD rfl rfl S_p ⟨by decide, (gz_sh B_p)⟩ (gc_hA S_p rfl A_p_8) ?_
    show gv_X _ _ (73, [(0, .inr (.inr (some p))), (1, .inl a1)], [.inr (.inr (some (p + 11)))], sh, gc_h sh I J A)
    have f10 := gz_hi ((show 0 ≤ I (p + 11) 1 ∧ I (p + 11) 1 ≤ 24 from gc_in2 hI (gz_sh R_p_11) rfl rfl rfl))
    refine gv_get hD rfl rfl S_p_11 ⟨by decide, (gz_sh B_p_11)⟩ (gc_hI S_p_11 rfl) ?_
    show gv_X _ _ (76, [(0, .inr (.inr (some p))), (1, .inl a1)], [.inl (I (p + 11) 1)], sh, gc_h sh I J A)
    exact gv_iret hD rfl ⟨rfl, ⟨_, rfl, by (/-14-/first | (and_intros; (have o1 := gz_sh f10; omega); (have o1 := gz_sh f10; omega)) | (simp only [gz_hd] at *; omega))⟩⟩
  by_cases c11 : a1 = 13
  · refine gv_tabAt hD 13 rfl ⟨by (/-15-/first | omega | (simp only [gz_hd] at *; omega)), by (/-16-/first | omega | (simp only [gz_hd] at *; omega))⟩ c11 ⟨by decide, by decide⟩ rfl (t := 77) rfl ?_
    refine gv_run 1 true hD (pcₚ := 78) (lvₚ := [(0, .inr (.inr (some p))), (1, .inl a1)]) (stₚ := [.inr (.inr (some p))]) (hₚ := gc_h sh I J A) (C := (True ∧ True)) rfl ⟨trivial, trivial⟩ ?_
    have f12 := gz_hi ((show 0 ≤ I p 11 ∧ I p 11 ≤ 64 from gc_in2 hI (gz_sh R_p) rfl rfl rfl))
    refine gv_get hD rfl rfl S_p ⟨by decide, (gz_sh B_p)⟩ (gc_hI S_p rfl) ?_
    show gv_X _ _ (81, [(0, .inr (.inr (some p))), (1, .inl a1)], [.inl (I p 11)], sh, gc_h sh I J A)
    exact gv_iret hD rfl ⟨rfl, ⟨_, rfl, by (/-17-/first | (and_intros; (have o1 := gz_sh f12; omega); (have o1 := gz_sh f12; omega)) | (simp only [gz_hd] at *; omega))⟩⟩
  refine gv_tabOut hD rfl ⟨by (/-18-/first | omega | (simp only [gz_hd] at *; omega)), by (/-19-/first | omega | (simp only [gz_hd] at *; omega))⟩ (by (/-20-/first | omega | (simp only [gz_hd] at *; omega))) (t := 82) rfl ?_
  refine gv_run 1 true hD (pcₚ := 83) (lvₚ := [(0, .inr (.inr (some p))), (1, .inl a1)]) (stₚ := [.inr (.inr (some p))]) (hₚ := gc_h sh I J A) (C := (True ∧ True)) rfl ⟨trivial, trivial⟩ ?_
  have f13 := gz_hi ((show 0 ≤ I p 13 ∧ I p 13 ≤ 384 from gc_in2 hI (gz_sh R_p) rfl rfl rfl))
  refine gv_get hD rfl rfl S_p ⟨by decide, (gz_sh B_p)⟩ (gc_hI S_p rfl) ?_
  show gv_X _ _ (86, [(0, .inr (.inr (some p))), (1, .inl a1)], [.inl (I p 13)], sh, gc_h sh I J A)
  exact gv_iret hD rfl ⟨rfl, ⟨_, rfl, by (/-21-/first | (and_intros; (have o1 := gz_sh f13; omega); (have o1 := gz_sh f13; omega)) | (simp only [gz_hd] at *; omega))⟩⟩
set_option maxHeartbeats 8000000 in
set_option maxRecDepth 100000 in
theorem d_X11_shiftOf {ws0 : List Cond} {tb : String → gz_T} (hws : gc_Ws ws0) (htb : gc_tbs tb) (sh : gz_Sh) (ro : Nat → Nat) (I : gr_I) (J : gr_J) (A : gc_A) (hI : gc_Inv ro I) (a1 : Int)  (ha1 : 0 ≤ a1 ∧ a1 ≤ 7)  : ∃ r hₚ, gz_Ev ws0 tb 1 (yX11_shiftOf, cX11_shiftOf, 1, (some .int)) [.inl a1] sh (gc_h sh I J A) r sh hₚ 0 0 ∧ (hₚ = gc_h sh I J A ∧ (∃ z : Int, r = some (.inl z) ∧ 0 ≤ z ∧ z ≤ 21 ∧ (z = 21 - 3 * a1))) := by
  have hD : gv_D (gc_E11 ws0 tb 0 (yX11_shiftOf, cX11_shiftOf, 1, (some .int)) kX11_shiftOf) := gq_of oX11_shiftOf
  refine gc_ev11 (d := 0) (l := kX11_shiftOf) (Po := fun r hₚ => (hₚ = gc_h sh I J A ∧ (∃ z : Int, r = some (.inl z) ∧ 0 ≤ z ∧ z ≤ 21 ∧ (z = 21 - 3 * a1)))) htb rfl (Nat.le_of_ble_eq_true rfl) ?_
  refine gv_run 5 true hD (pcₚ := 6) (lvₚ := [(0, .inl a1)]) (stₚ := [.inl (21 - (a1 * 3))]) (hₚ := gc_h sh I J A) (C := (((((True ∧ True) ∧ True) ∧ True) ∧ True) ∧ True)) rfl ⟨⟨⟨⟨⟨trivial, trivial⟩, trivial⟩, trivial⟩, trivial⟩, trivial⟩ ?_
  exact gv_iret hD rfl ⟨rfl, ⟨_, rfl, by omega⟩⟩
set_option maxHeartbeats 8000000 in
set_option maxRecDepth 100000 in
theorem d_X11_wordFun {ws0 : List Cond} {tb : String → gz_T} (hws : gc_Ws ws0) (htb : gc_tbs tb) (sh : gz_Sh) (ro : Nat → Nat) (I : gr_I) (J : gr_J) (A : gc_A) (hI : gc_Inv ro I) (p : Nat) (a1 : Int) (hp : gc_isTongue sh ro A p) (ha1 : 0 ≤ a1 ∧ a1 ≤ 63)  : ∃ r hₚ, gz_Ev ws0 tb 1 (yX11_wordFun, cX11_wordFun, 2, (some .int)) [.inr (.inr (some p)), .inl a1] sh (gc_h sh I J A) r sh hₚ 0 0 ∧ (hₚ = gc_h sh I J A ∧ (∃ z : Int, r = some (.inl z) ∧ 0 ≤ z ∧ z ≤ 95)) := by
  obtain ⟨S_p, R_p, B_p, A_p_0, h_p_1, A_p_1, h_p_3, A_p_2, S_p_5, R_p_5, B_p_5, A_p_3, S_p_6, R_p_6, B_p_6, A_p_4, h_p_7, A_p_5, S_p_9, R_p_9, B_p_9, A_p_7, S_p_10, R_p_10, B_p_10, A_p_8, h_p_11, A_p_9, S_p_13, R_p_13, B_p_13, A_p_10, S_p_14, R_p_14, B_p_14, A_p_12, S_p_15, R_p_15, B_p_15, A_p_14, S_p_16, R_p_16, B_p_16, A_p_15, h_p_17⟩ := id hp
  replace R_p := gz_hi R_p
  replace B_p := gz_hi B_p
  replace R_p_5 := gz_hi R_p_5
  replace B_p_5 := gz_hi B_p_5
  replace R_p_6 := gz_hi R_p_6
  replace B_p_6 := gz_hi B_p_6
  replace R_p_9 := gz_hi R_p_9
  replace B_p_9 := gz_hi B_p_9
  replace R_p_10 := gz_hi R_p_10
  replace B_p_10 := gz_hi B_p_10
  replace R_p_13 := gz_hi R_p_13
  replace B_p_13 := gz_hi B_p_13
  replace R_p_14 := gz_hi R_p_14
  replace B_p_14 := gz_hi B_p_14
  replace R_p_15 := gz_hi R_p_15
  replace B_p_15 := gz_hi B_p_15
  replace R_p_16 := gz_hi R_p_16
  replace B_p_16 := gz_hi B_p_16
  obtain ⟨S_p_1, R_p_1, B_p_1, A_p_1_0, S_p_1_1, R_p_1_1, B_p_1_1, Q0_p_1, Q1_p_1, Q2_p_1⟩ := id h_p_1
  replace R_p_1 := gz_hi R_p_1
  replace B_p_1 := gz_hi B_p_1
  replace R_p_1_1 := gz_hi R_p_1_1
  replace B_p_1_1 := gz_hi B_p_1_1
  obtain ⟨S_p_3, R_p_3, B_p_3, A_p_3_0, S_p_3_1, R_p_3_1, B_p_3_1, Q0_p_3, Q1_p_3, Q2_p_3⟩ := id h_p_3
  replace R_p_3 := gz_hi R_p_3
  replace B_p_3 := gz_hi B_p_3
  replace R_p_3_1 := gz_hi R_p_3_1
  replace B_p_3_1 := gz_hi B_p_3_1
  obtain ⟨S_p_7, R_p_7, B_p_7, A_p_7_0, S_p_7_1, R_p_7_1, B_p_7_1, Q0_p_7, Q1_p_7, Q2_p_7⟩ := id h_p_7
  replace R_p_7 := gz_hi R_p_7
  replace B_p_7 := gz_hi B_p_7
  replace R_p_7_1 := gz_hi R_p_7_1
  replace B_p_7_1 := gz_hi B_p_7_1
  obtain ⟨S_p_11, R_p_11, B_p_11, A_p_11_0, S_p_11_1, R_p_11_1, B_p_11_1, Q0_p_11, Q1_p_11, Q2_p_11⟩ := id h_p_11
  replace R_p_11 := gz_hi R_p_11
  replace B_p_11 := gz_hi B_p_11
  replace R_p_11_1 := gz_hi R_p_11_1
  replace B_p_11_1 := gz_hi B_p_11_1
  obtain ⟨S_p_17, R_p_17, B_p_17, A_p_17_0, S_20, R_20, B_20, A_p_17_1, S_p_17_1, R_p_17_1, B_p_17_1, A_p_17_2, S_p_17_2, R_p_17_2, B_p_17_2, A_p_17_3, S_p_17_3, R_p_17_3, B_p_17_3, A_p_17_4, S_p_17_4, R_p_17_4, B_p_17_4, A_p_17_5, S_p_17_5, R_p_17_5, B_p_17_5, S_p_17_6, R_p_17_6, B_p_17_6, S_p_17_7, R_p_17_7, B_p_17_7⟩ := id h_p_17
  replace R_p_17 := gz_hi R_p_17
  replace B_p_17 := gz_hi B_p_17
  replace R_20 := gz_hi R_20
  replace B_20 := gz_hi B_20
  replace R_p_17_1 := gz_hi R_p_17_1
  replace B_p_17_1 := gz_hi B_p_17_1
  replace R_p_17_2 := gz_hi R_p_17_2
  replace B_p_17_2 := gz_hi B_p_17_2
  replace R_p_17_3 := gz_hi R_p_17_3
  replace B_p_17_3 := gz_hi B_p_17_3
  replace R_p_17_4 := gz_hi R_p_17_4
  replace B_p_17_4 := gz_hi B_p_17_4
  replace R_p_17_5 := gz_hi R_p_17_5
  replace B_p_17_5 := gz_hi B_p_17_5
  replace R_p_17_6 := gz_hi R_p_17_6
  replace B_p_17_6 := gz_hi B_p_17_6
  replace R_p_17_7 := gz_hi R_p_17_7
  replace B_p_17_7 := gz_hi B_p_17_7
  have hD : gv_D (gc_E11 ws0 tb 0 (yX11_wordFun, cX11_wordFun, 2, (some .int)) kX11_wordFun) := gq_of oX11_wordFun
  refine gc_ev11 (d := 0) (l := kX11_wordFun) (Po := fun r hₚ => (hₚ = gc_h sh I J A ∧ (∃ z : Int, r = some (.inl z) ∧ 0 ≤ z ∧ z ≤ 95))) htb rfl (Nat.le_of_ble_eq_true rfl) ?_
  refine gv_run 1 true hD (pcₚ := 1) (lvₚ := [(0, .inr (.inr (some p))), (1, .inl a1)]) (stₚ := [.inr (.inr (some p))]) (hₚ := gc_h sh I J A) (C := (True ∧ True)) rfl ⟨trivial, trivial⟩ ?_
  refine gv_get hD rfl rfl S_p ⟨by decide, (gz_sh B_p)⟩ (gc_hA S_p rfl A_p_12) ?_
  show gv_X _ _ (4, [(0, .inr (.inr (some p))), (1, .inl a1)], [.inr (.inr (some (p + 15)))], sh, gc_h sh I J A)
  refine gv_run 3 true hD (pcₚ := 8) (lvₚ := [(0, .inr (.inr (some p))), (1, .inl a1)]) (stₚ := [.inl (a1 * 11), .inr (.inr (some (p + 15)))]) (hₚ := gc_h sh I J A) (C := (((True ∧ True) ∧ True) ∧ True)) rfl ⟨⟨⟨trivial, trivial⟩, trivial⟩, trivial⟩ ?_
  have f1 := gz_hi ((show 0 ≤ I (p + 15) (Int.toNat (a1 * 11)) ∧ I (p + 15) (Int.toNat (a1 * 11)) ≤ 95 from gc_inm (c := 0) hI (gz_sh R_p_15) rfl rfl (by (/-0-/first | omega | (simp only [gz_hd] at *; omega))) rfl rfl))
  refine gv_iald hD rfl S_p_15 rfl ⟨by decide, (gz_sh B_p_15)⟩ ⟨by (/-1-/first | omega | (simp only [gz_hd] at *; omega)), by (/-2-/first | omega | (simp only [gz_hd] at *; omega))⟩ (gc_iI S_p_15 rfl) ?_
  show gv_X _ _ (9, [(0, .inr (.inr (some p))), (1, .inl a1)], [.inl (I (p + 15) (Int.toNat (a1 * 11)))], sh, gc_h sh I J A)
  exact gv_iret hD rfl ⟨rfl, ⟨_, rfl, by (/-3-/first | (have o1 := gz_sh f1; omega) | (simp only [gz_hd] at *; omega))⟩⟩
set_option maxHeartbeats 8000000 in
set_option maxRecDepth 100000 in
theorem d_X11_wordPattern {ws0 : List Cond} {tb : String → gz_T} (hws : gc_Ws ws0) (htb : gc_tbs tb) (sh : gz_Sh) (ro : Nat → Nat) (I : gr_I) (J : gr_J) (A : gc_A) (hI : gc_Inv ro I) (p : Nat) (a1 : Int) (hp : gc_isTongue sh ro A p) (ha1 : 0 ≤ a1 ∧ a1 ≤ 63)  : ∃ r hₚ, gz_Ev ws0 tb 1 (yX11_wordPattern, cX11_wordPattern, 2, (some .int)) [.inr (.inr (some p)), .inl a1] sh (gc_h sh I J A) r sh hₚ 0 0 ∧ (hₚ = gc_h sh I J A ∧ (∃ z : Int, r = some (.inl z) ∧ 0 ≤ z ∧ z ≤ 23)) := by
  obtain ⟨S_p, R_p, B_p, A_p_0, h_p_1, A_p_1, h_p_3, A_p_2, S_p_5, R_p_5, B_p_5, A_p_3, S_p_6, R_p_6, B_p_6, A_p_4, h_p_7, A_p_5, S_p_9, R_p_9, B_p_9, A_p_7, S_p_10, R_p_10, B_p_10, A_p_8, h_p_11, A_p_9, S_p_13, R_p_13, B_p_13, A_p_10, S_p_14, R_p_14, B_p_14, A_p_12, S_p_15, R_p_15, B_p_15, A_p_14, S_p_16, R_p_16, B_p_16, A_p_15, h_p_17⟩ := id hp
  replace R_p := gz_hi R_p
  replace B_p := gz_hi B_p
  replace R_p_5 := gz_hi R_p_5
  replace B_p_5 := gz_hi B_p_5
  replace R_p_6 := gz_hi R_p_6
  replace B_p_6 := gz_hi B_p_6
  replace R_p_9 := gz_hi R_p_9
  replace B_p_9 := gz_hi B_p_9
  replace R_p_10 := gz_hi R_p_10
  replace B_p_10 := gz_hi B_p_10
  replace R_p_13 := gz_hi R_p_13
  replace B_p_13 := gz_hi B_p_13
  replace R_p_14 := gz_hi R_p_14
  replace B_p_14 := gz_hi B_p_14
  replace R_p_15 := gz_hi R_p_15
  replace B_p_15 := gz_hi B_p_15
  replace R_p_16 := gz_hi R_p_16
  replace B_p_16 := gz_hi B_p_16
  obtain ⟨S_p_1, R_p_1, B_p_1, A_p_1_0, S_p_1_1, R_p_1_1, B_p_1_1, Q0_p_1, Q1_p_1, Q2_p_1⟩ := id h_p_1
  replace R_p_1 := gz_hi R_p_1
  replace B_p_1 := gz_hi B_p_1
  replace R_p_1_1 := gz_hi R_p_1_1
  replace B_p_1_1 := gz_hi B_p_1_1
  obtain ⟨S_p_3, R_p_3, B_p_3, A_p_3_0, S_p_3_1, R_p_3_1, B_p_3_1, Q0_p_3, Q1_p_3, Q2_p_3⟩ := id h_p_3
  replace R_p_3 := gz_hi R_p_3
  replace B_p_3 := gz_hi B_p_3
  replace R_p_3_1 := gz_hi R_p_3_1
  replace B_p_3_1 := gz_hi B_p_3_1
  obtain ⟨S_p_7, R_p_7, B_p_7, A_p_7_0, S_p_7_1, R_p_7_1, B_p_7_1, Q0_p_7, Q1_p_7, Q2_p_7⟩ := id h_p_7
  replace R_p_7 := gz_hi R_p_7
  replace B_p_7 := gz_hi B_p_7
  replace R_p_7_1 := gz_hi R_p_7_1
  replace B_p_7_1 := gz_hi B_p_7_1
  obtain ⟨S_p_11, R_p_11, B_p_11, A_p_11_0, S_p_11_1, R_p_11_1, B_p_11_1, Q0_p_11, Q1_p_11, Q2_p_11⟩ := id h_p_11
  replace R_p_11 := gz_hi R_p_11
  replace B_p_11 := gz_hi B_p_11
  replace R_p_11_1 := gz_hi R_p_11_1
  replace B_p_11_1 := gz_hi B_p_11_1
  obtain ⟨S_p_17, R_p_17, B_p_17, A_p_17_0, S_20, R_20, B_20, A_p_17_1, S_p_17_1, R_p_17_1, B_p_17_1, A_p_17_2, S_p_17_2, R_p_17_2, B_p_17_2, A_p_17_3, S_p_17_3, R_p_17_3, B_p_17_3, A_p_17_4, S_p_17_4, R_p_17_4, B_p_17_4, A_p_17_5, S_p_17_5, R_p_17_5, B_p_17_5, S_p_17_6, R_p_17_6, B_p_17_6, S_p_17_7, R_p_17_7, B_p_17_7⟩ := id h_p_17
  replace R_p_17 := gz_hi R_p_17
  replace B_p_17 := gz_hi B_p_17
  replace R_20 := gz_hi R_20
  replace B_20 := gz_hi B_20
  replace R_p_17_1 := gz_hi R_p_17_1
  replace B_p_17_1 := gz_hi B_p_17_1
  replace R_p_17_2 := gz_hi R_p_17_2
  replace B_p_17_2 := gz_hi B_p_17_2
  replace R_p_17_3 := gz_hi R_p_17_3
  replace B_p_17_3 := gz_hi B_p_17_3
  replace R_p_17_4 := gz_hi R_p_17_4
  replace B_p_17_4 := gz_hi B_p_17_4
  replace R_p_17_5 := gz_hi R_p_17_5
  replace B_p_17_5 := gz_hi B_p_17_5
  replace R_p_17_6 := gz_hi R_p_17_6
  replace B_p_17_6 := gz_hi B_p_17_6
  replace R_p_17_7 := gz_hi R_p_17_7
  replace B_p_17_7 := gz_hi B_p_17_7
  have hD : gv_D (gc_E11 ws0 tb 0 (yX11_wordPattern, cX11_wordPattern, 2, (some .int)) kX11_wordPattern) := gq_of oX11_wordPattern
  refine gc_ev11 (d := 0) (l := kX11_wordPattern) (Po := fun r hₚ => (hₚ = gc_h sh I J A ∧ (∃ z : Int, r = some (.inl z) ∧ 0 ≤ z ∧ z ≤ 23))) htb rfl (Nat.le_of_ble_eq_true rfl) ?_
  refine gv_run 1 true hD (pcₚ := 1) (lvₚ := [(0, .inr (.inr (some p))), (1, .inl a1)]) (stₚ := [.inr (.inr (some p))]) (hₚ := gc_h sh I J A) (C := (True ∧ True)) rfl ⟨trivial, trivial⟩ ?_
  refine gv_get hD rfl rfl S_p ⟨by decide, (gz_sh B_p)⟩ (gc_hA S_p rfl A_p_12) ?_
  show gv_X _ _ (4, [(0, .inr (.inr (some p))), (1, .inl a1)], [.inr (.inr (some (p + 15)))], sh, gc_h sh I J A)
  refine gv_run 5 true hD (pcₚ := 10) (lvₚ := [(0, .inr (.inr (some p))), (1, .inl a1)]) (stₚ := [.inl ((a1 * 11) + 1), .inr (.inr (some (p + 15)))]) (hₚ := gc_h sh I J A) (C := (((((True ∧ True) ∧ True) ∧ True) ∧ True) ∧ True)) rfl ⟨⟨⟨⟨⟨trivial, trivial⟩, trivial⟩, trivial⟩, trivial⟩, trivial⟩ ?_
  have f1 := gz_hi ((show 0 ≤ I (p + 15) (Int.toNat (((a1 * 11) + 1))) ∧ I (p + 15) (Int.toNat (((a1 * 11) + 1))) ≤ 23 from gc_inm (c := 1) hI (gz_sh R_p_15) rfl rfl (by (/-0-/first | omega | (simp only [gz_hd] at *; omega))) rfl rfl))
  refine gv_iald hD rfl S_p_15 rfl ⟨by decide, (gz_sh B_p_15)⟩ ⟨by (/-1-/first | omega | (simp only [gz_hd] at *; omega)), by (/-2-/first | omega | (simp only [gz_hd] at *; omega))⟩ (gc_iI S_p_15 rfl) ?_
  show gv_X _ _ (11, [(0, .inr (.inr (some p))), (1, .inl a1)], [.inl (I (p + 15) (Int.toNat (((a1 * 11) + 1))))], sh, gc_h sh I J A)
  exact gv_iret hD rfl ⟨rfl, ⟨_, rfl, by (/-3-/first | (have o1 := gz_sh f1; omega) | (simp only [gz_hd] at *; omega))⟩⟩
set_option maxHeartbeats 8000000 in
set_option maxRecDepth 100000 in
theorem d_X11_wordCost {ws0 : List Cond} {tb : String → gz_T} (hws : gc_Ws ws0) (htb : gc_tbs tb) (sh : gz_Sh) (ro : Nat → Nat) (I : gr_I) (J : gr_J) (A : gc_A) (hI : gc_Inv ro I) (p : Nat) (a1 : Int) (hp : gc_isTongue sh ro A p) (ha1 : 0 ≤ a1 ∧ a1 ≤ 63)  : ∃ r hₚ, gz_Ev ws0 tb 1 (yX11_wordCost, cX11_wordCost, 2, (some .int)) [.inr (.inr (some p)), .inl a1] sh (gc_h sh I J A) r sh hₚ 0 0 ∧ (hₚ = gc_h sh I J A ∧ (∃ z : Int, r = some (.inl z) ∧ 0 ≤ z ∧ z ≤ 10000)) := by
  obtain ⟨S_p, R_p, B_p, A_p_0, h_p_1, A_p_1, h_p_3, A_p_2, S_p_5, R_p_5, B_p_5, A_p_3, S_p_6, R_p_6, B_p_6, A_p_4, h_p_7, A_p_5, S_p_9, R_p_9, B_p_9, A_p_7, S_p_10, R_p_10, B_p_10, A_p_8, h_p_11, A_p_9, S_p_13, R_p_13, B_p_13, A_p_10, S_p_14, R_p_14, B_p_14, A_p_12, S_p_15, R_p_15, B_p_15, A_p_14, S_p_16, R_p_16, B_p_16, A_p_15, h_p_17⟩ := id hp
  replace R_p := gz_hi R_p
  replace B_p := gz_hi B_p
  replace R_p_5 := gz_hi R_p_5
  replace B_p_5 := gz_hi B_p_5
  replace R_p_6 := gz_hi R_p_6
  replace B_p_6 := gz_hi B_p_6
  replace R_p_9 := gz_hi R_p_9
  replace B_p_9 := gz_hi B_p_9
  replace R_p_10 := gz_hi R_p_10
  replace B_p_10 := gz_hi B_p_10
  replace R_p_13 := gz_hi R_p_13
  replace B_p_13 := gz_hi B_p_13
  replace R_p_14 := gz_hi R_p_14
  replace B_p_14 := gz_hi B_p_14
  replace R_p_15 := gz_hi R_p_15
  replace B_p_15 := gz_hi B_p_15
  replace R_p_16 := gz_hi R_p_16
  replace B_p_16 := gz_hi B_p_16
  obtain ⟨S_p_1, R_p_1, B_p_1, A_p_1_0, S_p_1_1, R_p_1_1, B_p_1_1, Q0_p_1, Q1_p_1, Q2_p_1⟩ := id h_p_1
  replace R_p_1 := gz_hi R_p_1
  replace B_p_1 := gz_hi B_p_1
  replace R_p_1_1 := gz_hi R_p_1_1
  replace B_p_1_1 := gz_hi B_p_1_1
  obtain ⟨S_p_3, R_p_3, B_p_3, A_p_3_0, S_p_3_1, R_p_3_1, B_p_3_1, Q0_p_3, Q1_p_3, Q2_p_3⟩ := id h_p_3
  replace R_p_3 := gz_hi R_p_3
  replace B_p_3 := gz_hi B_p_3
  replace R_p_3_1 := gz_hi R_p_3_1
  replace B_p_3_1 := gz_hi B_p_3_1
  obtain ⟨S_p_7, R_p_7, B_p_7, A_p_7_0, S_p_7_1, R_p_7_1, B_p_7_1, Q0_p_7, Q1_p_7, Q2_p_7⟩ := id h_p_7
  replace R_p_7 := gz_hi R_p_7
  replace B_p_7 := gz_hi B_p_7
  replace R_p_7_1 := gz_hi R_p_7_1
  replace B_p_7_1 := gz_hi B_p_7_1
  obtain ⟨S_p_11, R_p_11, B_p_11, A_p_11_0, S_p_11_1, R_p_11_1, B_p_11_1, Q0_p_11, Q1_p_11, Q2_p_11⟩ := id h_p_11
  replace R_p_11 := gz_hi R_p_11
  replace B_p_11 := gz_hi B_p_11
  replace R_p_11_1 := gz_hi R_p_11_1
  replace B_p_11_1 := gz_hi B_p_11_1
  obtain ⟨S_p_17, R_p_17, B_p_17, A_p_17_0, S_20, R_20, B_20, A_p_17_1, S_p_17_1, R_p_17_1, B_p_17_1, A_p_17_2, S_p_17_2, R_p_17_2, B_p_17_2, A_p_17_3, S_p_17_3, R_p_17_3, B_p_17_3, A_p_17_4, S_p_17_4, R_p_17_4, B_p_17_4, A_p_17_5, S_p_17_5, R_p_17_5, B_p_17_5, S_p_17_6, R_p_17_6, B_p_17_6, S_p_17_7, R_p_17_7, B_p_17_7⟩ := id h_p_17
  replace R_p_17 := gz_hi R_p_17
  replace B_p_17 := gz_hi B_p_17
  replace R_20 := gz_hi R_20
  replace B_20 := gz_hi B_20
  replace R_p_17_1 := gz_hi R_p_17_1
  replace B_p_17_1 := gz_hi B_p_17_1
  replace R_p_17_2 := gz_hi R_p_17_2
  replace B_p_17_2 := gz_hi B_p_17_2
  replace R_p_17_3 := gz_hi R_p_17_3
  replace B_p_17_3 := gz_hi B_p_17_3
  replace R_p_17_4 := gz_hi R_p_17_4
  replace B_p_17_4 := gz_hi B_p_17_4
  replace R_p_17_5 := gz_hi R_p_17_5
  replace B_p_17_5 := gz_hi B_p_17_5
  replace R_p_17_6 := gz_hi R_p_17_6
  replace B_p_17_6 := gz_hi B_p_17_6
  replace R_p_17_7 := gz_hi R_p_17_7
  replace B_p_17_7 := gz_hi B_p_17_7
  have hD : gv_D (gc_E11 ws0 tb 0 (yX11_wordCost, cX11_wordCost, 2, (some .int)) kX11_wordCost) := gq_of oX11_wordCost
  refine gc_ev11 (d := 0) (l := kX11_wordCost) (Po := fun r hₚ => (hₚ = gc_h sh I J A ∧ (∃ z : Int, r = some (.inl z) ∧ 0 ≤ z ∧ z ≤ 10000))) htb rfl (Nat.le_of_ble_eq_true rfl) ?_
  refine gv_run 1 true hD (pcₚ := 1) (lvₚ := [(0, .inr (.inr (some p))), (1, .inl a1)]) (stₚ := [.inr (.inr (some p))]) (hₚ := gc_h sh I J A) (C := (True ∧ True)) rfl ⟨trivial, trivial⟩ ?_
  refine gv_get hD rfl rfl S_p ⟨by decide, (gz_sh B_p)⟩ (gc_hA S_p rfl A_p_12) ?_
  show gv_X _ _ (4, [(0, .inr (.inr (some p))), (1, .inl a1)], [.inr (.inr (some (p + 15)))], sh, gc_h sh I J A)
  refine gv_run 5 true hD (pcₚ := 10) (lvₚ := [(0, .inr (.inr (some p))), (1, .inl a1)]) (stₚ := [.inl ((a1 * 11) + 3), .inr (.inr (some (p + 15)))]) (hₚ := gc_h sh I J A) (C := (((((True ∧ True) ∧ True) ∧ True) ∧ True) ∧ True)) rfl ⟨⟨⟨⟨⟨trivial, trivial⟩, trivial⟩, trivial⟩, trivial⟩, trivial⟩ ?_
  have f1 := gz_hi ((show 0 ≤ I (p + 15) (Int.toNat (((a1 * 11) + 3))) ∧ I (p + 15) (Int.toNat (((a1 * 11) + 3))) ≤ 10000 from gc_inm (c := 3) hI (gz_sh R_p_15) rfl rfl (by (/-0-/first | omega | (simp only [gz_hd] at *; omega))) rfl rfl))
  refine gv_iald hD rfl S_p_15 rfl ⟨by decide, (gz_sh B_p_15)⟩ ⟨by (/-1-/first | omega | (simp only [gz_hd] at *; omega)), by (/-2-/first | omega | (simp only [gz_hd] at *; omega))⟩ (gc_iI S_p_15 rfl) ?_
  show gv_X _ _ (11, [(0, .inr (.inr (some p))), (1, .inl a1)], [.inl (I (p + 15) (Int.toNat (((a1 * 11) + 3))))], sh, gc_h sh I J A)
  exact gv_iret hD rfl ⟨rfl, ⟨_, rfl, by (/-3-/first | (have o1 := gz_sh f1; omega) | (simp only [gz_hd] at *; omega))⟩⟩
set_option maxHeartbeats 8000000 in
set_option maxRecDepth 100000 in
theorem d_X11_cellsOf {ws0 : List Cond} {tb : String → gz_T} (hws : gc_Ws ws0) (htb : gc_tbs tb) (sh : gz_Sh) (ro : Nat → Nat) (I : gr_I) (J : gr_J) (A : gc_A) (hI : gc_Inv ro I) (p : Nat) (a1 : Int) (hp : gc_isTongue sh ro A p) (ha1 : 0 ≤ a1 ∧ a1 ≤ 63)  : ∃ r hₚ, gz_Ev ws0 tb 2 (yX11_cellsOf, cX11_cellsOf, 2, (some .int)) [.inr (.inr (some p)), .inl a1] sh (gc_h sh I J A) r sh hₚ 0 0 ∧ (hₚ = gc_h sh I J A ∧ (∃ z : Int, r = some (.inl z) ∧ 0 ≤ z ∧ z ≤ 24)) := by
  obtain ⟨S_p, R_p, B_p, A_p_0, h_p_1, A_p_1, h_p_3, A_p_2, S_p_5, R_p_5, B_p_5, A_p_3, S_p_6, R_p_6, B_p_6, A_p_4, h_p_7, A_p_5, S_p_9, R_p_9, B_p_9, A_p_7, S_p_10, R_p_10, B_p_10, A_p_8, h_p_11, A_p_9, S_p_13, R_p_13, B_p_13, A_p_10, S_p_14, R_p_14, B_p_14, A_p_12, S_p_15, R_p_15, B_p_15, A_p_14, S_p_16, R_p_16, B_p_16, A_p_15, h_p_17⟩ := id hp
  replace R_p := gz_hi R_p
  replace B_p := gz_hi B_p
  replace R_p_5 := gz_hi R_p_5
  replace B_p_5 := gz_hi B_p_5
  replace R_p_6 := gz_hi R_p_6
  replace B_p_6 := gz_hi B_p_6
  replace R_p_9 := gz_hi R_p_9
  replace B_p_9 := gz_hi B_p_9
  replace R_p_10 := gz_hi R_p_10
  replace B_p_10 := gz_hi B_p_10
  replace R_p_13 := gz_hi R_p_13
  replace B_p_13 := gz_hi B_p_13
  replace R_p_14 := gz_hi R_p_14
  replace B_p_14 := gz_hi B_p_14
  replace R_p_15 := gz_hi R_p_15
  replace B_p_15 := gz_hi B_p_15
  replace R_p_16 := gz_hi R_p_16
  replace B_p_16 := gz_hi B_p_16
  obtain ⟨S_p_1, R_p_1, B_p_1, A_p_1_0, S_p_1_1, R_p_1_1, B_p_1_1, Q0_p_1, Q1_p_1, Q2_p_1⟩ := id h_p_1
  replace R_p_1 := gz_hi R_p_1
  replace B_p_1 := gz_hi B_p_1
  replace R_p_1_1 := gz_hi R_p_1_1
  replace B_p_1_1 := gz_hi B_p_1_1
  obtain ⟨S_p_3, R_p_3, B_p_3, A_p_3_0, S_p_3_1, R_p_3_1, B_p_3_1, Q0_p_3, Q1_p_3, Q2_p_3⟩ := id h_p_3
  replace R_p_3 := gz_hi R_p_3
  replace B_p_3 := gz_hi B_p_3
  replace R_p_3_1 := gz_hi R_p_3_1
  replace B_p_3_1 := gz_hi B_p_3_1
  obtain ⟨S_p_7, R_p_7, B_p_7, A_p_7_0, S_p_7_1, R_p_7_1, B_p_7_1, Q0_p_7, Q1_p_7, Q2_p_7⟩ := id h_p_7
  replace R_p_7 := gz_hi R_p_7
  replace B_p_7 := gz_hi B_p_7
  replace R_p_7_1 := gz_hi R_p_7_1
  replace B_p_7_1 := gz_hi B_p_7_1
  obtain ⟨S_p_11, R_p_11, B_p_11, A_p_11_0, S_p_11_1, R_p_11_1, B_p_11_1, Q0_p_11, Q1_p_11, Q2_p_11⟩ := id h_p_11
  replace R_p_11 := gz_hi R_p_11
  replace B_p_11 := gz_hi B_p_11
  replace R_p_11_1 := gz_hi R_p_11_1
  replace B_p_11_1 := gz_hi B_p_11_1
  obtain ⟨S_p_17, R_p_17, B_p_17, A_p_17_0, S_20, R_20, B_20, A_p_17_1, S_p_17_1, R_p_17_1, B_p_17_1, A_p_17_2, S_p_17_2, R_p_17_2, B_p_17_2, A_p_17_3, S_p_17_3, R_p_17_3, B_p_17_3, A_p_17_4, S_p_17_4, R_p_17_4, B_p_17_4, A_p_17_5, S_p_17_5, R_p_17_5, B_p_17_5, S_p_17_6, R_p_17_6, B_p_17_6, S_p_17_7, R_p_17_7, B_p_17_7⟩ := id h_p_17
  replace R_p_17 := gz_hi R_p_17
  replace B_p_17 := gz_hi B_p_17
  replace R_20 := gz_hi R_20
  replace B_20 := gz_hi B_20
  replace R_p_17_1 := gz_hi R_p_17_1
  replace B_p_17_1 := gz_hi B_p_17_1
  replace R_p_17_2 := gz_hi R_p_17_2
  replace B_p_17_2 := gz_hi B_p_17_2
  replace R_p_17_3 := gz_hi R_p_17_3
  replace B_p_17_3 := gz_hi B_p_17_3
  replace R_p_17_4 := gz_hi R_p_17_4
  replace B_p_17_4 := gz_hi B_p_17_4
  replace R_p_17_5 := gz_hi R_p_17_5
  replace B_p_17_5 := gz_hi B_p_17_5
  replace R_p_17_6 := gz_hi R_p_17_6
  replace B_p_17_6 := gz_hi B_p_17_6
  replace R_p_17_7 := gz_hi R_p_17_7
  replace B_p_17_7 := gz_hi B_p_17_7
  have hD : gv_D (gc_E11 ws0 tb 1 (yX11_cellsOf, cX11_cellsOf, 2, (some .int)) kX11_cellsOf) := gq_of oX11_cellsOf
  refine gc_ev11 (d := 1) (l := kX11_cellsOf) (Po := fun r hₚ => (hₚ = gc_h sh I J A ∧ (∃ z : Int, r = some (.inl z) ∧ 0 ≤ z ∧ z ≤ 24))) htb rfl (Nat.le_of_ble_eq_true rfl) ?_
  refine gv_run 1 true hD (pcₚ := 1) (lvₚ := [(0, .inr (.inr (some p))), (1, .inl a1)]) (stₚ := [.inr (.inr (some p))]) (hₚ := gc_h sh I J A) (C := (True ∧ True)) rfl ⟨trivial, trivial⟩ ?_
  refine gv_get hD rfl rfl S_p ⟨by decide, (gz_sh B_p)⟩ (gc_hA S_p rfl A_p_9) ?_
  show gv_X _ _ (4, [(0, .inr (.inr (some p))), (1, .inl a1)], [.inr (.inr (some (p + 13)))], sh, gc_h sh I J A)
  refine gv_run 2 true hD (pcₚ := 6) (lvₚ := [(0, .inr (.inr (some p))), (1, .inl a1)]) (stₚ := [.inl a1, .inr (.inr (some p)), .inr (.inr (some (p + 13)))]) (hₚ := gc_h sh I J A) (C := ((True ∧ True) ∧ True)) rfl ⟨⟨trivial, trivial⟩, trivial⟩ ?_
  obtain ⟨r1, h1, E1, P1⟩ := d_X11_wordPattern (ws0 := ws0) (tb := tb) hws htb sh ro I J A hI p a1 hp   ⟨by (/-0-/first | omega | (simp only [gz_hd] at *; omega)), by (/-1-/first | omega | (simp only [gz_hd] at *; omega))⟩  
  obtain ⟨rfl, ⟨z1, rfl, q1⟩⟩ := P1
  replace q1 := gz_hi q1
  refine gv_callV hD rfl (As := [.inl a1]) (st := [.inr (.inr (some (p + 13)))]) rfl (gz_sh B_p) S_p rfl (gc_lV11 hws rfl) (Nat.le_of_ble_eq_true rfl) (gz_Ev_mono (d := 1) (by decide) E1) ?_
  show gv_X _ _ (9, [(0, .inr (.inr (some p))), (1, .inl a1)], [.inl z1, .inr (.inr (some (p + 13)))], sh, gc_h sh I J A)
  have f2 := gz_hi ((show 0 ≤ I (p + 13) (Int.toNat z1) ∧ I (p + 13) (Int.toNat z1) ≤ 24 from gc_in2 hI (gz_sh R_p_13) rfl rfl rfl))
  refine gv_iald hD rfl S_p_13 rfl ⟨by decide, (gz_sh B_p_13)⟩ ⟨by (/-2-/first | (have o1 := gz_sh q1; omega) | (simp only [gz_hd] at *; omega)), by (/-3-/first | (have o1 := gz_sh q1; omega) | (simp only [gz_hd] at *; omega))⟩ (gc_iI S_p_13 rfl) ?_
  show gv_X _ _ (10, [(0, .inr (.inr (some p))), (1, .inl a1)], [.inl (I (p + 13) (Int.toNat z1))], sh, gc_h sh I J A)
  exact gv_iret hD rfl ⟨rfl, ⟨_, rfl, by (/-4-/first | (have o1 := gz_sh f2; omega) | (simp only [gz_hd] at *; omega))⟩⟩
set_option maxHeartbeats 8000000 in
set_option maxRecDepth 100000 in
theorem d_X11_formValues {ws0 : List Cond} {tb : String → gz_T} (hws : gc_Ws ws0) (htb : gc_tbs tb) (sh : gz_Sh) (ro : Nat → Nat) (I : gr_I) (J : gr_J) (A : gc_A) (hI : gc_Inv ro I) (p : Nat) (a1 : Int) (hp : gc_isTongue sh ro A p) (ha1 : 0 ≤ a1 ∧ a1 ≤ 1535)  : ∃ r hₚ, gz_Ev ws0 tb 2 (yX11_formValues, cX11_formValues, 6, (some .int)) [.inr (.inr (some p)), .inl a1] sh (gc_h sh I J A) r sh hₚ 0 0 ∧ (hₚ = gc_h sh I J A ∧ (∃ z : Int, r = some (.inl z) ∧ 0 ≤ z ∧ z ≤ 16777215)) := by
  obtain ⟨S_p, R_p, B_p, A_p_0, h_p_1, A_p_1, h_p_3, A_p_2, S_p_5, R_p_5, B_p_5, A_p_3, S_p_6, R_p_6, B_p_6, A_p_4, h_p_7, A_p_5, S_p_9, R_p_9, B_p_9, A_p_7, S_p_10, R_p_10, B_p_10, A_p_8, h_p_11, A_p_9, S_p_13, R_p_13, B_p_13, A_p_10, S_p_14, R_p_14, B_p_14, A_p_12, S_p_15, R_p_15, B_p_15, A_p_14, S_p_16, R_p_16, B_p_16, A_p_15, h_p_17⟩ := id hp
  replace R_p := gz_hi R_p
  replace B_p := gz_hi B_p
  replace R_p_5 := gz_hi R_p_5
  replace B_p_5 := gz_hi B_p_5
  replace R_p_6 := gz_hi R_p_6
  replace B_p_6 := gz_hi B_p_6
  replace R_p_9 := gz_hi R_p_9
  replace B_p_9 := gz_hi B_p_9
  replace R_p_10 := gz_hi R_p_10
  replace B_p_10 := gz_hi B_p_10
  replace R_p_13 := gz_hi R_p_13
  replace B_p_13 := gz_hi B_p_13
  replace R_p_14 := gz_hi R_p_14
  replace B_p_14 := gz_hi B_p_14
  replace R_p_15 := gz_hi R_p_15
  replace B_p_15 := gz_hi B_p_15
  replace R_p_16 := gz_hi R_p_16
  replace B_p_16 := gz_hi B_p_16
  obtain ⟨S_p_1, R_p_1, B_p_1, A_p_1_0, S_p_1_1, R_p_1_1, B_p_1_1, Q0_p_1, Q1_p_1, Q2_p_1⟩ := id h_p_1
  replace R_p_1 := gz_hi R_p_1
  replace B_p_1 := gz_hi B_p_1
  replace R_p_1_1 := gz_hi R_p_1_1
  replace B_p_1_1 := gz_hi B_p_1_1
  obtain ⟨S_p_3, R_p_3, B_p_3, A_p_3_0, S_p_3_1, R_p_3_1, B_p_3_1, Q0_p_3, Q1_p_3, Q2_p_3⟩ := id h_p_3
  replace R_p_3 := gz_hi R_p_3
  replace B_p_3 := gz_hi B_p_3
  replace R_p_3_1 := gz_hi R_p_3_1
  replace B_p_3_1 := gz_hi B_p_3_1
  obtain ⟨S_p_7, R_p_7, B_p_7, A_p_7_0, S_p_7_1, R_p_7_1, B_p_7_1, Q0_p_7, Q1_p_7, Q2_p_7⟩ := id h_p_7
  replace R_p_7 := gz_hi R_p_7
  replace B_p_7 := gz_hi B_p_7
  replace R_p_7_1 := gz_hi R_p_7_1
  replace B_p_7_1 := gz_hi B_p_7_1
  obtain ⟨S_p_11, R_p_11, B_p_11, A_p_11_0, S_p_11_1, R_p_11_1, B_p_11_1, Q0_p_11, Q1_p_11, Q2_p_11⟩ := id h_p_11
  replace R_p_11 := gz_hi R_p_11
  replace B_p_11 := gz_hi B_p_11
  replace R_p_11_1 := gz_hi R_p_11_1
  replace B_p_11_1 := gz_hi B_p_11_1
  obtain ⟨S_p_17, R_p_17, B_p_17, A_p_17_0, S_20, R_20, B_20, A_p_17_1, S_p_17_1, R_p_17_1, B_p_17_1, A_p_17_2, S_p_17_2, R_p_17_2, B_p_17_2, A_p_17_3, S_p_17_3, R_p_17_3, B_p_17_3, A_p_17_4, S_p_17_4, R_p_17_4, B_p_17_4, A_p_17_5, S_p_17_5, R_p_17_5, B_p_17_5, S_p_17_6, R_p_17_6, B_p_17_6, S_p_17_7, R_p_17_7, B_p_17_7⟩ := id h_p_17
  replace R_p_17 := gz_hi R_p_17
  replace B_p_17 := gz_hi B_p_17
  replace R_20 := gz_hi R_20
  replace B_20 := gz_hi B_20
  replace R_p_17_1 := gz_hi R_p_17_1
  replace B_p_17_1 := gz_hi B_p_17_1
  replace R_p_17_2 := gz_hi R_p_17_2
  replace B_p_17_2 := gz_hi B_p_17_2
  replace R_p_17_3 := gz_hi R_p_17_3
  replace B_p_17_3 := gz_hi B_p_17_3
  replace R_p_17_4 := gz_hi R_p_17_4
  replace B_p_17_4 := gz_hi B_p_17_4
  replace R_p_17_5 := gz_hi R_p_17_5
  replace B_p_17_5 := gz_hi B_p_17_5
  replace R_p_17_6 := gz_hi R_p_17_6
  replace B_p_17_6 := gz_hi B_p_17_6
  replace R_p_17_7 := gz_hi R_p_17_7
  replace B_p_17_7 := gz_hi B_p_17_7
  have hD : gv_D (gc_E11 ws0 tb 1 (yX11_formValues, cX11_formValues, 6, (some .int)) kX11_formValues) := gq_of oX11_formValues
  refine gc_ev11 (d := 1) (l := kX11_formValues) (Po := fun r hₚ => (hₚ = gc_h sh I J A ∧ (∃ z : Int, r = some (.inl z) ∧ 0 ≤ z ∧ z ≤ 16777215))) htb rfl (Nat.le_of_ble_eq_true rfl) ?_
  have L42 : ∀ (n9 : Nat) (v3_1 : Int) (v4_1 : Int) (v5_1 : Int), (25 - v5_1).toNat < n9 → ((0 ≤ v3_1 ∧ v3_1 ≤ 16777215) ∧ (0 ≤ v4_1 ∧ v4_1 ≤ 16777215) ∧ (0 ≤ v5_1 ∧ v5_1 ≤ 24)) → gv_X (gc_E11 ws0 tb 1 (yX11_formValues, cX11_formValues, 6, (some .int)) kX11_formValues) (gv_Q cX11_formValues (some .int) sh (fun r hₚ => (hₚ = gc_h sh I J A ∧ (∃ z : Int, r = some (.inl z) ∧ 0 ≤ z ∧ z ≤ 16777215)))) (42, [(3, .inl v3_1), (4, .inl v4_1), (5, .inl v5_1)], [], sh, gc_h sh I J A) := by
    intro n9
    induction n9 with
    | zero => intro v3_1 v4_1 v5_1 hn; (/-0-/first | omega | (simp only [gz_hd] at *; omega))
    | succ n9 ih42 =>
      intro v3_1 v4_1 v5_1 hn m_1
      obtain ⟨hv3_1, hv4_1, hv5_1⟩ := gz_h3 m_1
      have L70 : ∀ (v3_2 : Int), ((0 ≤ v3_2 ∧ v3_2 ≤ 16777215) ∧ (0 ≤ v4_1 ∧ v4_1 ≤ 16777215) ∧ (0 ≤ v5_1 ∧ v5_1 ≤ 21)) → gv_X (gc_E11 ws0 tb 1 (yX11_formValues, cX11_formValues, 6, (some .int)) kX11_formValues) (gv_Q cX11_formValues (some .int) sh (fun r hₚ => (hₚ = gc_h sh I J A ∧ (∃ z : Int, r = some (.inl z) ∧ 0 ≤ z ∧ z ≤ 16777215)))) (70, [(3, .inl v3_2), (4, .inl v4_1), (5, .inl v5_1)], [], sh, gc_h sh I J A) := by
        intro v3_2 m_2
        obtain ⟨hv3_2, hv4_1_2, hv5_1_2⟩ := gz_h3 m_2
        refine gv_run 2 true hD (pcₚ := 42) (lvₚ := [(5, .inl (v5_1 + 3)), (3, .inl v3_2), (4, .inl v4_1)]) (stₚ := []) (hₚ := gc_h sh I J A) (C := ((True ∧ True) ∧ True)) rfl ⟨⟨trivial, trivial⟩, trivial⟩ ?_
        refine gv_pick [1, 2, 0] rfl ?_
        exact ih42 v3_2 v4_1 (v5_1 + 3) (by (/-1-/first | (have o1 := gz_sh hv5_1; have o2 := gz_sh hv5_1_2; omega) | (simp only [gz_hd] at *; omega))) (by (/-2-/first | (and_intros; (have o1 := gz_sh hv3_2; omega); (have o1 := gz_sh hv3_2; omega); (have o1 := gz_sh hv4_1; omega); (have o1 := gz_sh hv4_1; omega); (have o1 := gz_sh hv5_1; omega); (have o1 := gz_sh hv5_1_2; omega)) | (simp only [gz_hd] at *; omega)))
      refine gv_run 2 true hD (pcₚ := 46) (lvₚ := [(3, .inl v3_1), (4, .inl v4_1), (5, .inl v5_1)]) (stₚ := [.inl 21, .inl v5_1]) (hₚ := gc_h sh I J A) (C := ((True ∧ True) ∧ True)) rfl ⟨⟨trivial, trivial⟩, trivial⟩ ?_
      refine gv_icmp_gt (t := 76) hD rfl rfl ⟨⟨by (/-3-/first | (have o1 := gz_sh hv5_1; omega) | (simp only [gz_hd] at *; omega)), by (/-4-/first | (have o1 := gz_sh hv5_1; omega) | (simp only [gz_hd] at *; omega))⟩, ⟨by (/-5-/first | omega | (simp only [gz_hd] at *; omega)), by (/-6-/first | omega | (simp only [gz_hd] at *; omega))⟩⟩ (fun c3 => ?_) (fun c3 => ?_)
      · show gv_X _ _ (76, [(3, .inl v3_1), (4, .inl v4_1), (5, .inl v5_1)], [], sh, gc_h sh I J A)
        refine gv_run 1 true hD (pcₚ := 77) (lvₚ := [(3, .inl v3_1), (4, .inl v4_1), (5, .inl v5_1)]) (stₚ := [.inl v3_1]) (hₚ := gc_h sh I J A) (C := (True ∧ True)) rfl ⟨trivial, trivial⟩ ?_
        exact gv_iret hD rfl ⟨rfl, ⟨_, rfl, by (/-7-/first | (have o1 := gz_sh hv3_1; omega) | (simp only [gz_hd] at *; omega))⟩⟩
      · show gv_X _ _ (49, [(3, .inl v3_1), (4, .inl v4_1), (5, .inl v5_1)], [], sh, gc_h sh I J A)
        have f5 := gz_hi (gw_and (x := (((Int32.ofInt v3_1 >>> (Int32.ofInt v5_1 &&& 31)).toInt))) (y := 7) ⟨by (/-10-/first | omega | (simp only [gz_hd] at *; omega)), by (/-11-/first | omega | (simp only [gz_hd] at *; omega))⟩)
        refine gv_run 5 true hD (pcₚ := 56) (lvₚ := [(3, .inl v3_1), (4, .inl v4_1), (5, .inl v5_1)]) (stₚ := [.inl ((Int32.ofInt (((Int32.ofInt v3_1 >>> (Int32.ofInt v5_1 &&& 31)).toInt)) &&& Int32.ofInt 7).toInt)]) (hₚ := gc_h sh I J A) (C := (((((True ∧ True) ∧ True) ∧ True) ∧ True) ∧ True)) rfl ⟨⟨⟨⟨⟨trivial, trivial⟩, trivial⟩, trivial⟩, trivial⟩, trivial⟩ ?_
        refine gv_if_ne (t := 70) hD rfl rfl ⟨by (/-12-/first | (have o1 := gz_sh f5; omega) | (simp only [gz_hd] at *; omega)), by (/-13-/first | (have o1 := gz_sh f5; omega) | (simp only [gz_hd] at *; omega))⟩ (fun c6 => ?_) (fun c6 => ?_)
        · show gv_X _ _ (70, [(3, .inl v3_1), (4, .inl v4_1), (5, .inl v5_1)], [], sh, gc_h sh I J A)
          exact L70 v3_1 (by (/-14-/first | (and_intros; (have o1 := gz_sh hv3_1; omega); (have o1 := gz_sh hv3_1; omega); (have o1 := gz_sh hv4_1; omega); (have o1 := gz_sh hv4_1; omega); (have o1 := gz_sh hv5_1; omega); (omega)) | (simp only [gz_hd] at *; omega)))
        · show gv_X _ _ (59, [(3, .inl v3_1), (4, .inl v4_1), (5, .inl v5_1)], [], sh, gc_h sh I J A)
          have f8 := gz_hi (gw_andl (x := v4_1) (y := (((Int32.ofInt 7 <<< (Int32.ofInt v5_1 &&& 31)).toInt))) ⟨by (/-19-/first | (have o1 := gz_sh hv4_1; omega) | (simp only [gz_hd] at *; omega)), by (/-20-/first | (have o1 := gz_sh hv4_1; omega) | (simp only [gz_hd] at *; omega))⟩)
          have f9 := gz_hi (gw_or (x := v3_1) (y := (((Int32.ofInt v4_1 &&& Int32.ofInt (((Int32.ofInt 7 <<< (Int32.ofInt v5_1 &&& 31)).toInt))).toInt))) ⟨by (/-21-/first | (have o1 := gz_sh hv3_1; omega) | (simp only [gz_hd] at *; omega)), by (/-22-/first | (have o1 := gz_sh hv3_1; omega) | (simp only [gz_hd] at *; omega))⟩ ⟨by (/-23-/first | (have o1 := gz_sh f8; omega) | (simp only [gz_hd] at *; omega)), by (/-24-/first | (have o1 := gz_sh f8; have o2 := gz_sh hv4_1; omega) | (simp only [gz_hd] at *; omega))⟩)
          refine gv_run 7 true hD (pcₚ := 69) (lvₚ := [(3, .inl v3_1), (4, .inl v4_1), (5, .inl v5_1)]) (stₚ := [.inl ((Int32.ofInt v3_1 ||| Int32.ofInt (((Int32.ofInt v4_1 &&& Int32.ofInt (((Int32.ofInt 7 <<< (Int32.ofInt v5_1 &&& 31)).toInt))).toInt))).toInt)]) (hₚ := gc_h sh I J A) (C := (((((((True ∧ True) ∧ True) ∧ True) ∧ True) ∧ True) ∧ True) ∧ True)) rfl ⟨⟨⟨⟨⟨⟨⟨trivial, trivial⟩, trivial⟩, trivial⟩, trivial⟩, trivial⟩, trivial⟩, trivial⟩ ?_
          refine gv_run 1 true hD (pcₚ := 70) (lvₚ := [(3, .inl ((Int32.ofInt v3_1 ||| Int32.ofInt (((Int32.ofInt v4_1 &&& Int32.ofInt (((Int32.ofInt 7 <<< (Int32.ofInt v5_1 &&& 31)).toInt))).toInt))).toInt)), (4, .inl v4_1), (5, .inl v5_1)]) (stₚ := []) (hₚ := gc_h sh I J A) (C := (True ∧ True)) rfl ⟨trivial, trivial⟩ ?_
          exact L70 (((Int32.ofInt v3_1 ||| Int32.ofInt (((Int32.ofInt v4_1 &&& Int32.ofInt (((Int32.ofInt 7 <<< (Int32.ofInt v5_1 &&& 31)).toInt))).toInt))).toInt)) (by (/-25-/first | (and_intros; (have o1 := gz_sh f9; omega); (have o1 := gz_sh f9; omega); (have o1 := gz_sh hv4_1; omega); (have o1 := gz_sh hv4_1; omega); (have o1 := gz_sh hv5_1; omega); (omega)) | (simp only [gz_hd] at *; omega)))
  have f10 := gz_hi (gw_div (x := a1) (y := 24) ⟨by (/-26-/first | omega | (simp only [gz_hd] at *; omega)), by (/-27-/first | omega | (simp only [gz_hd] at *; omega))⟩ ⟨by (/-28-/first | omega | (simp only [gz_hd] at *; omega)), by (/-29-/first | omega | (simp only [gz_hd] at *; omega))⟩)
  refine gv_run 5 true hD (pcₚ := 6) (lvₚ := [(2, .inl ((Int32.ofInt a1 / Int32.ofInt 24).toInt)), (0, .inr (.inr (some p))), (1, .inl a1)]) (stₚ := [.inr (.inr (some p))]) (hₚ := gc_h sh I J A) (C := (((((True ∧ True) ∧ True) ∧ (gz_R 24 ∧ ¬ 24 = 0)) ∧ True) ∧ True)) rfl ⟨⟨⟨⟨⟨trivial, trivial⟩, trivial⟩, ⟨⟨by (/-30-/first | omega | (simp only [gz_hd] at *; omega)), by (/-31-/first | omega | (simp only [gz_hd] at *; omega))⟩, by (/-32-/first | omega | (simp only [gz_hd] at *; omega))⟩⟩, trivial⟩, trivial⟩ ?_
  refine gv_get hD rfl rfl S_p ⟨by decide, (gz_sh B_p)⟩ (gc_hA S_p rfl A_p_10) ?_
  show gv_X _ _ (9, [(2, .inl ((Int32.ofInt a1 / Int32.ofInt 24).toInt)), (0, .inr (.inr (some p))), (1, .inl a1)], [.inr (.inr (some (p + 14)))], sh, gc_h sh I J A)
  refine gv_run 2 true hD (pcₚ := 11) (lvₚ := [(2, .inl ((Int32.ofInt a1 / Int32.ofInt 24).toInt)), (0, .inr (.inr (some p))), (1, .inl a1)]) (stₚ := [.inl ((Int32.ofInt a1 / Int32.ofInt 24).toInt), .inr (.inr (some p)), .inr (.inr (some (p + 14)))]) (hₚ := gc_h sh I J A) (C := ((True ∧ True) ∧ True)) rfl ⟨⟨trivial, trivial⟩, trivial⟩ ?_
  obtain ⟨r11, h11, E11, P11⟩ := d_X11_wordPattern (ws0 := ws0) (tb := tb) hws htb sh ro I J A hI p (((Int32.ofInt a1 / Int32.ofInt 24).toInt)) hp   ⟨by (/-33-/first | (have o1 := gz_sh f10; omega) | (simp only [gz_hd] at *; omega)), by (/-34-/first | (have o1 := gz_sh f10; omega) | (simp only [gz_hd] at *; omega))⟩  
  obtain ⟨rfl, ⟨z11, rfl, q11⟩⟩ := P11
  replace q11 := gz_hi q11
  refine gv_callV hD rfl (As := [.inl ((Int32.ofInt a1 / Int32.ofInt 24).toInt)]) (st := [.inr (.inr (some (p + 14)))]) rfl (gz_sh B_p) S_p rfl (gc_lV11 hws rfl) (Nat.le_of_ble_eq_true rfl) (gz_Ev_mono (d := 1) (by decide) E11) ?_
  show gv_X _ _ (14, [(2, .inl ((Int32.ofInt a1 / Int32.ofInt 24).toInt)), (0, .inr (.inr (some p))), (1, .inl a1)], [.inl z11, .inr (.inr (some (p + 14)))], sh, gc_h sh I J A)
  have f12 := gz_hi (gw_rem (x := a1) (y := 24) ⟨by (/-35-/first | omega | (simp only [gz_hd] at *; omega)), by (/-36-/first | omega | (simp only [gz_hd] at *; omega))⟩ ⟨by (/-37-/first | omega | (simp only [gz_hd] at *; omega)), by (/-38-/first | omega | (simp only [gz_hd] at *; omega))⟩)
  refine gv_run 7 true hD (pcₚ := 23) (lvₚ := [(2, .inl ((Int32.ofInt a1 / Int32.ofInt 24).toInt)), (0, .inr (.inr (some p))), (1, .inl a1)]) (stₚ := [.inl 3, .inl ((z11 * 24) + ((Int32.ofInt a1 - Int32.ofInt a1 / Int32.ofInt 24 * Int32.ofInt 24).toInt)), .inr (.inr (some (p + 14)))]) (hₚ := gc_h sh I J A) (C := (((((((True ∧ True) ∧ True) ∧ True) ∧ True) ∧ (gz_R 24 ∧ ¬ 24 = 0)) ∧ True) ∧ True)) rfl ⟨⟨⟨⟨⟨⟨⟨trivial, trivial⟩, trivial⟩, trivial⟩, trivial⟩, ⟨⟨by (/-39-/first | omega | (simp only [gz_hd] at *; omega)), by (/-40-/first | omega | (simp only [gz_hd] at *; omega))⟩, by (/-41-/first | omega | (simp only [gz_hd] at *; omega))⟩⟩, trivial⟩, trivial⟩ ?_
  refine gv_run 1 true hD (pcₚ := 24) (lvₚ := [(2, .inl ((Int32.ofInt a1 / Int32.ofInt 24).toInt)), (0, .inr (.inr (some p))), (1, .inl a1)]) (stₚ := [.inl (((z11 * 24) + ((Int32.ofInt a1 - Int32.ofInt a1 / Int32.ofInt 24 * Int32.ofInt 24).toInt)) * 3), .inr (.inr (some (p + 14)))]) (hₚ := gc_h sh I J A) (C := (True ∧ True)) rfl ⟨trivial, trivial⟩ ?_
  have f13 := gz_hi ((show 0 ≤ I (p + 14) (Int.toNat ((((z11 * 24) + ((Int32.ofInt a1 - Int32.ofInt a1 / Int32.ofInt 24 * Int32.ofInt 24).toInt)) * 3))) ∧ I (p + 14) (Int.toNat ((((z11 * 24) + ((Int32.ofInt a1 - Int32.ofInt a1 / Int32.ofInt 24 * Int32.ofInt 24).toInt)) * 3))) ≤ 16777215 from gc_inm (c := 0) hI (gz_sh R_p_14) rfl rfl (by (/-42-/first | omega | (simp only [gz_hd] at *; omega))) rfl rfl))
  refine gv_iald hD rfl S_p_14 rfl ⟨by decide, (gz_sh B_p_14)⟩ ⟨by (/-43-/first | (have o1 := gz_sh f12; have o2 := gz_sh q11; omega) | (simp only [gz_hd] at *; omega)), by (/-44-/first | (have o1 := gz_sh f12; have o2 := gz_sh q11; omega) | (simp only [gz_hd] at *; omega))⟩ (gc_iI S_p_14 rfl) ?_
  show gv_X _ _ (25, [(2, .inl ((Int32.ofInt a1 / Int32.ofInt 24).toInt)), (0, .inr (.inr (some p))), (1, .inl a1)], [.inl (I (p + 14) (Int.toNat ((((z11 * 24) + ((Int32.ofInt a1 - Int32.ofInt a1 / Int32.ofInt 24 * Int32.ofInt 24).toInt)) * 3))))], sh, gc_h sh I J A)
  refine gv_run 2 true hD (pcₚ := 27) (lvₚ := [(3, .inl (I (p + 14) (Int.toNat ((((z11 * 24) + ((Int32.ofInt a1 - Int32.ofInt a1 / Int32.ofInt 24 * Int32.ofInt 24).toInt)) * 3))))), (2, .inl ((Int32.ofInt a1 / Int32.ofInt 24).toInt)), (0, .inr (.inr (some p))), (1, .inl a1)]) (stₚ := [.inr (.inr (some p))]) (hₚ := gc_h sh I J A) (C := ((True ∧ True) ∧ True)) rfl ⟨⟨trivial, trivial⟩, trivial⟩ ?_
  refine gv_get hD rfl rfl S_p ⟨by decide, (gz_sh B_p)⟩ (gc_hA S_p rfl A_p_12) ?_
  show gv_X _ _ (30, [(3, .inl (I (p + 14) (Int.toNat ((((z11 * 24) + ((Int32.ofInt a1 - Int32.ofInt a1 / Int32.ofInt 24 * Int32.ofInt 24).toInt)) * 3))))), (2, .inl ((Int32.ofInt a1 / Int32.ofInt 24).toInt)), (0, .inr (.inr (some p))), (1, .inl a1)], [.inr (.inr (some (p + 15)))], sh, gc_h sh I J A)
  refine gv_run 5 true hD (pcₚ := 36) (lvₚ := [(3, .inl (I (p + 14) (Int.toNat ((((z11 * 24) + ((Int32.ofInt a1 - Int32.ofInt a1 / Int32.ofInt 24 * Int32.ofInt 24).toInt)) * 3))))), (2, .inl ((Int32.ofInt a1 / Int32.ofInt 24).toInt)), (0, .inr (.inr (some p))), (1, .inl a1)]) (stₚ := [.inl ((((Int32.ofInt a1 / Int32.ofInt 24).toInt) * 11) + 2), .inr (.inr (some (p + 15)))]) (hₚ := gc_h sh I J A) (C := (((((True ∧ True) ∧ True) ∧ True) ∧ True) ∧ True)) rfl ⟨⟨⟨⟨⟨trivial, trivial⟩, trivial⟩, trivial⟩, trivial⟩, trivial⟩ ?_
  have f14 := gz_hi ((show 0 ≤ I (p + 15) (Int.toNat (((((Int32.ofInt a1 / Int32.ofInt 24).toInt) * 11) + 2))) ∧ I (p + 15) (Int.toNat (((((Int32.ofInt a1 / Int32.ofInt 24).toInt) * 11) + 2))) ≤ 16777215 from gc_inm (c := 2) hI (gz_sh R_p_15) rfl rfl (by (/-45-/first | (have o1 := gz_sh f10; have o2 := gz_sh f12; omega) | (simp only [gz_hd] at *; omega))) rfl rfl))
  refine gv_iald hD rfl S_p_15 rfl ⟨by decide, (gz_sh B_p_15)⟩ ⟨by (/-46-/first | (have o1 := gz_sh f10; have o2 := gz_sh f12; omega) | (simp only [gz_hd] at *; omega)), by (/-47-/first | (have o1 := gz_sh f10; have o2 := gz_sh f12; omega) | (simp only [gz_hd] at *; omega))⟩ (gc_iI S_p_15 rfl) ?_
  show gv_X _ _ (37, [(3, .inl (I (p + 14) (Int.toNat ((((z11 * 24) + ((Int32.ofInt a1 - Int32.ofInt a1 / Int32.ofInt 24 * Int32.ofInt 24).toInt)) * 3))))), (2, .inl ((Int32.ofInt a1 / Int32.ofInt 24).toInt)), (0, .inr (.inr (some p))), (1, .inl a1)], [.inl (I (p + 15) (Int.toNat (((((Int32.ofInt a1 / Int32.ofInt 24).toInt) * 11) + 2))))], sh, gc_h sh I J A)
  refine gv_run 3 true hD (pcₚ := 42) (lvₚ := [(5, .inl 0), (4, .inl (I (p + 15) (Int.toNat (((((Int32.ofInt a1 / Int32.ofInt 24).toInt) * 11) + 2))))), (3, .inl (I (p + 14) (Int.toNat ((((z11 * 24) + ((Int32.ofInt a1 - Int32.ofInt a1 / Int32.ofInt 24 * Int32.ofInt 24).toInt)) * 3))))), (2, .inl ((Int32.ofInt a1 / Int32.ofInt 24).toInt)), (0, .inr (.inr (some p))), (1, .inl a1)]) (stₚ := []) (hₚ := gc_h sh I J A) (C := (((True ∧ True) ∧ True) ∧ True)) rfl ⟨⟨⟨trivial, trivial⟩, trivial⟩, trivial⟩ ?_
  refine gv_pick [2, 1, 0] rfl ?_
  exact L42 _ ((I (p + 14) (Int.toNat ((((z11 * 24) + ((Int32.ofInt a1 - Int32.ofInt a1 / Int32.ofInt 24 * Int32.ofInt 24).toInt)) * 3))))) ((I (p + 15) (Int.toNat (((((Int32.ofInt a1 / Int32.ofInt 24).toInt) * 11) + 2))))) 0 (Nat.lt_succ_self _) (by (/-48-/first | (and_intros; (have o1 := gz_sh f13; omega); (have o1 := gz_sh f13; omega); (have o1 := gz_sh f14; omega); (have o1 := gz_sh f14; omega); (omega); (omega)) | (simp only [gz_hd] at *; omega)))
