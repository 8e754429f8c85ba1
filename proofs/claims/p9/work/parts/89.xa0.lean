/-! A tongue by its number, names by their kind: methods that answer an object. -/
theorem d_X12_tongueAt {ws0 : List Cond} {tb : String → gz_T} (hws : gc_Ws ws0) (htb : gc_tbs tb) {sh : gz_Sh} {ro : Nat → Nat} {I : gr_I} {J : gr_J} {A : gc_A} (hI : gc_Inv ro I) (hb : gc_Base sh ro A) {a1 : Int} {t : Nat} (h0 : 0 ≤ a1) (h1 : a1 < I 8 1) (ht : A 10 (Int.toNat a1) = some t) : gz_Ev ws0 tb 1 (yX12_tongueAt, cX12_tongueAt, 2, (some (.object "TongueHouse$Tongue"))) [.inr (.inr (some 0)), .inl a1] sh (gc_h sh I J A) (some (.inr (.inr (some t)))) sh (gc_h sh I J A) 0 0 := by
  have hD : gv_D (gc_E12 ws0 tb 0 (yX12_tongueAt, cX12_tongueAt, 2, (some (.object "TongueHouse$Tongue"))) kX12_tongueAt) := gq_of oX12_tongueAt
  have S0 : sh[0]? = some (false, 12, 17) := gc_bS_0 hb
  have S1 : sh[1]? = some (false, 8, 21) := gc_bS_1 hb
  have S8 : sh[8]? = some (false, 4, 2) := gc_bS_8 hb
  have S10 : sh[10]? = some (true, 5, 8) := gc_bS_10 hb
  have A00 : A 0 0 = some 1 := gc_bA_0_0 hb
  have A13 : A 1 3 = some 8 := gc_bA_1_3 hb
  have A14 : A 1 4 = some 10 := gc_bA_1_4 hb
  have i8 : 0 ≤ I 8 1 ∧ I 8 1 ≤ 8 := gc_in hI (gc_bR hb (by decide) rfl) rfl rfl
  have hX : gv_X (gc_E12 ws0 tb 0 (yX12_tongueAt, cX12_tongueAt, 2, (some (.object "TongueHouse$Tongue"))) kX12_tongueAt) (gv_Q cX12_tongueAt (some (.object "TongueHouse$Tongue")) sh (fun r hₚ => r = some (.inr (.inr (some t))) ∧ hₚ = gc_h sh I J A)) (0, [(0, .inr (.inr (some 0))), (1, .inl a1)], [], sh, gc_h sh I J A) := by
    refine gv_run 1 true hD (pcₚ := 1) (lvₚ := [(0, .inr (.inr (some 0))), (1, .inl a1)]) (stₚ := [.inl a1]) (hₚ := gc_h sh I J A) (C := (True ∧ True)) rfl ⟨trivial, trivial⟩ ?_
    refine gv_if_lt (t := 30) hD rfl rfl ⟨by omega, by omega⟩ (fun c => ?_) (fun c => ?_)
    · exfalso; omega
    refine gv_run 2 true hD (pcₚ := 6) (lvₚ := [(0, .inr (.inr (some 0))), (1, .inl a1)]) (stₚ := [.inr (.inr (some 0)), .inl a1]) (hₚ := gc_h sh I J A) (C := ((True ∧ True) ∧ True)) rfl ⟨⟨trivial, trivial⟩, trivial⟩ ?_
    refine gv_get hD rfl rfl S0 ⟨by decide, by decide⟩ (gc_hA S0 rfl A00) ?_
    refine gv_get hD rfl rfl S1 ⟨by decide, by decide⟩ (gc_hA S1 rfl A13) ?_
    refine gv_get hD rfl rfl S8 ⟨by decide, by decide⟩ (gc_hI S8 rfl) ?_
    refine gv_icmp_ge (t := 30) hD rfl rfl ⟨⟨by omega, by omega⟩, ⟨by omega, by omega⟩⟩ (fun c => ?_) (fun c => ?_)
    · exfalso; omega
    refine gv_run 1 true hD (pcₚ := 19) (lvₚ := [(0, .inr (.inr (some 0))), (1, .inl a1)]) (stₚ := [.inr (.inr (some 0))]) (hₚ := gc_h sh I J A) (C := (True ∧ True)) rfl ⟨trivial, trivial⟩ ?_
    refine gv_get hD rfl rfl S0 ⟨by decide, by decide⟩ (gc_hA S0 rfl A00) ?_
    refine gv_get hD rfl rfl S1 ⟨by decide, by decide⟩ (gc_hA S1 rfl A14) ?_
    refine gv_run 1 true hD (pcₚ := 26) (lvₚ := [(0, .inr (.inr (some 0))), (1, .inl a1)]) (stₚ := [.inl a1, .inr (.inr (some 10))]) (hₚ := gc_h sh I J A) (C := (True ∧ True)) rfl ⟨trivial, trivial⟩ ?_
    refine gv_aald hD rfl S10 ⟨by decide, by decide⟩ ⟨by decide, by decide⟩ ⟨by omega, by omega⟩ ((gc_aA S10 rfl).trans ht) ?_
    refine gv_run 2 true hD (pcₚ := 42) (lvₚ := [(0, .inr (.inr (some 0))), (1, .inl a1)]) (stₚ := [.inr (.inr (some 0))]) (hₚ := gc_h sh I J A) (C := ((True ∧ True) ∧ True)) rfl ⟨⟨trivial, trivial⟩, trivial⟩ ?_
    refine gv_get hD rfl rfl S0 ⟨by decide, by decide⟩ (gc_hA S0 rfl A00) ?_
    refine gv_get hD rfl rfl S1 ⟨by decide, by decide⟩ (gc_hA S1 rfl A14) ?_
    refine gv_run 1 true hD (pcₚ := 49) (lvₚ := [(0, .inr (.inr (some 0))), (1, .inl a1)]) (stₚ := [.inl a1, .inr (.inr (some 10))]) (hₚ := gc_h sh I J A) (C := (True ∧ True)) rfl ⟨trivial, trivial⟩ ?_
    refine gv_aald hD rfl S10 ⟨by decide, by decide⟩ ⟨by decide, by decide⟩ ⟨by omega, by omega⟩ ((gc_aA S10 rfl).trans ht) ?_
    exact gv_aret hD rfl (Or.inl ⟨_, rfl⟩) ⟨rfl, rfl⟩
  obtain ⟨r, hₚ, E9, rfl, rfl⟩ := gc_ev12 (d := 0) (M := (yX12_tongueAt, cX12_tongueAt, 2, (some (.object "TongueHouse$Tongue")))) (av := [.inr (.inr (some 0)), .inl a1]) (l := kX12_tongueAt) (Po := fun r hₚ => r = some (.inr (.inr (some t))) ∧ hₚ = gc_h sh I J A) htb rfl (Nat.le_of_ble_eq_true rfl) hX
  exact E9
theorem d_X11_namesOf_3 {ws0 : List Cond} {tb : String → gz_T} (htb : gc_tbs tb) {sh : gz_Sh} {ro : Nat → Nat} {I : gr_I} {J : gr_J} {A : gc_A} {t : Nat} (h_t : gc_isTongue sh ro A t) : gz_Ev ws0 tb 1 (yX11_namesOf, cX11_namesOf, 2, (some (.object "TongueHouse$Names"))) [.inr (.inr (some t)), .inl 3] sh (gc_h sh I J A) (some (.inr (.inr (some (t + 1))))) sh (gc_h sh I J A) 0 0 := by
  have hD : gv_D (gc_E11 ws0 tb 0 (yX11_namesOf, cX11_namesOf, 2, (some (.object "TongueHouse$Names"))) kX11_namesOf) := gq_of oX11_namesOf
  obtain ⟨b0, b1, b2, b3, b4, b5, b6, b7, b8, b9, b10, b11, b12, b13, b14, b15, b16, b17, b18, b19, b20, b21, b22, b23, b24, b25, b26, b27, b28, b29, b30, b31, b32, b33, b34, b35, b36, b37, b38, b39, b40, b41, b42, b43, b44⟩ := h_t
  have hX : gv_X (gc_E11 ws0 tb 0 (yX11_namesOf, cX11_namesOf, 2, (some (.object "TongueHouse$Names"))) kX11_namesOf) (gv_Q cX11_namesOf (some (.object "TongueHouse$Names")) sh (fun r hₚ => r = some (.inr (.inr (some (t + 1)))) ∧ hₚ = gc_h sh I J A)) (0, [(0, .inr (.inr (some t))), (1, .inl 3)], [], sh, gc_h sh I J A) := by
    refine gv_run 1 true hD (pcₚ := 1) (lvₚ := [(0, .inr (.inr (some t))), (1, .inl 3)]) (stₚ := [.inl 3]) (hₚ := gc_h sh I J A) (C := (True ∧ True)) rfl ⟨trivial, trivial⟩ ?_
    refine gv_look hD rfl ⟨by omega, by omega⟩ (by decide) 27 (by decide) (t := 28) rfl ?_
    refine gv_run 1 true hD (pcₚ := 29) (lvₚ := [(0, .inr (.inr (some t))), (1, .inl 3)]) (stₚ := [.inr (.inr (some t))]) (hₚ := gc_h sh I J A) (C := (True ∧ True)) rfl ⟨trivial, trivial⟩ ?_
    refine gv_get hD rfl rfl b0 ⟨by decide, b2⟩ (gc_hA b0 rfl b3) ?_
    exact gv_aret hD rfl (Or.inl ⟨_, rfl⟩) ⟨rfl, rfl⟩
  obtain ⟨r, hₚ, E9, rfl, rfl⟩ := gc_ev11 (d := 0) (M := (yX11_namesOf, cX11_namesOf, 2, (some (.object "TongueHouse$Names")))) (av := [.inr (.inr (some t)), .inl 3]) (l := kX11_namesOf) (Po := fun r hₚ => r = some (.inr (.inr (some (t + 1)))) ∧ hₚ = gc_h sh I J A) htb rfl (Nat.le_of_ble_eq_true rfl) hX
  exact E9
theorem d_X11_namesOf_4 {ws0 : List Cond} {tb : String → gz_T} (htb : gc_tbs tb) {sh : gz_Sh} {ro : Nat → Nat} {I : gr_I} {J : gr_J} {A : gc_A} {t : Nat} (h_t : gc_isTongue sh ro A t) : gz_Ev ws0 tb 1 (yX11_namesOf, cX11_namesOf, 2, (some (.object "TongueHouse$Names"))) [.inr (.inr (some t)), .inl 4] sh (gc_h sh I J A) (some (.inr (.inr (some (t + 3))))) sh (gc_h sh I J A) 0 0 := by
  have hD : gv_D (gc_E11 ws0 tb 0 (yX11_namesOf, cX11_namesOf, 2, (some (.object "TongueHouse$Names"))) kX11_namesOf) := gq_of oX11_namesOf
  obtain ⟨b0, b1, b2, b3, b4, b5, b6, b7, b8, b9, b10, b11, b12, b13, b14, b15, b16, b17, b18, b19, b20, b21, b22, b23, b24, b25, b26, b27, b28, b29, b30, b31, b32, b33, b34, b35, b36, b37, b38, b39, b40, b41, b42, b43, b44⟩ := h_t
  have hX : gv_X (gc_E11 ws0 tb 0 (yX11_namesOf, cX11_namesOf, 2, (some (.object "TongueHouse$Names"))) kX11_namesOf) (gv_Q cX11_namesOf (some (.object "TongueHouse$Names")) sh (fun r hₚ => r = some (.inr (.inr (some (t + 3)))) ∧ hₚ = gc_h sh I J A)) (0, [(0, .inr (.inr (some t))), (1, .inl 4)], [], sh, gc_h sh I J A) := by
    refine gv_run 1 true hD (pcₚ := 1) (lvₚ := [(0, .inr (.inr (some t))), (1, .inl 4)]) (stₚ := [.inl 4]) (hₚ := gc_h sh I J A) (C := (True ∧ True)) rfl ⟨trivial, trivial⟩ ?_
    refine gv_look hD rfl ⟨by omega, by omega⟩ (by decide) 32 (by decide) (t := 33) rfl ?_
    refine gv_run 1 true hD (pcₚ := 34) (lvₚ := [(0, .inr (.inr (some t))), (1, .inl 4)]) (stₚ := [.inr (.inr (some t))]) (hₚ := gc_h sh I J A) (C := (True ∧ True)) rfl ⟨trivial, trivial⟩ ?_
    refine gv_get hD rfl rfl b0 ⟨by decide, b2⟩ (gc_hA b0 rfl b5) ?_
    exact gv_aret hD rfl (Or.inl ⟨_, rfl⟩) ⟨rfl, rfl⟩
  obtain ⟨r, hₚ, E9, rfl, rfl⟩ := gc_ev11 (d := 0) (M := (yX11_namesOf, cX11_namesOf, 2, (some (.object "TongueHouse$Names")))) (av := [.inr (.inr (some t)), .inl 4]) (l := kX11_namesOf) (Po := fun r hₚ => r = some (.inr (.inr (some (t + 3)))) ∧ hₚ = gc_h sh I J A) htb rfl (Nat.le_of_ble_eq_true rfl) hX
  exact E9
theorem d_X11_namesOf_5 {ws0 : List Cond} {tb : String → gz_T} (htb : gc_tbs tb) {sh : gz_Sh} {ro : Nat → Nat} {I : gr_I} {J : gr_J} {A : gc_A} {t : Nat} (h_t : gc_isTongue sh ro A t) : gz_Ev ws0 tb 1 (yX11_namesOf, cX11_namesOf, 2, (some (.object "TongueHouse$Names"))) [.inr (.inr (some t)), .inl 5] sh (gc_h sh I J A) (some (.inr (.inr (some (t + 11))))) sh (gc_h sh I J A) 0 0 := by
  have hD : gv_D (gc_E11 ws0 tb 0 (yX11_namesOf, cX11_namesOf, 2, (some (.object "TongueHouse$Names"))) kX11_namesOf) := gq_of oX11_namesOf
  obtain ⟨b0, b1, b2, b3, b4, b5, b6, b7, b8, b9, b10, b11, b12, b13, b14, b15, b16, b17, b18, b19, b20, b21, b22, b23, b24, b25, b26, b27, b28, b29, b30, b31, b32, b33, b34, b35, b36, b37, b38, b39, b40, b41, b42, b43, b44⟩ := h_t
  have hX : gv_X (gc_E11 ws0 tb 0 (yX11_namesOf, cX11_namesOf, 2, (some (.object "TongueHouse$Names"))) kX11_namesOf) (gv_Q cX11_namesOf (some (.object "TongueHouse$Names")) sh (fun r hₚ => r = some (.inr (.inr (some (t + 11)))) ∧ hₚ = gc_h sh I J A)) (0, [(0, .inr (.inr (some t))), (1, .inl 5)], [], sh, gc_h sh I J A) := by
    refine gv_run 1 true hD (pcₚ := 1) (lvₚ := [(0, .inr (.inr (some t))), (1, .inl 5)]) (stₚ := [.inl 5]) (hₚ := gc_h sh I J A) (C := (True ∧ True)) rfl ⟨trivial, trivial⟩ ?_
    refine gv_look hD rfl ⟨by omega, by omega⟩ (by decide) 37 (by decide) (t := 38) rfl ?_
    refine gv_run 1 true hD (pcₚ := 39) (lvₚ := [(0, .inr (.inr (some t))), (1, .inl 5)]) (stₚ := [.inr (.inr (some t))]) (hₚ := gc_h sh I J A) (C := (True ∧ True)) rfl ⟨trivial, trivial⟩ ?_
    refine gv_get hD rfl rfl b0 ⟨by decide, b2⟩ (gc_hA b0 rfl b25) ?_
    exact gv_aret hD rfl (Or.inl ⟨_, rfl⟩) ⟨rfl, rfl⟩
  obtain ⟨r, hₚ, E9, rfl, rfl⟩ := gc_ev11 (d := 0) (M := (yX11_namesOf, cX11_namesOf, 2, (some (.object "TongueHouse$Names")))) (av := [.inr (.inr (some t)), .inl 5]) (l := kX11_namesOf) (Po := fun r hₚ => r = some (.inr (.inr (some (t + 11)))) ∧ hₚ = gc_h sh I J A) htb rfl (Nat.le_of_ble_eq_true rfl) hX
  exact E9
