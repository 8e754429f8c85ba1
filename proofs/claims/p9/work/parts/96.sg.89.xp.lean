set_option maxHeartbeats 8000000 in
set_option maxRecDepth 100000 in
theorem d_X12_bar_c {ws0 : List Cond} {tb : String → gz_T} (hws : gc_Ws ws0) (htb : gc_tbs tb) (sh : gz_Sh) (ro : Nat → Nat) (I : gr_I) (J : gr_J) (A : gc_A) (hI : gc_Inv ro I) (a1 : Int) (a2 : Int) (hb : gc_Base sh ro A) (ha1 : 0 ≤ a1 ∧ a1 ≤ 95) (ha2 : 0 ≤ a2 ∧ a2 ≤ 1) (x0 : I 61 3 = 0) (x1 : I 61 15 = 0) (x2 : a1 < I 4 1) : ∃ r hₚ, gz_Ev ws0 tb 4 (yX12_bar, cX12_bar, 3, (some .long)) [.inr (.inr (some 0)), .inl a1, .inl a2] sh (gc_h sh I J A) r sh hₚ 0 0 ∧ (∃ (Iₚ : gr_I) (Jₚ : gr_J), hₚ = gc_h sh Iₚ Jₚ A ∧ gc_Inv ro Iₚ ∧ (∀ q j : Nat, ((q = 61 ∧ j = 4) ∨ q = 62) ∨ Iₚ q j = I q j) ∧ (∀ q j : Nat, (False) ∨ Jₚ q j = J q j) ∧ (∃ z : Int64, r = some (.inr (.inl z)))) := by
  have FI : ∀ q j : Nat, ((q = 61 ∧ j = 4) ∨ q = 62) ∨ I q j = I q j := fun _ _ => Or.inr rfl
  have FJ : ∀ q j : Nat, (False) ∨ J q j = J q j := fun _ _ => Or.inr rfl
  have A_0_0 : A 0 0 = some 1 := gc_bA_0_0 hb
  have A_0_7 : A 0 7 = some 61 := gc_bA_0_7 hb
  have A_1_1 : A 1 1 = some 4 := gc_bA_1_1 hb
  have B_0 := gz_hi (show 0 < 1000000 from by decide)
  have B_1 := gz_hi (show 1 < 1000000 from by decide)
  have B_4 := gz_hi (show 4 < 1000000 from by decide)
  have B_61 := gz_hi (show 61 < 1000000 from by decide)
  have R_4 := gz_hi (show ro 4 = 11 from gc_bR_4 hb)
  have R_61 := gz_hi (show ro 61 = 72 from gc_bR_61 hb)
  have S_0 : sh[0]? = some (false, 12, 17) := gc_bS_0 hb
  have S_1 : sh[1]? = some (false, 8, 21) := gc_bS_1 hb
  have S_4 : sh[4]? = some (false, 4, 2) := gc_bS_4 hb
  have S_61 : sh[61]? = some (false, 5, 19) := gc_bS_61 hb
  have hD : gv_D (gc_E12 ws0 tb 3 (yX12_bar, cX12_bar, 3, (some .long)) kX12_bar) := gq_of oX12_bar
  refine gc_ev12 (d := 3) (l := kX12_bar) (Po := fun r hₚ => (∃ (Iₚ : gr_I) (Jₚ : gr_J), hₚ = gc_h sh Iₚ Jₚ A ∧ gc_Inv ro Iₚ ∧ (∀ q j : Nat, ((q = 61 ∧ j = 4) ∨ q = 62) ∨ Iₚ q j = I q j) ∧ (∀ q j : Nat, (False) ∨ Jₚ q j = J q j) ∧ (∃ z : Int64, r = some (.inr (.inl z))))) htb rfl (Nat.le_of_ble_eq_true rfl) ?_
  refine gv_run 1 true hD (pcₚ := 1) (lvₚ := [(0, .inr (.inr (some 0))), (1, .inl a1), (2, .inl a2)]) (stₚ := [.inl a1]) (hₚ := gc_h sh I J A) (C := (True ∧ True)) rfl ⟨trivial, trivial⟩ ?_
  refine gv_if_lt (t := 18) hD rfl rfl ⟨by (/-0-/first | omega | (simp only [gz_hd] at *; omega)), by (/-1-/first | omega | (simp only [gz_hd] at *; omega))⟩ (fun c3 => ?_) (fun c3 => ?_)
  · exfalso; (/-2-/first | omega | (simp only [gz_hd] at *; omega))
  · show gv_X _ _ (4, [(0, .inr (.inr (some 0))), (1, .inl a1), (2, .inl a2)], [], sh, gc_h sh I J A)
    refine gv_run 2 true hD (pcₚ := 6) (lvₚ := [(0, .inr (.inr (some 0))), (1, .inl a1), (2, .inl a2)]) (stₚ := [.inr (.inr (some 0)), .inl a1]) (hₚ := gc_h sh I J A) (C := ((True ∧ True) ∧ True)) rfl ⟨⟨trivial, trivial⟩, trivial⟩ ?_
    refine gv_get hD rfl rfl S_0 ⟨by decide, (gz_sh B_0)⟩ (gc_hA S_0 rfl A_0_0) ?_
    show gv_X _ _ (9, [(0, .inr (.inr (some 0))), (1, .inl a1), (2, .inl a2)], [.inr (.inr (some 1)), .inl a1], sh, gc_h sh I J A)
    refine gv_get hD rfl rfl S_1 ⟨by decide, (gz_sh B_1)⟩ (gc_hA S_1 rfl A_1_1) ?_
    show gv_X _ _ (12, [(0, .inr (.inr (some 0))), (1, .inl a1), (2, .inl a2)], [.inr (.inr (some 4)), .inl a1], sh, gc_h sh I J A)
    have f4 := gz_hi ((gc_b_11_1 hI (gz_sh R_4)))
    refine gv_get hD rfl rfl S_4 ⟨by decide, (gz_sh B_4)⟩ (gc_hI S_4 rfl) ?_
    show gv_X _ _ (15, [(0, .inr (.inr (some 0))), (1, .inl a1), (2, .inl a2)], [.inl (I 4 1), .inl a1], sh, gc_h sh I J A)
    refine gv_icmp_lt (t := 28) hD rfl rfl ⟨⟨by (/-3-/first | omega | (simp only [gz_hd] at *; omega)), by (/-4-/first | omega | (simp only [gz_hd] at *; omega))⟩, ⟨by (/-5-/first | (have o1 := gz_sh f4; omega) | (simp only [gz_hd] at *; omega)), by (/-6-/first | (have o1 := gz_sh f4; omega) | (simp only [gz_hd] at *; omega))⟩⟩ (fun c5 => ?_) (fun c5 => ?_)
    · show gv_X _ _ (28, [(0, .inr (.inr (some 0))), (1, .inl a1), (2, .inl a2)], [], sh, gc_h sh I J A)
      refine gv_run 1 true hD (pcₚ := 29) (lvₚ := [(0, .inr (.inr (some 0))), (1, .inl a1), (2, .inl a2)]) (stₚ := [.inr (.inr (some 0))]) (hₚ := gc_h sh I J A) (C := (True ∧ True)) rfl ⟨trivial, trivial⟩ ?_
      refine gv_get hD rfl rfl S_0 ⟨by decide, (gz_sh B_0)⟩ (gc_hA S_0 rfl A_0_7) ?_
      show gv_X _ _ (32, [(0, .inr (.inr (some 0))), (1, .inl a1), (2, .inl a2)], [.inr (.inr (some 61))], sh, gc_h sh I J A)
      refine gv_run 2 true hD (pcₚ := 34) (lvₚ := [(0, .inr (.inr (some 0))), (1, .inl a1), (2, .inl a2)]) (stₚ := [.inl a2, .inl a1, .inr (.inr (some 61))]) (hₚ := gc_h sh I J A) (C := ((True ∧ True) ∧ True)) rfl ⟨⟨trivial, trivial⟩, trivial⟩ ?_
      obtain ⟨r6, h6, E6, P6⟩ := d_X5_setBarred_z (ws0 := ws0) (tb := tb) hws htb sh ro I J A hI  a1 a2 hb   ⟨by (/-7-/first | omega | (simp only [gz_hd] at *; omega)), by (/-8-/first | omega | (simp only [gz_hd] at *; omega))⟩ ⟨by (/-9-/first | omega | (simp only [gz_hd] at *; omega)), by (/-10-/first | omega | (simp only [gz_hd] at *; omega))⟩  
      obtain ⟨I7, J8, rfl, hI7, g6, k6, ⟨rfl, q6⟩⟩ := P6
      replace q6 := gz_hi q6
      have FI7 := gc_frc (W := fun q j => (q = 61 ∧ j = 4) ∨ q = 62) (V := fun q j => (q = 61 ∧ j = 4) ∨ q = 62) FI (fun q j h => (h.elim (fun h => (Or.inl h)) (fun h => (Or.inr h)))) g6
      have t9 := gz_hi ((g6 61 3).resolve_left (fun h => h.elim (fun h => absurd h.2 (by first | exact gz_ne rfl | decide)) (fun h => absurd h (by first | exact gz_ne rfl | decide))))
      obtain rfl : J = J8 := funext fun q => funext fun j => ((k6 q j).resolve_left id).symm
      refine gv_callV hD rfl (As := [.inl a1, .inl a2]) (st := []) rfl (gz_sh B_61) S_61 rfl (gc_lV12 hws rfl) (Nat.le_of_ble_eq_true rfl) (gz_Ev_mono (d := 1) (by decide) E6) ?_
      show gv_X _ _ (37, [(0, .inr (.inr (some 0))), (1, .inl a1), (2, .inl a2)], [], sh, gc_h sh I7 J A)
      refine gv_run 1 true hD (pcₚ := 38) (lvₚ := [(0, .inr (.inr (some 0))), (1, .inl a1), (2, .inl a2)]) (stₚ := [.inr (.inr (some 0))]) (hₚ := gc_h sh I7 J A) (C := (True ∧ True)) rfl ⟨trivial, trivial⟩ ?_
      refine gv_get hD rfl rfl S_0 ⟨by decide, (gz_sh B_0)⟩ (gc_hA S_0 rfl A_0_7) ?_
      show gv_X _ _ (41, [(0, .inr (.inr (some 0))), (1, .inl a1), (2, .inl a2)], [.inr (.inr (some 61))], sh, gc_h sh I7 J A)
      obtain ⟨r11, h11, E11, P11⟩ := d_X5_total_c (ws0 := ws0) (tb := tb) hws htb sh ro I7 J A hI7   hb    (by (/-11-/first | (have o1 := gz_sh t9; omega) | (simp only [gz_hd] at *; omega))) 
      obtain ⟨rfl, ⟨z11, rfl⟩⟩ := P11
      refine gv_callV hD rfl (As := []) (st := []) rfl (gz_sh B_61) S_61 rfl (gc_lV12 hws rfl) (Nat.le_of_ble_eq_true rfl) (gz_Ev_mono (d := 3) (by decide) E11) ?_
      show gv_X _ _ (44, [(0, .inr (.inr (some 0))), (1, .inl a1), (2, .inl a2)], [.inr (.inl z11)], sh, gc_h sh I7 J A)
      exact gv_lret hD rfl ⟨I7, J, rfl, hI7, FI7, FJ, ⟨_, rfl⟩⟩
    · show gv_X _ _ (18, [(0, .inr (.inr (some 0))), (1, .inl a1), (2, .inl a2)], [], sh, gc_h sh I J A)
      exfalso; (/-12-/first | omega | (simp only [gz_hd] at *; omega))
set_option maxHeartbeats 8000000 in
set_option maxRecDepth 100000 in
theorem d_X12_reading_c {ws0 : List Cond} {tb : String → gz_T} (hws : gc_Ws ws0) (htb : gc_tbs tb) (sh : gz_Sh) (ro : Nat → Nat) (I : gr_I) (J : gr_J) (A : gc_A) (hI : gc_Inv ro I) (a1 : Int) (a2 : Int) (hb : gc_Base sh ro A) (ha1 : (-2147483648) ≤ a1 ∧ a1 ≤ 2147483647) (ha2 : 0 ≤ a2 ∧ a2 ≤ 7) (x0 : I 61 3 = 0) (x1 : I 61 15 = 0) : ∃ r hₚ, gz_Ev ws0 tb 10 (yX12_reading, cX12_reading, 4, (some .int)) [.inr (.inr (some 0)), .inl a1, .inl a2] sh (gc_h sh I J A) r sh hₚ 0 0 ∧ (∃ (Iₚ : gr_I) (Jₚ : gr_J), hₚ = gc_h sh Iₚ Jₚ A ∧ gc_Inv ro Iₚ ∧ (∀ q j : Nat, (False) ∨ Iₚ q j = I q j) ∧ (∀ q j : Nat, (False) ∨ Jₚ q j = J q j) ∧ (∃ z : Int, r = some (.inl z) ∧ (-1) ≤ z ∧ z ≤ (-1) ∧ (z = -1))) := by
  have FI : ∀ q j : Nat, (False) ∨ I q j = I q j := fun _ _ => Or.inr rfl
  have FJ : ∀ q j : Nat, (False) ∨ J q j = J q j := fun _ _ => Or.inr rfl
  have A_0_11 : A 0 11 = some 114 := gc_bA_0_11 hb
  have A_0_7 : A 0 7 = some 61 := gc_bA_0_7 hb
  have B_0 := gz_hi (show 0 < 1000000 from by decide)
  have B_114 := gz_hi (show 114 < 1000000 from by decide)
  have B_123 := gz_hi (show 123 < 1000000 from by decide)
  have B_61 := gz_hi (show 61 < 1000000 from by decide)
  have R_123 := gz_hi (show ro 123 = 37 from gc_bR_123 hb)
  have S_0 : sh[0]? = some (false, 12, 17) := gc_bS_0 hb
  have S_114 : sh[114]? = some (true, 7, 9) := gc_bS_114 hb
  have S_123 : sh[123]? = some (true, 1, 60) := gc_bS_123 hb
  have S_61 : sh[61]? = some (false, 5, 19) := gc_bS_61 hb
  have hD : gv_D (gc_E12 ws0 tb 9 (yX12_reading, cX12_reading, 4, (some .int)) kX12_reading) := gq_of oX12_reading
  refine gc_ev12 (d := 9) (l := kX12_reading) (Po := fun r hₚ => (∃ (Iₚ : gr_I) (Jₚ : gr_J), hₚ = gc_h sh Iₚ Jₚ A ∧ gc_Inv ro Iₚ ∧ (∀ q j : Nat, (False) ∨ Iₚ q j = I q j) ∧ (∀ q j : Nat, (False) ∨ Jₚ q j = J q j) ∧ (∃ z : Int, r = some (.inl z) ∧ (-1) ≤ z ∧ z ≤ (-1) ∧ (z = -1)))) htb rfl (Nat.le_of_ble_eq_true rfl) ?_
  have L50 : ∀ (I1 : gr_I) (J2 : gr_J) (v3_3 : Int), gc_Inv ro I1 → (∀ q j : Nat, (False) ∨ I1 q j = I q j) → (∀ q j : Nat, (False) ∨ J2 q j = J q j) → (((-1) ≤ v3_3 ∧ v3_3 ≤ (-1))) → gv_X (gc_E12 ws0 tb 9 (yX12_reading, cX12_reading, 4, (some .int)) kX12_reading) (gv_Q cX12_reading (some .int) sh (fun r hₚ => (∃ (Iₚ : gr_I) (Jₚ : gr_J), hₚ = gc_h sh Iₚ Jₚ A ∧ gc_Inv ro Iₚ ∧ (∀ q j : Nat, (False) ∨ Iₚ q j = I q j) ∧ (∀ q j : Nat, (False) ∨ Jₚ q j = J q j) ∧ (∃ z : Int, r = some (.inl z) ∧ (-1) ≤ z ∧ z ≤ (-1) ∧ (z = -1))))) (50, [(3, .inl v3_3)], [], sh, gc_h sh I1 J2 A) := by
    intro I1 J2 v3_3 hI1 FI1 FJ2 m_3
    have hv3_3 := m_3
    refine gv_run 1 true hD (pcₚ := 51) (lvₚ := [(3, .inl v3_3)]) (stₚ := [.inl v3_3]) (hₚ := gc_h sh I1 J2 A) (C := (True ∧ True)) rfl ⟨trivial, trivial⟩ ?_
    exact gv_iret hD rfl ⟨I1, J2, rfl, hI1, FI1, FJ2, ⟨_, rfl, by (/-0-/first | (and_intros <;> omega) | (simp only [gz_hd] at *; omega))⟩⟩
  refine gv_run 1 true hD (pcₚ := 1) (lvₚ := [(0, .inr (.inr (some 0))), (1, .inl a1), (2, .inl a2)]) (stₚ := [.inl a2]) (hₚ := gc_h sh I J A) (C := (True ∧ True)) rfl ⟨trivial, trivial⟩ ?_
  obtain ⟨r4, h4, E4, P4⟩ := d_X12_checkPlace (ws0 := ws0) (tb := tb) hws htb sh ro I J A hI  a2 hb   ⟨by (/-1-/first | omega | (simp only [gz_hd] at *; omega)), by (/-2-/first | omega | (simp only [gz_hd] at *; omega))⟩  
  obtain ⟨rfl, rfl⟩ := P4
  refine gv_callS hD rfl (As := [.inl a2]) (st := []) rfl (gc_lS12 hws rfl) (Nat.le_of_ble_eq_true rfl) (gz_Ev_mono (d := 1) (by decide) E4) ?_
  show gv_X _ _ (4, [(0, .inr (.inr (some 0))), (1, .inl a1), (2, .inl a2)], [], sh, gc_h sh I J A)
  refine gv_run 1 true hD (pcₚ := 5) (lvₚ := [(0, .inr (.inr (some 0))), (1, .inl a1), (2, .inl a2)]) (stₚ := [.inr (.inr (some 0))]) (hₚ := gc_h sh I J A) (C := (True ∧ True)) rfl ⟨trivial, trivial⟩ ?_
  refine gv_get hD rfl rfl S_0 ⟨by decide, (gz_sh B_0)⟩ (gc_hA S_0 rfl A_0_7) ?_
  show gv_X _ _ (8, [(0, .inr (.inr (some 0))), (1, .inl a1), (2, .inl a2)], [.inr (.inr (some 61))], sh, gc_h sh I J A)
  refine gv_run 2 true hD (pcₚ := 10) (lvₚ := [(0, .inr (.inr (some 0))), (1, .inl a1), (2, .inl a2)]) (stₚ := [.inr (.inr (some 0)), .inl a1, .inr (.inr (some 61))]) (hₚ := gc_h sh I J A) (C := ((True ∧ True) ∧ True)) rfl ⟨⟨trivial, trivial⟩, trivial⟩ ?_
  refine gv_get hD rfl rfl S_0 ⟨by decide, (gz_sh B_0)⟩ (gc_hA S_0 rfl A_0_11) ?_
  show gv_X _ _ (13, [(0, .inr (.inr (some 0))), (1, .inl a1), (2, .inl a2)], [.inr (.inr (some 114)), .inl a1, .inr (.inr (some 61))], sh, gc_h sh I J A)
  refine gv_run 1 true hD (pcₚ := 15) (lvₚ := [(0, .inr (.inr (some 0))), (1, .inl a1), (2, .inl a2)]) (stₚ := [.inl 8, .inr (.inr (some 114)), .inl a1, .inr (.inr (some 61))]) (hₚ := gc_h sh I J A) (C := (True ∧ True)) rfl ⟨trivial, trivial⟩ ?_
  refine gv_aald hD rfl S_114 ⟨by decide, by decide⟩ ⟨by decide, (gz_sh B_114)⟩ ⟨by (/-3-/first | omega | (simp only [gz_hd] at *; omega)), by (/-4-/first | omega | (simp only [gz_hd] at *; omega))⟩ ((gc_aA S_114 rfl).trans (show A 114 8 = some 123 from gc_bA hb rfl)) ?_
  show gv_X _ _ (16, [(0, .inr (.inr (some 0))), (1, .inl a1), (2, .inl a2)], [.inr (.inr (some 123)), .inl a1, .inr (.inr (some 61))], sh, gc_h sh I J A)
  obtain ⟨r6, h6, E6, P6⟩ := d_X5_spell_c (ws0 := ws0) (tb := tb) hws htb sh ro I J A hI  60 a1 123 hb S_123 (gz_sh R_123) (gz_sh B_123) (by decide)  ⟨by (/-5-/first | omega | (simp only [gz_hd] at *; omega)), by (/-6-/first | omega | (simp only [gz_hd] at *; omega))⟩ (by (/-7-/first | omega | (simp only [gz_hd] at *; omega))) (by (/-8-/first | omega | (simp only [gz_hd] at *; omega))) 
  obtain ⟨rfl, ⟨z6, rfl, q6⟩⟩ := P6
  replace q6 := gz_hi q6
  refine gv_callV hD rfl (As := [.inl a1, .inr (.inr (some 123))]) (st := []) rfl (gz_sh B_61) S_61 rfl (gc_lV12 hws rfl) (Nat.le_of_ble_eq_true rfl) (gz_Ev_mono (d := 9) (by decide) E6) ?_
  show gv_X _ _ (19, [(0, .inr (.inr (some 0))), (1, .inl a1), (2, .inl a2)], [.inl z6], sh, gc_h sh I J A)
  refine gv_run 2 true hD (pcₚ := 21) (lvₚ := [(3, .inl z6), (0, .inr (.inr (some 0))), (1, .inl a1), (2, .inl a2)]) (stₚ := [.inl z6]) (hₚ := gc_h sh I J A) (C := ((True ∧ True) ∧ True)) rfl ⟨⟨trivial, trivial⟩, trivial⟩ ?_
  refine gv_if_le (t := 50) hD rfl rfl ⟨by (/-9-/first | (have o1 := gz_sh q6; omega) | (simp only [gz_hd] at *; omega)), by (/-10-/first | (have o1 := gz_sh q6; omega) | (simp only [gz_hd] at *; omega))⟩ (fun c7 => ?_) (fun c7 => ?_)
  · show gv_X _ _ (50, [(3, .inl z6), (0, .inr (.inr (some 0))), (1, .inl a1), (2, .inl a2)], [], sh, gc_h sh I J A)
    refine gv_pick [0] rfl ?_
    exact L50 I J z6 hI FI FJ (by (/-11-/first | (and_intros; (have o1 := gz_sh q6; omega); (have o1 := gz_sh q6; omega)) | (simp only [gz_hd] at *; omega)))
  · exfalso; (/-12-/first | (have o1 := gz_sh q6; omega) | (simp only [gz_hd] at *; omega))
