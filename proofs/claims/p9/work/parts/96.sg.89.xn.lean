theorem d_X11_namesOf_3q {ws0 : List Cond} {tb : String → gz_T} (htb : gc_tbs tb) {sh : gz_Sh} {ro : Nat → Nat} {I : gr_I} {J : gr_J} {A : gc_A} {t : Nat} (h_t : gc_isTongue sh ro A t) {a2 : Int} (h9 : a2 = 3) : gz_Ev ws0 tb 1 (yX11_namesOf, cX11_namesOf, 2, (some (.object "TongueHouse$Names"))) [.inr (.inr (some t)), .inl a2] sh (gc_h sh I J A) (some (.inr (.inr (some (t + 1))))) sh (gc_h sh I J A) 0 0 := by
  rw [h9]
  exact d_X11_namesOf_3 htb h_t
theorem d_X11_namesOf_4q {ws0 : List Cond} {tb : String → gz_T} (htb : gc_tbs tb) {sh : gz_Sh} {ro : Nat → Nat} {I : gr_I} {J : gr_J} {A : gc_A} {t : Nat} (h_t : gc_isTongue sh ro A t) {a2 : Int} (h9 : a2 = 4) : gz_Ev ws0 tb 1 (yX11_namesOf, cX11_namesOf, 2, (some (.object "TongueHouse$Names"))) [.inr (.inr (some t)), .inl a2] sh (gc_h sh I J A) (some (.inr (.inr (some (t + 3))))) sh (gc_h sh I J A) 0 0 := by
  rw [h9]
  exact d_X11_namesOf_4 htb h_t
theorem d_X11_namesOf_5q {ws0 : List Cond} {tb : String → gz_T} (htb : gc_tbs tb) {sh : gz_Sh} {ro : Nat → Nat} {I : gr_I} {J : gr_J} {A : gc_A} {t : Nat} (h_t : gc_isTongue sh ro A t) {a2 : Int} (h9 : a2 = 5) : gz_Ev ws0 tb 1 (yX11_namesOf, cX11_namesOf, 2, (some (.object "TongueHouse$Names"))) [.inr (.inr (some t)), .inl a2] sh (gc_h sh I J A) (some (.inr (.inr (some (t + 11))))) sh (gc_h sh I J A) 0 0 := by
  rw [h9]
  exact d_X11_namesOf_5 htb h_t
set_option maxHeartbeats 8000000 in
set_option maxRecDepth 100000 in
theorem d_X12_number_0 {ws0 : List Cond} {tb : String → gz_T} (hws : gc_Ws ws0) (htb : gc_tbs tb) (sh : gz_Sh) (ro : Nat → Nat) (I : gr_I) (J : gr_J) (A : gc_A) (hI : gc_Inv ro I) (a1 : Int) (a2 : Int) (hb : gc_Base sh ro A) (ha1 : (-2147483648) ≤ a1 ∧ a1 ≤ 2147483647) (ha2 : 0 ≤ a2 ∧ a2 ≤ 0)  : ∃ r hₚ, gz_Ev ws0 tb 5 (yX12_number, cX12_number, 6, (some .int)) [.inr (.inr (some 0)), .inl a1, .inl a2] sh (gc_h sh I J A) r sh hₚ 0 0 ∧ (∃ (Iₚ : gr_I) (Jₚ : gr_J), hₚ = gc_h sh Iₚ Jₚ A ∧ gc_Inv ro Iₚ ∧ (∀ q j : Nat, ((q = 23 ∧ j = 1) ∨ (q = 23 ∧ j = 5) ∨ (q = 23 ∧ j = 6) ∨ (q = 23 ∧ j = 7) ∨ (q = 23 ∧ j = 8)) ∨ Iₚ q j = I q j) ∧ (∀ q j : Nat, ((q = 23 ∧ j = 9)) ∨ Jₚ q j = J q j) ∧ (∃ z : Int, r = some (.inl z) ∧ (-1) ≤ z ∧ z ≤ 399 ∧ (Iₚ 23 1 = 0))) := by
  have FI : ∀ q j : Nat, ((q = 23 ∧ j = 1) ∨ (q = 23 ∧ j = 5) ∨ (q = 23 ∧ j = 6) ∨ (q = 23 ∧ j = 7) ∨ (q = 23 ∧ j = 8)) ∨ I q j = I q j := fun _ _ => Or.inr rfl
  have FJ : ∀ q j : Nat, ((q = 23 ∧ j = 9)) ∨ J q j = J q j := fun _ _ => Or.inr rfl
  have A_0_0 : A 0 0 = some 1 := gc_bA_0_0 hb
  have A_0_1 : A 0 1 = some 23 := gc_bA_0_1 hb
  have A_1_0 : A 1 0 = some 2 := gc_bA_1_0 hb
  have A_1_3 : A 1 3 = some 8 := gc_bA_1_3 hb
  have B_0 := gz_hi (show 0 < 1000000 from by decide)
  have B_1 := gz_hi (show 1 < 1000000 from by decide)
  have B_23 := gz_hi (show 23 < 1000000 from by decide)
  have B_8 := gz_hi (show 8 < 1000000 from by decide)
  have R_23 := gz_hi (show ro 23 = 3 from gc_bR_23 hb)
  have S_0 : sh[0]? = some (false, 12, 17) := gc_bS_0 hb
  have S_1 : sh[1]? = some (false, 8, 21) := gc_bS_1 hb
  have S_23 : sh[23]? = some (false, 9, 10) := gc_bS_23 hb
  have S_8 : sh[8]? = some (false, 4, 2) := gc_bS_8 hb
  have hD : gv_D (gc_E12 ws0 tb 4 (yX12_number, cX12_number, 6, (some .int)) kX12_number) := gq_of oX12_number
  refine gc_ev12 (d := 4) (l := kX12_number) (Po := fun r hₚ => (∃ (Iₚ : gr_I) (Jₚ : gr_J), hₚ = gc_h sh Iₚ Jₚ A ∧ gc_Inv ro Iₚ ∧ (∀ q j : Nat, ((q = 23 ∧ j = 1) ∨ (q = 23 ∧ j = 5) ∨ (q = 23 ∧ j = 6) ∨ (q = 23 ∧ j = 7) ∨ (q = 23 ∧ j = 8)) ∨ Iₚ q j = I q j) ∧ (∀ q j : Nat, ((q = 23 ∧ j = 9)) ∨ Jₚ q j = J q j) ∧ (∃ z : Int, r = some (.inl z) ∧ (-1) ≤ z ∧ z ≤ 399 ∧ (Iₚ 23 1 = 0)))) htb rfl (Nat.le_of_ble_eq_true rfl) ?_
  have L77 : gv_X (gc_E12 ws0 tb 4 (yX12_number, cX12_number, 6, (some .int)) kX12_number) (gv_Q cX12_number (some .int) sh (fun r hₚ => (∃ (Iₚ : gr_I) (Jₚ : gr_J), hₚ = gc_h sh Iₚ Jₚ A ∧ gc_Inv ro Iₚ ∧ (∀ q j : Nat, ((q = 23 ∧ j = 1) ∨ (q = 23 ∧ j = 5) ∨ (q = 23 ∧ j = 6) ∨ (q = 23 ∧ j = 7) ∨ (q = 23 ∧ j = 8)) ∨ Iₚ q j = I q j) ∧ (∀ q j : Nat, ((q = 23 ∧ j = 9)) ∨ Jₚ q j = J q j) ∧ (∃ z : Int, r = some (.inl z) ∧ (-1) ≤ z ∧ z ≤ 399 ∧ (Iₚ 23 1 = 0))))) (77, [(0, .inr (.inr (some 0))), (3, .inr (.inr (some 8)))], [], sh, gc_h sh I J A) := by
    have L111 : ∀ (I4 : gr_I) (J5 : gr_J) (s0_6 : Int), gc_Inv ro I4 → (∀ q j : Nat, ((q = 23 ∧ j = 1) ∨ (q = 23 ∧ j = 5) ∨ (q = 23 ∧ j = 6) ∨ (q = 23 ∧ j = 7) ∨ (q = 23 ∧ j = 8)) ∨ I4 q j = I q j) → (∀ q j : Nat, ((q = 23 ∧ j = 9)) ∨ J5 q j = J q j) → (((-1) ≤ s0_6 ∧ s0_6 ≤ 399) ∧ (I4 23 1 = 0)) → gv_X (gc_E12 ws0 tb 4 (yX12_number, cX12_number, 6, (some .int)) kX12_number) (gv_Q cX12_number (some .int) sh (fun r hₚ => (∃ (Iₚ : gr_I) (Jₚ : gr_J), hₚ = gc_h sh Iₚ Jₚ A ∧ gc_Inv ro Iₚ ∧ (∀ q j : Nat, ((q = 23 ∧ j = 1) ∨ (q = 23 ∧ j = 5) ∨ (q = 23 ∧ j = 6) ∨ (q = 23 ∧ j = 7) ∨ (q = 23 ∧ j = 8)) ∨ Iₚ q j = I q j) ∧ (∀ q j : Nat, ((q = 23 ∧ j = 9)) ∨ Jₚ q j = J q j) ∧ (∃ z : Int, r = some (.inl z) ∧ (-1) ≤ z ∧ z ≤ 399 ∧ (Iₚ 23 1 = 0))))) (111, [], [.inl s0_6], sh, gc_h sh I4 J5 A) := by
      intro I4 J5 s0_6 hI4 FI4 FJ5 m_6
      skip
      obtain ⟨hs0_6, e0_6⟩ := gz_h2 m_6
      exact gv_iret hD rfl ⟨I4, J5, rfl, hI4, FI4, FJ5, ⟨_, rfl, by (/-0-/first | (and_intros; (have o1 := gz_sh hs0_6; omega); (have o1 := gz_sh hs0_6; omega); (have o1 := gz_sh e0_6; omega)) | (simp only [gz_hd] at *; omega))⟩⟩
    refine gv_run 1 true hD (pcₚ := 78) (lvₚ := [(0, .inr (.inr (some 0))), (3, .inr (.inr (some 8)))]) (stₚ := [.inr (.inr (some 0))]) (hₚ := gc_h sh I J A) (C := (True ∧ True)) rfl ⟨trivial, trivial⟩ ?_
    refine gv_get hD rfl rfl S_0 ⟨by decide, (gz_sh B_0)⟩ (gc_hA S_0 rfl A_0_1) ?_
    show gv_X _ _ (81, [(0, .inr (.inr (some 0))), (3, .inr (.inr (some 8)))], [.inr (.inr (some 23))], sh, gc_h sh I J A)
    obtain ⟨r8, h8, E8, P8⟩ := d_X9_onlyName (ws0 := ws0) (tb := tb) hws htb sh ro I J A hI 23  (gc_b23 hb)     
    obtain ⟨I9, J10, rfl, hI9, g8, k8, ⟨z8, rfl, V8_0, V8_1, V8_2, V8_3, V8_4, q8⟩⟩ := P8
    replace q8 := gz_hi q8
    have FI9 := gc_frc (W := fun q j => (q = 23 ∧ j = 1) ∨ (q = 23 ∧ j = 5) ∨ (q = 23 ∧ j = 6) ∨ (q = 23 ∧ j = 7) ∨ (q = 23 ∧ j = 8)) (V := fun q j => (q = 23 ∧ j = 5) ∨ (q = 23 ∧ j = 6) ∨ (q = 23 ∧ j = 7) ∨ (q = 23 ∧ j = 8)) FI (fun q j h => (h.elim (fun h => (Or.inr (Or.inl h))) (fun h => (h.elim (fun h => (Or.inr (Or.inr (Or.inl h)))) (fun h => (h.elim (fun h => (Or.inr (Or.inr (Or.inr (Or.inl h))))) (fun h => (Or.inr (Or.inr (Or.inr (Or.inr h))))))))))) g8
    have FJ10 := gc_frc (W := fun q j => (q = 23 ∧ j = 9)) (V := fun q j => (q = 23 ∧ j = 9)) FJ (fun q j h => h) k8
    refine gv_callV hD rfl (As := []) (st := []) rfl (gz_sh B_23) S_23 rfl (gc_lV12 hws rfl) (Nat.le_of_ble_eq_true rfl) (gz_Ev_mono (d := 4) (by decide) E8) ?_
    show gv_X _ _ (84, [(0, .inr (.inr (some 0))), (3, .inr (.inr (some 8)))], [.inr (.inl z8)], sh, gc_h sh I9 J10 A)
    refine gv_run 2 true hD (pcₚ := 87) (lvₚ := [(4, .inr (.inl z8)), (0, .inr (.inr (some 0))), (3, .inr (.inr (some 8)))]) (stₚ := [.inr (.inr (some 0))]) (hₚ := gc_h sh I9 J10 A) (C := ((True ∧ True) ∧ True)) rfl ⟨⟨trivial, trivial⟩, trivial⟩ ?_
    refine gv_get hD rfl rfl S_0 ⟨by decide, (gz_sh B_0)⟩ (gc_hA S_0 rfl A_0_1) ?_
    show gv_X _ _ (90, [(4, .inr (.inl z8)), (0, .inr (.inr (some 0))), (3, .inr (.inr (some 8)))], [.inr (.inr (some 23))], sh, gc_h sh I9 J10 A)
    refine gv_run 1 true hD (pcₚ := 91) (lvₚ := [(4, .inr (.inl z8)), (0, .inr (.inr (some 0))), (3, .inr (.inr (some 8)))]) (stₚ := [.inl 0, .inr (.inr (some 23))]) (hₚ := gc_h sh I9 J10 A) (C := (True ∧ True)) rfl ⟨trivial, trivial⟩ ?_
    refine gv_put hD rfl rfl S_23 ⟨by decide, (gz_sh B_23)⟩ rfl trivial ?_
    refine gc_st (k := 1) hI9 S_23 rfl (gz_sh R_23) (lo := 0) (hi := 1000) rfl rfl (by (/-1-/first | omega | (simp only [gz_hd] at *; omega))) (by (/-2-/first | omega | (simp only [gz_hd] at *; omega))) (fun I12 hI12 q13 p13 => ?_)
    have FI12 := gc_frs (W := fun q j => (q = 23 ∧ j = 1) ∨ (q = 23 ∧ j = 5) ∨ (q = 23 ∧ j = 6) ∨ (q = 23 ∧ j = 7) ∨ (q = 23 ∧ j = 8)) FI9 (Or.inl ⟨rfl, rfl⟩) p13
    show gv_X _ _ (94, [(4, .inr (.inl z8)), (0, .inr (.inr (some 0))), (3, .inr (.inr (some 8)))], [], sh, gc_h sh I12 J10 A)
    have f15 := gz_hi (gw_cmp (z8) ((Int64.ofNat 0)))
    refine gv_run 3 true hD (pcₚ := 98) (lvₚ := [(4, .inr (.inl z8)), (0, .inr (.inr (some 0))), (3, .inr (.inr (some 8)))]) (stₚ := [.inl ((lg_cmp (z8) ((Int64.ofNat 0))).toInt)]) (hₚ := gc_h sh I12 J10 A) (C := (((True ∧ True) ∧ True) ∧ True)) rfl ⟨⟨⟨trivial, trivial⟩, trivial⟩, trivial⟩ ?_
    refine gv_if_ne (t := 105) hD rfl rfl ⟨by (/-3-/first | (have o1 := gz_sh f15; omega) | (simp only [gz_hd] at *; omega)), by (/-4-/first | (have o1 := gz_sh f15; omega) | (simp only [gz_hd] at *; omega))⟩ (fun c16 => ?_) (fun c16 => ?_)
    · show gv_X _ _ (105, [(4, .inr (.inl z8)), (0, .inr (.inr (some 0))), (3, .inr (.inr (some 8)))], [], sh, gc_h sh I12 J10 A)
      refine gv_run 2 true hD (pcₚ := 108) (lvₚ := [(4, .inr (.inl z8)), (0, .inr (.inr (some 0))), (3, .inr (.inr (some 8)))]) (stₚ := [.inr (.inl z8), .inr (.inr (some 8))]) (hₚ := gc_h sh I12 J10 A) (C := ((True ∧ True) ∧ True)) rfl ⟨⟨trivial, trivial⟩, trivial⟩ ?_
      obtain ⟨r17, h17, E17, P17⟩ := d_X4_find (ws0 := ws0) (tb := tb) hws htb sh ro I12 J10 A hI12 8 8 6 z8 (gc_b8 hb)     
      obtain ⟨rfl, ⟨z17, rfl, q17⟩⟩ := P17
      replace q17 := gz_hi q17
      refine gv_callV hD rfl (As := [.inr (.inl z8)]) (st := []) rfl (gz_sh B_8) S_8 rfl (gc_lV12 hws rfl) (Nat.le_of_ble_eq_true rfl) (gz_Ev_mono (d := 1) (by decide) E17) ?_
      show gv_X _ _ (111, [(4, .inr (.inl z8)), (0, .inr (.inr (some 0))), (3, .inr (.inr (some 8)))], [.inl z17], sh, gc_h sh I12 J10 A)
      refine gv_pick [] rfl ?_
      exact L111 I12 J10 z17 hI12 FI12 FJ10 (by (/-5-/first | (and_intros; (have o1 := gz_sh q17; omega); (have o1 := gz_sh q17; omega); (omega)) | (simp only [gz_hd] at *; omega)))
    · show gv_X _ _ (101, [(4, .inr (.inl z8)), (0, .inr (.inr (some 0))), (3, .inr (.inr (some 8)))], [], sh, gc_h sh I12 J10 A)
      refine gv_run 2 true hD (pcₚ := 111) (lvₚ := [(4, .inr (.inl z8)), (0, .inr (.inr (some 0))), (3, .inr (.inr (some 8)))]) (stₚ := [.inl (-1)]) (hₚ := gc_h sh I12 J10 A) (C := ((True ∧ True) ∧ True)) rfl ⟨⟨trivial, trivial⟩, trivial⟩ ?_
      refine gv_pick [] rfl ?_
      exact L111 I12 J10 (-1) hI12 FI12 FJ10 (by (/-6-/first | (and_intros <;> omega) | (simp only [gz_hd] at *; omega)))
  refine gv_run 1 true hD (pcₚ := 1) (lvₚ := [(0, .inr (.inr (some 0))), (1, .inl a1), (2, .inl a2)]) (stₚ := [.inl a2]) (hₚ := gc_h sh I J A) (C := (True ∧ True)) rfl ⟨trivial, trivial⟩ ?_
  refine gv_if_lt (t := 9) hD rfl rfl ⟨by (/-7-/first | omega | (simp only [gz_hd] at *; omega)), by (/-8-/first | omega | (simp only [gz_hd] at *; omega))⟩ (fun c18 => ?_) (fun c18 => ?_)
  · exfalso; (/-9-/first | omega | (simp only [gz_hd] at *; omega))
  · show gv_X _ _ (4, [(0, .inr (.inr (some 0))), (1, .inl a1), (2, .inl a2)], [], sh, gc_h sh I J A)
    refine gv_run 2 true hD (pcₚ := 6) (lvₚ := [(0, .inr (.inr (some 0))), (1, .inl a1), (2, .inl a2)]) (stₚ := [.inl 5, .inl a2]) (hₚ := gc_h sh I J A) (C := ((True ∧ True) ∧ True)) rfl ⟨⟨trivial, trivial⟩, trivial⟩ ?_
    refine gv_icmp_le (t := 19) hD rfl rfl ⟨⟨by (/-10-/first | omega | (simp only [gz_hd] at *; omega)), by (/-11-/first | omega | (simp only [gz_hd] at *; omega))⟩, ⟨by (/-12-/first | omega | (simp only [gz_hd] at *; omega)), by (/-13-/first | omega | (simp only [gz_hd] at *; omega))⟩⟩ (fun c19 => ?_) (fun c19 => ?_)
    · show gv_X _ _ (19, [(0, .inr (.inr (some 0))), (1, .inl a1), (2, .inl a2)], [], sh, gc_h sh I J A)
      refine gv_run 1 true hD (pcₚ := 20) (lvₚ := [(0, .inr (.inr (some 0))), (1, .inl a1), (2, .inl a2)]) (stₚ := [.inr (.inr (some 0))]) (hₚ := gc_h sh I J A) (C := (True ∧ True)) rfl ⟨trivial, trivial⟩ ?_
      refine gv_get hD rfl rfl S_0 ⟨by decide, (gz_sh B_0)⟩ (gc_hA S_0 rfl A_0_0) ?_
      show gv_X _ _ (23, [(0, .inr (.inr (some 0))), (1, .inl a1), (2, .inl a2)], [.inr (.inr (some 1))], sh, gc_h sh I J A)
      refine gv_get hD rfl rfl S_1 ⟨by decide, (gz_sh B_1)⟩ (gc_hA S_1 rfl A_1_0) ?_
      show gv_X _ _ (26, [(0, .inr (.inr (some 0))), (1, .inl a1), (2, .inl a2)], [.inr (.inr (some 2))], sh, gc_h sh I J A)
      refine gv_run 2 true hD (pcₚ := 28) (lvₚ := [(3, .inr (.inr (some 2))), (0, .inr (.inr (some 0))), (1, .inl a1), (2, .inl a2)]) (stₚ := [.inl a2]) (hₚ := gc_h sh I J A) (C := ((True ∧ True) ∧ True)) rfl ⟨⟨trivial, trivial⟩, trivial⟩ ?_
      refine gv_if_ne (t := 42) hD rfl rfl ⟨by (/-14-/first | omega | (simp only [gz_hd] at *; omega)), by (/-15-/first | omega | (simp only [gz_hd] at *; omega))⟩ (fun c20 => ?_) (fun c20 => ?_)
      · exfalso; (/-16-/first | omega | (simp only [gz_hd] at *; omega))
      · show gv_X _ _ (31, [(3, .inr (.inr (some 2))), (0, .inr (.inr (some 0))), (1, .inl a1), (2, .inl a2)], [], sh, gc_h sh I J A)
        refine gv_run 1 true hD (pcₚ := 32) (lvₚ := [(3, .inr (.inr (some 2))), (0, .inr (.inr (some 0))), (1, .inl a1), (2, .inl a2)]) (stₚ := [.inr (.inr (some 0))]) (hₚ := gc_h sh I J A) (C := (True ∧ True)) rfl ⟨trivial, trivial⟩ ?_
        refine gv_get hD rfl rfl S_0 ⟨by decide, (gz_sh B_0)⟩ (gc_hA S_0 rfl A_0_0) ?_
        show gv_X _ _ (35, [(3, .inr (.inr (some 2))), (0, .inr (.inr (some 0))), (1, .inl a1), (2, .inl a2)], [.inr (.inr (some 1))], sh, gc_h sh I J A)
        refine gv_get hD rfl rfl S_1 ⟨by decide, (gz_sh B_1)⟩ (gc_hA S_1 rfl A_1_3) ?_
        show gv_X _ _ (38, [(3, .inr (.inr (some 2))), (0, .inr (.inr (some 0))), (1, .inl a1), (2, .inl a2)], [.inr (.inr (some 8))], sh, gc_h sh I J A)
        refine gv_run 2 true hD (pcₚ := 77) (lvₚ := [(3, .inr (.inr (some 8))), (0, .inr (.inr (some 0))), (1, .inl a1), (2, .inl a2)]) (stₚ := []) (hₚ := gc_h sh I J A) (C := ((True ∧ True) ∧ True)) rfl ⟨⟨trivial, trivial⟩, trivial⟩ ?_
        refine gv_pick [1, 0] rfl ?_
        exact L77 
    · exfalso; (/-17-/first | omega | (simp only [gz_hd] at *; omega))
set_option maxHeartbeats 8000000 in
set_option maxRecDepth 100000 in
theorem d_X12_number_1 {ws0 : List Cond} {tb : String → gz_T} (hws : gc_Ws ws0) (htb : gc_tbs tb) (sh : gz_Sh) (ro : Nat → Nat) (I : gr_I) (J : gr_J) (A : gc_A) (hI : gc_Inv ro I) (a1 : Int) (a2 : Int) (hb : gc_Base sh ro A) (ha1 : (-2147483648) ≤ a1 ∧ a1 ≤ 2147483647) (ha2 : 1 ≤ a2 ∧ a2 ≤ 1)  : ∃ r hₚ, gz_Ev ws0 tb 5 (yX12_number, cX12_number, 6, (some .int)) [.inr (.inr (some 0)), .inl a1, .inl a2] sh (gc_h sh I J A) r sh hₚ 0 0 ∧ (∃ (Iₚ : gr_I) (Jₚ : gr_J), hₚ = gc_h sh Iₚ Jₚ A ∧ gc_Inv ro Iₚ ∧ (∀ q j : Nat, ((q = 23 ∧ j = 1) ∨ (q = 23 ∧ j = 5) ∨ (q = 23 ∧ j = 6) ∨ (q = 23 ∧ j = 7) ∨ (q = 23 ∧ j = 8)) ∨ Iₚ q j = I q j) ∧ (∀ q j : Nat, ((q = 23 ∧ j = 9)) ∨ Jₚ q j = J q j) ∧ (∃ z : Int, r = some (.inl z) ∧ (-1) ≤ z ∧ z ≤ 399 ∧ (Iₚ 23 1 = 0))) := by
  have FI : ∀ q j : Nat, ((q = 23 ∧ j = 1) ∨ (q = 23 ∧ j = 5) ∨ (q = 23 ∧ j = 6) ∨ (q = 23 ∧ j = 7) ∨ (q = 23 ∧ j = 8)) ∨ I q j = I q j := fun _ _ => Or.inr rfl
  have FJ : ∀ q j : Nat, ((q = 23 ∧ j = 9)) ∨ J q j = J q j := fun _ _ => Or.inr rfl
  have A_0_0 : A 0 0 = some 1 := gc_bA_0_0 hb
  have A_0_1 : A 0 1 = some 23 := gc_bA_0_1 hb
  have A_1_0 : A 1 0 = some 2 := gc_bA_1_0 hb
  have B_0 := gz_hi (show 0 < 1000000 from by decide)
  have B_1 := gz_hi (show 1 < 1000000 from by decide)
  have B_2 := gz_hi (show 2 < 1000000 from by decide)
  have B_23 := gz_hi (show 23 < 1000000 from by decide)
  have R_23 := gz_hi (show ro 23 = 3 from gc_bR_23 hb)
  have S_0 : sh[0]? = some (false, 12, 17) := gc_bS_0 hb
  have S_1 : sh[1]? = some (false, 8, 21) := gc_bS_1 hb
  have S_2 : sh[2]? = some (false, 4, 2) := gc_bS_2 hb
  have S_23 : sh[23]? = some (false, 9, 10) := gc_bS_23 hb
  have hD : gv_D (gc_E12 ws0 tb 4 (yX12_number, cX12_number, 6, (some .int)) kX12_number) := gq_of oX12_number
  refine gc_ev12 (d := 4) (l := kX12_number) (Po := fun r hₚ => (∃ (Iₚ : gr_I) (Jₚ : gr_J), hₚ = gc_h sh Iₚ Jₚ A ∧ gc_Inv ro Iₚ ∧ (∀ q j : Nat, ((q = 23 ∧ j = 1) ∨ (q = 23 ∧ j = 5) ∨ (q = 23 ∧ j = 6) ∨ (q = 23 ∧ j = 7) ∨ (q = 23 ∧ j = 8)) ∨ Iₚ q j = I q j) ∧ (∀ q j : Nat, ((q = 23 ∧ j = 9)) ∨ Jₚ q j = J q j) ∧ (∃ z : Int, r = some (.inl z) ∧ (-1) ≤ z ∧ z ≤ 399 ∧ (Iₚ 23 1 = 0)))) htb rfl (Nat.le_of_ble_eq_true rfl) ?_
  have L77 : gv_X (gc_E12 ws0 tb 4 (yX12_number, cX12_number, 6, (some .int)) kX12_number) (gv_Q cX12_number (some .int) sh (fun r hₚ => (∃ (Iₚ : gr_I) (Jₚ : gr_J), hₚ = gc_h sh Iₚ Jₚ A ∧ gc_Inv ro Iₚ ∧ (∀ q j : Nat, ((q = 23 ∧ j = 1) ∨ (q = 23 ∧ j = 5) ∨ (q = 23 ∧ j = 6) ∨ (q = 23 ∧ j = 7) ∨ (q = 23 ∧ j = 8)) ∨ Iₚ q j = I q j) ∧ (∀ q j : Nat, ((q = 23 ∧ j = 9)) ∨ Jₚ q j = J q j) ∧ (∃ z : Int, r = some (.inl z) ∧ (-1) ≤ z ∧ z ≤ 399 ∧ (Iₚ 23 1 = 0))))) (77, [(0, .inr (.inr (some 0))), (3, .inr (.inr (some 2)))], [], sh, gc_h sh I J A) := by
    have L111 : ∀ (I4 : gr_I) (J5 : gr_J) (s0_6 : Int), gc_Inv ro I4 → (∀ q j : Nat, ((q = 23 ∧ j = 1) ∨ (q = 23 ∧ j = 5) ∨ (q = 23 ∧ j = 6) ∨ (q = 23 ∧ j = 7) ∨ (q = 23 ∧ j = 8)) ∨ I4 q j = I q j) → (∀ q j : Nat, ((q = 23 ∧ j = 9)) ∨ J5 q j = J q j) → (((-1) ≤ s0_6 ∧ s0_6 ≤ 399) ∧ (I4 23 1 = 0)) → gv_X (gc_E12 ws0 tb 4 (yX12_number, cX12_number, 6, (some .int)) kX12_number) (gv_Q cX12_number (some .int) sh (fun r hₚ => (∃ (Iₚ : gr_I) (Jₚ : gr_J), hₚ = gc_h sh Iₚ Jₚ A ∧ gc_Inv ro Iₚ ∧ (∀ q j : Nat, ((q = 23 ∧ j = 1) ∨ (q = 23 ∧ j = 5) ∨ (q = 23 ∧ j = 6) ∨ (q = 23 ∧ j = 7) ∨ (q = 23 ∧ j = 8)) ∨ Iₚ q j = I q j) ∧ (∀ q j : Nat, ((q = 23 ∧ j = 9)) ∨ Jₚ q j = J q j) ∧ (∃ z : Int, r = some (.inl z) ∧ (-1) ≤ z ∧ z ≤ 399 ∧ (Iₚ 23 1 = 0))))) (111, [], [.inl s0_6], sh, gc_h sh I4 J5 A) := by
      intro I4 J5 s0_6 hI4 FI4 FJ5 m_6
      skip
      obtain ⟨hs0_6, e0_6⟩ := gz_h2 m_6
      exact gv_iret hD rfl ⟨I4, J5, rfl, hI4, FI4, FJ5, ⟨_, rfl, by (/-0-/first | (and_intros; (have o1 := gz_sh hs0_6; omega); (have o1 := gz_sh hs0_6; omega); (have o1 := gz_sh e0_6; omega)) | (simp only [gz_hd] at *; omega))⟩⟩
    refine gv_run 1 true hD (pcₚ := 78) (lvₚ := [(0, .inr (.inr (some 0))), (3, .inr (.inr (some 2)))]) (stₚ := [.inr (.inr (some 0))]) (hₚ := gc_h sh I J A) (C := (True ∧ True)) rfl ⟨trivial, trivial⟩ ?_
    refine gv_get hD rfl rfl S_0 ⟨by decide, (gz_sh B_0)⟩ (gc_hA S_0 rfl A_0_1) ?_
    show gv_X _ _ (81, [(0, .inr (.inr (some 0))), (3, .inr (.inr (some 2)))], [.inr (.inr (some 23))], sh, gc_h sh I J A)
    obtain ⟨r8, h8, E8, P8⟩ := d_X9_onlyName (ws0 := ws0) (tb := tb) hws htb sh ro I J A hI 23  (gc_b23 hb)     
    obtain ⟨I9, J10, rfl, hI9, g8, k8, ⟨z8, rfl, V8_0, V8_1, V8_2, V8_3, V8_4, q8⟩⟩ := P8
    replace q8 := gz_hi q8
    have FI9 := gc_frc (W := fun q j => (q = 23 ∧ j = 1) ∨ (q = 23 ∧ j = 5) ∨ (q = 23 ∧ j = 6) ∨ (q = 23 ∧ j = 7) ∨ (q = 23 ∧ j = 8)) (V := fun q j => (q = 23 ∧ j = 5) ∨ (q = 23 ∧ j = 6) ∨ (q = 23 ∧ j = 7) ∨ (q = 23 ∧ j = 8)) FI (fun q j h => (h.elim (fun h => (Or.inr (Or.inl h))) (fun h => (h.elim (fun h => (Or.inr (Or.inr (Or.inl h)))) (fun h => (h.elim (fun h => (Or.inr (Or.inr (Or.inr (Or.inl h))))) (fun h => (Or.inr (Or.inr (Or.inr (Or.inr h))))))))))) g8
    have FJ10 := gc_frc (W := fun q j => (q = 23 ∧ j = 9)) (V := fun q j => (q = 23 ∧ j = 9)) FJ (fun q j h => h) k8
    refine gv_callV hD rfl (As := []) (st := []) rfl (gz_sh B_23) S_23 rfl (gc_lV12 hws rfl) (Nat.le_of_ble_eq_true rfl) (gz_Ev_mono (d := 4) (by decide) E8) ?_
    show gv_X _ _ (84, [(0, .inr (.inr (some 0))), (3, .inr (.inr (some 2)))], [.inr (.inl z8)], sh, gc_h sh I9 J10 A)
    refine gv_run 2 true hD (pcₚ := 87) (lvₚ := [(4, .inr (.inl z8)), (0, .inr (.inr (some 0))), (3, .inr (.inr (some 2)))]) (stₚ := [.inr (.inr (some 0))]) (hₚ := gc_h sh I9 J10 A) (C := ((True ∧ True) ∧ True)) rfl ⟨⟨trivial, trivial⟩, trivial⟩ ?_
    refine gv_get hD rfl rfl S_0 ⟨by decide, (gz_sh B_0)⟩ (gc_hA S_0 rfl A_0_1) ?_
    show gv_X _ _ (90, [(4, .inr (.inl z8)), (0, .inr (.inr (some 0))), (3, .inr (.inr (some 2)))], [.inr (.inr (some 23))], sh, gc_h sh I9 J10 A)
    refine gv_run 1 true hD (pcₚ := 91) (lvₚ := [(4, .inr (.inl z8)), (0, .inr (.inr (some 0))), (3, .inr (.inr (some 2)))]) (stₚ := [.inl 0, .inr (.inr (some 23))]) (hₚ := gc_h sh I9 J10 A) (C := (True ∧ True)) rfl ⟨trivial, trivial⟩ ?_
    refine gv_put hD rfl rfl S_23 ⟨by decide, (gz_sh B_23)⟩ rfl trivial ?_
    refine gc_st (k := 1) hI9 S_23 rfl (gz_sh R_23) (lo := 0) (hi := 1000) rfl rfl (by (/-1-/first | omega | (simp only [gz_hd] at *; omega))) (by (/-2-/first | omega | (simp only [gz_hd] at *; omega))) (fun I12 hI12 q13 p13 => ?_)
    have FI12 := gc_frs (W := fun q j => (q = 23 ∧ j = 1) ∨ (q = 23 ∧ j = 5) ∨ (q = 23 ∧ j = 6) ∨ (q = 23 ∧ j = 7) ∨ (q = 23 ∧ j = 8)) FI9 (Or.inl ⟨rfl, rfl⟩) p13
    show gv_X _ _ (94, [(4, .inr (.inl z8)), (0, .inr (.inr (some 0))), (3, .inr (.inr (some 2)))], [], sh, gc_h sh I12 J10 A)
    have f15 := gz_hi (gw_cmp (z8) ((Int64.ofNat 0)))
    refine gv_run 3 true hD (pcₚ := 98) (lvₚ := [(4, .inr (.inl z8)), (0, .inr (.inr (some 0))), (3, .inr (.inr (some 2)))]) (stₚ := [.inl ((lg_cmp (z8) ((Int64.ofNat 0))).toInt)]) (hₚ := gc_h sh I12 J10 A) (C := (((True ∧ True) ∧ True) ∧ True)) rfl ⟨⟨⟨trivial, trivial⟩, trivial⟩, trivial⟩ ?_
    refine gv_if_ne (t := 105) hD rfl rfl ⟨by (/-3-/first | (have o1 := gz_sh f15; omega) | (simp only [gz_hd] at *; omega)), by (/-4-/first | (have o1 := gz_sh f15; omega) | (simp only [gz_hd] at *; omega))⟩ (fun c16 => ?_) (fun c16 => ?_)
    · show gv_X _ _ (105, [(4, .inr (.inl z8)), (0, .inr (.inr (some 0))), (3, .inr (.inr (some 2)))], [], sh, gc_h sh I12 J10 A)
      refine gv_run 2 true hD (pcₚ := 108) (lvₚ := [(4, .inr (.inl z8)), (0, .inr (.inr (some 0))), (3, .inr (.inr (some 2)))]) (stₚ := [.inr (.inl z8), .inr (.inr (some 2))]) (hₚ := gc_h sh I12 J10 A) (C := ((True ∧ True) ∧ True)) rfl ⟨⟨trivial, trivial⟩, trivial⟩ ?_
      obtain ⟨r17, h17, E17, P17⟩ := d_X4_find (ws0 := ws0) (tb := tb) hws htb sh ro I12 J10 A hI12 2 32 9 z8 (gc_b2 hb)     
      obtain ⟨rfl, ⟨z17, rfl, q17⟩⟩ := P17
      replace q17 := gz_hi q17
      refine gv_callV hD rfl (As := [.inr (.inl z8)]) (st := []) rfl (gz_sh B_2) S_2 rfl (gc_lV12 hws rfl) (Nat.le_of_ble_eq_true rfl) (gz_Ev_mono (d := 1) (by decide) E17) ?_
      show gv_X _ _ (111, [(4, .inr (.inl z8)), (0, .inr (.inr (some 0))), (3, .inr (.inr (some 2)))], [.inl z17], sh, gc_h sh I12 J10 A)
      refine gv_pick [] rfl ?_
      exact L111 I12 J10 z17 hI12 FI12 FJ10 (by (/-5-/first | (and_intros; (have o1 := gz_sh q17; omega); (have o1 := gz_sh q17; omega); (omega)) | (simp only [gz_hd] at *; omega)))
    · show gv_X _ _ (101, [(4, .inr (.inl z8)), (0, .inr (.inr (some 0))), (3, .inr (.inr (some 2)))], [], sh, gc_h sh I12 J10 A)
      refine gv_run 2 true hD (pcₚ := 111) (lvₚ := [(4, .inr (.inl z8)), (0, .inr (.inr (some 0))), (3, .inr (.inr (some 2)))]) (stₚ := [.inl (-1)]) (hₚ := gc_h sh I12 J10 A) (C := ((True ∧ True) ∧ True)) rfl ⟨⟨trivial, trivial⟩, trivial⟩ ?_
      refine gv_pick [] rfl ?_
      exact L111 I12 J10 (-1) hI12 FI12 FJ10 (by (/-6-/first | (and_intros <;> omega) | (simp only [gz_hd] at *; omega)))
  refine gv_run 1 true hD (pcₚ := 1) (lvₚ := [(0, .inr (.inr (some 0))), (1, .inl a1), (2, .inl a2)]) (stₚ := [.inl a2]) (hₚ := gc_h sh I J A) (C := (True ∧ True)) rfl ⟨trivial, trivial⟩ ?_
  refine gv_if_lt (t := 9) hD rfl rfl ⟨by (/-7-/first | omega | (simp only [gz_hd] at *; omega)), by (/-8-/first | omega | (simp only [gz_hd] at *; omega))⟩ (fun c18 => ?_) (fun c18 => ?_)
  · exfalso; (/-9-/first | omega | (simp only [gz_hd] at *; omega))
  · show gv_X _ _ (4, [(0, .inr (.inr (some 0))), (1, .inl a1), (2, .inl a2)], [], sh, gc_h sh I J A)
    refine gv_run 2 true hD (pcₚ := 6) (lvₚ := [(0, .inr (.inr (some 0))), (1, .inl a1), (2, .inl a2)]) (stₚ := [.inl 5, .inl a2]) (hₚ := gc_h sh I J A) (C := ((True ∧ True) ∧ True)) rfl ⟨⟨trivial, trivial⟩, trivial⟩ ?_
    refine gv_icmp_le (t := 19) hD rfl rfl ⟨⟨by (/-10-/first | omega | (simp only [gz_hd] at *; omega)), by (/-11-/first | omega | (simp only [gz_hd] at *; omega))⟩, ⟨by (/-12-/first | omega | (simp only [gz_hd] at *; omega)), by (/-13-/first | omega | (simp only [gz_hd] at *; omega))⟩⟩ (fun c19 => ?_) (fun c19 => ?_)
    · show gv_X _ _ (19, [(0, .inr (.inr (some 0))), (1, .inl a1), (2, .inl a2)], [], sh, gc_h sh I J A)
      refine gv_run 1 true hD (pcₚ := 20) (lvₚ := [(0, .inr (.inr (some 0))), (1, .inl a1), (2, .inl a2)]) (stₚ := [.inr (.inr (some 0))]) (hₚ := gc_h sh I J A) (C := (True ∧ True)) rfl ⟨trivial, trivial⟩ ?_
      refine gv_get hD rfl rfl S_0 ⟨by decide, (gz_sh B_0)⟩ (gc_hA S_0 rfl A_0_0) ?_
      show gv_X _ _ (23, [(0, .inr (.inr (some 0))), (1, .inl a1), (2, .inl a2)], [.inr (.inr (some 1))], sh, gc_h sh I J A)
      refine gv_get hD rfl rfl S_1 ⟨by decide, (gz_sh B_1)⟩ (gc_hA S_1 rfl A_1_0) ?_
      show gv_X _ _ (26, [(0, .inr (.inr (some 0))), (1, .inl a1), (2, .inl a2)], [.inr (.inr (some 2))], sh, gc_h sh I J A)
      refine gv_run 2 true hD (pcₚ := 28) (lvₚ := [(3, .inr (.inr (some 2))), (0, .inr (.inr (some 0))), (1, .inl a1), (2, .inl a2)]) (stₚ := [.inl a2]) (hₚ := gc_h sh I J A) (C := ((True ∧ True) ∧ True)) rfl ⟨⟨trivial, trivial⟩, trivial⟩ ?_
      refine gv_if_ne (t := 42) hD rfl rfl ⟨by (/-14-/first | omega | (simp only [gz_hd] at *; omega)), by (/-15-/first | omega | (simp only [gz_hd] at *; omega))⟩ (fun c20 => ?_) (fun c20 => ?_)
      · show gv_X _ _ (42, [(3, .inr (.inr (some 2))), (0, .inr (.inr (some 0))), (1, .inl a1), (2, .inl a2)], [], sh, gc_h sh I J A)
        refine gv_run 2 true hD (pcₚ := 44) (lvₚ := [(3, .inr (.inr (some 2))), (0, .inr (.inr (some 0))), (1, .inl a1), (2, .inl a2)]) (stₚ := [.inl 2, .inl a2]) (hₚ := gc_h sh I J A) (C := ((True ∧ True) ∧ True)) rfl ⟨⟨trivial, trivial⟩, trivial⟩ ?_
        refine gv_icmp_ne (t := 58) hD rfl rfl ⟨⟨by (/-16-/first | omega | (simp only [gz_hd] at *; omega)), by (/-17-/first | omega | (simp only [gz_hd] at *; omega))⟩, ⟨by (/-18-/first | omega | (simp only [gz_hd] at *; omega)), by (/-19-/first | omega | (simp only [gz_hd] at *; omega))⟩⟩ (fun c21 => ?_) (fun c21 => ?_)
        · show gv_X _ _ (58, [(3, .inr (.inr (some 2))), (0, .inr (.inr (some 0))), (1, .inl a1), (2, .inl a2)], [], sh, gc_h sh I J A)
          refine gv_run 2 true hD (pcₚ := 60) (lvₚ := [(3, .inr (.inr (some 2))), (0, .inr (.inr (some 0))), (1, .inl a1), (2, .inl a2)]) (stₚ := [.inl 2, .inl a2]) (hₚ := gc_h sh I J A) (C := ((True ∧ True) ∧ True)) rfl ⟨⟨trivial, trivial⟩, trivial⟩ ?_
          refine gv_icmp_le (t := 77) hD rfl rfl ⟨⟨by (/-20-/first | omega | (simp only [gz_hd] at *; omega)), by (/-21-/first | omega | (simp only [gz_hd] at *; omega))⟩, ⟨by (/-22-/first | omega | (simp only [gz_hd] at *; omega)), by (/-23-/first | omega | (simp only [gz_hd] at *; omega))⟩⟩ (fun c22 => ?_) (fun c22 => ?_)
          · show gv_X _ _ (77, [(3, .inr (.inr (some 2))), (0, .inr (.inr (some 0))), (1, .inl a1), (2, .inl a2)], [], sh, gc_h sh I J A)
            refine gv_pick [1, 0] rfl ?_
            exact L77 
          · exfalso; (/-24-/first | omega | (simp only [gz_hd] at *; omega))
        · exfalso; (/-25-/first | omega | (simp only [gz_hd] at *; omega))
      · exfalso; (/-26-/first | omega | (simp only [gz_hd] at *; omega))
    · exfalso; (/-27-/first | omega | (simp only [gz_hd] at *; omega))
set_option maxHeartbeats 8000000 in
set_option maxRecDepth 100000 in
theorem d_X12_number_2 {ws0 : List Cond} {tb : String → gz_T} (hws : gc_Ws ws0) (htb : gc_tbs tb) (sh : gz_Sh) (ro : Nat → Nat) (I : gr_I) (J : gr_J) (A : gc_A) (hI : gc_Inv ro I) (a1 : Int) (a2 : Int) (hb : gc_Base sh ro A) (ha1 : (-2147483648) ≤ a1 ∧ a1 ≤ 2147483647) (ha2 : 2 ≤ a2 ∧ a2 ≤ 2)  : ∃ r hₚ, gz_Ev ws0 tb 5 (yX12_number, cX12_number, 6, (some .int)) [.inr (.inr (some 0)), .inl a1, .inl a2] sh (gc_h sh I J A) r sh hₚ 0 0 ∧ (∃ (Iₚ : gr_I) (Jₚ : gr_J), hₚ = gc_h sh Iₚ Jₚ A ∧ gc_Inv ro Iₚ ∧ (∀ q j : Nat, ((q = 23 ∧ j = 1) ∨ (q = 23 ∧ j = 5) ∨ (q = 23 ∧ j = 6) ∨ (q = 23 ∧ j = 7) ∨ (q = 23 ∧ j = 8)) ∨ Iₚ q j = I q j) ∧ (∀ q j : Nat, ((q = 23 ∧ j = 9)) ∨ Jₚ q j = J q j) ∧ (∃ z : Int, r = some (.inl z) ∧ (-1) ≤ z ∧ z ≤ 399 ∧ (Iₚ 23 1 = 0))) := by
  have FI : ∀ q j : Nat, ((q = 23 ∧ j = 1) ∨ (q = 23 ∧ j = 5) ∨ (q = 23 ∧ j = 6) ∨ (q = 23 ∧ j = 7) ∨ (q = 23 ∧ j = 8)) ∨ I q j = I q j := fun _ _ => Or.inr rfl
  have FJ : ∀ q j : Nat, ((q = 23 ∧ j = 9)) ∨ J q j = J q j := fun _ _ => Or.inr rfl
  have A_0_0 : A 0 0 = some 1 := gc_bA_0_0 hb
  have A_0_1 : A 0 1 = some 23 := gc_bA_0_1 hb
  have A_1_0 : A 1 0 = some 2 := gc_bA_1_0 hb
  have A_1_1 : A 1 1 = some 4 := gc_bA_1_1 hb
  have B_0 := gz_hi (show 0 < 1000000 from by decide)
  have B_1 := gz_hi (show 1 < 1000000 from by decide)
  have B_23 := gz_hi (show 23 < 1000000 from by decide)
  have B_4 := gz_hi (show 4 < 1000000 from by decide)
  have R_23 := gz_hi (show ro 23 = 3 from gc_bR_23 hb)
  have S_0 : sh[0]? = some (false, 12, 17) := gc_bS_0 hb
  have S_1 : sh[1]? = some (false, 8, 21) := gc_bS_1 hb
  have S_23 : sh[23]? = some (false, 9, 10) := gc_bS_23 hb
  have S_4 : sh[4]? = some (false, 4, 2) := gc_bS_4 hb
  have hD : gv_D (gc_E12 ws0 tb 4 (yX12_number, cX12_number, 6, (some .int)) kX12_number) := gq_of oX12_number
  refine gc_ev12 (d := 4) (l := kX12_number) (Po := fun r hₚ => (∃ (Iₚ : gr_I) (Jₚ : gr_J), hₚ = gc_h sh Iₚ Jₚ A ∧ gc_Inv ro Iₚ ∧ (∀ q j : Nat, ((q = 23 ∧ j = 1) ∨ (q = 23 ∧ j = 5) ∨ (q = 23 ∧ j = 6) ∨ (q = 23 ∧ j = 7) ∨ (q = 23 ∧ j = 8)) ∨ Iₚ q j = I q j) ∧ (∀ q j : Nat, ((q = 23 ∧ j = 9)) ∨ Jₚ q j = J q j) ∧ (∃ z : Int, r = some (.inl z) ∧ (-1) ≤ z ∧ z ≤ 399 ∧ (Iₚ 23 1 = 0)))) htb rfl (Nat.le_of_ble_eq_true rfl) ?_
  have L77 : gv_X (gc_E12 ws0 tb 4 (yX12_number, cX12_number, 6, (some .int)) kX12_number) (gv_Q cX12_number (some .int) sh (fun r hₚ => (∃ (Iₚ : gr_I) (Jₚ : gr_J), hₚ = gc_h sh Iₚ Jₚ A ∧ gc_Inv ro Iₚ ∧ (∀ q j : Nat, ((q = 23 ∧ j = 1) ∨ (q = 23 ∧ j = 5) ∨ (q = 23 ∧ j = 6) ∨ (q = 23 ∧ j = 7) ∨ (q = 23 ∧ j = 8)) ∨ Iₚ q j = I q j) ∧ (∀ q j : Nat, ((q = 23 ∧ j = 9)) ∨ Jₚ q j = J q j) ∧ (∃ z : Int, r = some (.inl z) ∧ (-1) ≤ z ∧ z ≤ 399 ∧ (Iₚ 23 1 = 0))))) (77, [(0, .inr (.inr (some 0))), (3, .inr (.inr (some 4)))], [], sh, gc_h sh I J A) := by
    have L111 : ∀ (I4 : gr_I) (J5 : gr_J) (s0_6 : Int), gc_Inv ro I4 → (∀ q j : Nat, ((q = 23 ∧ j = 1) ∨ (q = 23 ∧ j = 5) ∨ (q = 23 ∧ j = 6) ∨ (q = 23 ∧ j = 7) ∨ (q = 23 ∧ j = 8)) ∨ I4 q j = I q j) → (∀ q j : Nat, ((q = 23 ∧ j = 9)) ∨ J5 q j = J q j) → (((-1) ≤ s0_6 ∧ s0_6 ≤ 399) ∧ (I4 23 1 = 0)) → gv_X (gc_E12 ws0 tb 4 (yX12_number, cX12_number, 6, (some .int)) kX12_number) (gv_Q cX12_number (some .int) sh (fun r hₚ => (∃ (Iₚ : gr_I) (Jₚ : gr_J), hₚ = gc_h sh Iₚ Jₚ A ∧ gc_Inv ro Iₚ ∧ (∀ q j : Nat, ((q = 23 ∧ j = 1) ∨ (q = 23 ∧ j = 5) ∨ (q = 23 ∧ j = 6) ∨ (q = 23 ∧ j = 7) ∨ (q = 23 ∧ j = 8)) ∨ Iₚ q j = I q j) ∧ (∀ q j : Nat, ((q = 23 ∧ j = 9)) ∨ Jₚ q j = J q j) ∧ (∃ z : Int, r = some (.inl z) ∧ (-1) ≤ z ∧ z ≤ 399 ∧ (Iₚ 23 1 = 0))))) (111, [], [.inl s0_6], sh, gc_h sh I4 J5 A) := by
      intro I4 J5 s0_6 hI4 FI4 FJ5 m_6
      skip
      obtain ⟨hs0_6, e0_6⟩ := gz_h2 m_6
      exact gv_iret hD rfl ⟨I4, J5, rfl, hI4, FI4, FJ5, ⟨_, rfl, by (/-0-/first | (and_intros; (have o1 := gz_sh hs0_6; omega); (have o1 := gz_sh hs0_6; omega); (have o1 := gz_sh e0_6; omega)) | (simp only [gz_hd] at *; omega))⟩⟩
    refine gv_run 1 true hD (pcₚ := 78) (lvₚ := [(0, .inr (.inr (some 0))), (3, .inr (.inr (some 4)))]) (stₚ := [.inr (.inr (some 0))]) (hₚ := gc_h sh I J A) (C := (True ∧ True)) rfl ⟨trivial, trivial⟩ ?_
    refine gv_get hD rfl rfl S_0 ⟨by decide, (gz_sh B_0)⟩ (gc_hA S_0 rfl A_0_1) ?_
    show gv_X _ _ (81, [(0, .inr (.inr (some 0))), (3, .inr (.inr (some 4)))], [.inr (.inr (some 23))], sh, gc_h sh I J A)
    obtain ⟨r8, h8, E8, P8⟩ := d_X9_onlyName (ws0 := ws0) (tb := tb) hws htb sh ro I J A hI 23  (gc_b23 hb)     
    obtain ⟨I9, J10, rfl, hI9, g8, k8, ⟨z8, rfl, V8_0, V8_1, V8_2, V8_3, V8_4, q8⟩⟩ := P8
    replace q8 := gz_hi q8
    have FI9 := gc_frc (W := fun q j => (q = 23 ∧ j = 1) ∨ (q = 23 ∧ j = 5) ∨ (q = 23 ∧ j = 6) ∨ (q = 23 ∧ j = 7) ∨ (q = 23 ∧ j = 8)) (V := fun q j => (q = 23 ∧ j = 5) ∨ (q = 23 ∧ j = 6) ∨ (q = 23 ∧ j = 7) ∨ (q = 23 ∧ j = 8)) FI (fun q j h => (h.elim (fun h => (Or.inr (Or.inl h))) (fun h => (h.elim (fun h => (Or.inr (Or.inr (Or.inl h)))) (fun h => (h.elim (fun h => (Or.inr (Or.inr (Or.inr (Or.inl h))))) (fun h => (Or.inr (Or.inr (Or.inr (Or.inr h))))))))))) g8
    have FJ10 := gc_frc (W := fun q j => (q = 23 ∧ j = 9)) (V := fun q j => (q = 23 ∧ j = 9)) FJ (fun q j h => h) k8
    refine gv_callV hD rfl (As := []) (st := []) rfl (gz_sh B_23) S_23 rfl (gc_lV12 hws rfl) (Nat.le_of_ble_eq_true rfl) (gz_Ev_mono (d := 4) (by decide) E8) ?_
    show gv_X _ _ (84, [(0, .inr (.inr (some 0))), (3, .inr (.inr (some 4)))], [.inr (.inl z8)], sh, gc_h sh I9 J10 A)
    refine gv_run 2 true hD (pcₚ := 87) (lvₚ := [(4, .inr (.inl z8)), (0, .inr (.inr (some 0))), (3, .inr (.inr (some 4)))]) (stₚ := [.inr (.inr (some 0))]) (hₚ := gc_h sh I9 J10 A) (C := ((True ∧ True) ∧ True)) rfl ⟨⟨trivial, trivial⟩, trivial⟩ ?_
    refine gv_get hD rfl rfl S_0 ⟨by decide, (gz_sh B_0)⟩ (gc_hA S_0 rfl A_0_1) ?_
    show gv_X _ _ (90, [(4, .inr (.inl z8)), (0, .inr (.inr (some 0))), (3, .inr (.inr (some 4)))], [.inr (.inr (some 23))], sh, gc_h sh I9 J10 A)
    refine gv_run 1 true hD (pcₚ := 91) (lvₚ := [(4, .inr (.inl z8)), (0, .inr (.inr (some 0))), (3, .inr (.inr (some 4)))]) (stₚ := [.inl 0, .inr (.inr (some 23))]) (hₚ := gc_h sh I9 J10 A) (C := (True ∧ True)) rfl ⟨trivial, trivial⟩ ?_
    refine gv_put hD rfl rfl S_23 ⟨by decide, (gz_sh B_23)⟩ rfl trivial ?_
    refine gc_st (k := 1) hI9 S_23 rfl (gz_sh R_23) (lo := 0) (hi := 1000) rfl rfl (by (/-1-/first | omega | (simp only [gz_hd] at *; omega))) (by (/-2-/first | omega | (simp only [gz_hd] at *; omega))) (fun I12 hI12 q13 p13 => ?_)
    have FI12 := gc_frs (W := fun q j => (q = 23 ∧ j = 1) ∨ (q = 23 ∧ j = 5) ∨ (q = 23 ∧ j = 6) ∨ (q = 23 ∧ j = 7) ∨ (q = 23 ∧ j = 8)) FI9 (Or.inl ⟨rfl, rfl⟩) p13
    show gv_X _ _ (94, [(4, .inr (.inl z8)), (0, .inr (.inr (some 0))), (3, .inr (.inr (some 4)))], [], sh, gc_h sh I12 J10 A)
    have f15 := gz_hi (gw_cmp (z8) ((Int64.ofNat 0)))
    refine gv_run 3 true hD (pcₚ := 98) (lvₚ := [(4, .inr (.inl z8)), (0, .inr (.inr (some 0))), (3, .inr (.inr (some 4)))]) (stₚ := [.inl ((lg_cmp (z8) ((Int64.ofNat 0))).toInt)]) (hₚ := gc_h sh I12 J10 A) (C := (((True ∧ True) ∧ True) ∧ True)) rfl ⟨⟨⟨trivial, trivial⟩, trivial⟩, trivial⟩ ?_
    refine gv_if_ne (t := 105) hD rfl rfl ⟨by (/-3-/first | (have o1 := gz_sh f15; omega) | (simp only [gz_hd] at *; omega)), by (/-4-/first | (have o1 := gz_sh f15; omega) | (simp only [gz_hd] at *; omega))⟩ (fun c16 => ?_) (fun c16 => ?_)
    · show gv_X _ _ (105, [(4, .inr (.inl z8)), (0, .inr (.inr (some 0))), (3, .inr (.inr (some 4)))], [], sh, gc_h sh I12 J10 A)
      refine gv_run 2 true hD (pcₚ := 108) (lvₚ := [(4, .inr (.inl z8)), (0, .inr (.inr (some 0))), (3, .inr (.inr (some 4)))]) (stₚ := [.inr (.inl z8), .inr (.inr (some 4))]) (hₚ := gc_h sh I12 J10 A) (C := ((True ∧ True) ∧ True)) rfl ⟨⟨trivial, trivial⟩, trivial⟩ ?_
      obtain ⟨r17, h17, E17, P17⟩ := d_X4_find (ws0 := ws0) (tb := tb) hws htb sh ro I12 J10 A hI12 4 96 11 z8 (gc_b4 hb)     
      obtain ⟨rfl, ⟨z17, rfl, q17⟩⟩ := P17
      replace q17 := gz_hi q17
      refine gv_callV hD rfl (As := [.inr (.inl z8)]) (st := []) rfl (gz_sh B_4) S_4 rfl (gc_lV12 hws rfl) (Nat.le_of_ble_eq_true rfl) (gz_Ev_mono (d := 1) (by decide) E17) ?_
      show gv_X _ _ (111, [(4, .inr (.inl z8)), (0, .inr (.inr (some 0))), (3, .inr (.inr (some 4)))], [.inl z17], sh, gc_h sh I12 J10 A)
      refine gv_pick [] rfl ?_
      exact L111 I12 J10 z17 hI12 FI12 FJ10 (by (/-5-/first | (and_intros; (have o1 := gz_sh q17; omega); (have o1 := gz_sh q17; omega); (omega)) | (simp only [gz_hd] at *; omega)))
    · show gv_X _ _ (101, [(4, .inr (.inl z8)), (0, .inr (.inr (some 0))), (3, .inr (.inr (some 4)))], [], sh, gc_h sh I12 J10 A)
      refine gv_run 2 true hD (pcₚ := 111) (lvₚ := [(4, .inr (.inl z8)), (0, .inr (.inr (some 0))), (3, .inr (.inr (some 4)))]) (stₚ := [.inl (-1)]) (hₚ := gc_h sh I12 J10 A) (C := ((True ∧ True) ∧ True)) rfl ⟨⟨trivial, trivial⟩, trivial⟩ ?_
      refine gv_pick [] rfl ?_
      exact L111 I12 J10 (-1) hI12 FI12 FJ10 (by (/-6-/first | (and_intros <;> omega) | (simp only [gz_hd] at *; omega)))
  refine gv_run 1 true hD (pcₚ := 1) (lvₚ := [(0, .inr (.inr (some 0))), (1, .inl a1), (2, .inl a2)]) (stₚ := [.inl a2]) (hₚ := gc_h sh I J A) (C := (True ∧ True)) rfl ⟨trivial, trivial⟩ ?_
  refine gv_if_lt (t := 9) hD rfl rfl ⟨by (/-7-/first | omega | (simp only [gz_hd] at *; omega)), by (/-8-/first | omega | (simp only [gz_hd] at *; omega))⟩ (fun c18 => ?_) (fun c18 => ?_)
  · exfalso; (/-9-/first | omega | (simp only [gz_hd] at *; omega))
  · show gv_X _ _ (4, [(0, .inr (.inr (some 0))), (1, .inl a1), (2, .inl a2)], [], sh, gc_h sh I J A)
    refine gv_run 2 true hD (pcₚ := 6) (lvₚ := [(0, .inr (.inr (some 0))), (1, .inl a1), (2, .inl a2)]) (stₚ := [.inl 5, .inl a2]) (hₚ := gc_h sh I J A) (C := ((True ∧ True) ∧ True)) rfl ⟨⟨trivial, trivial⟩, trivial⟩ ?_
    refine gv_icmp_le (t := 19) hD rfl rfl ⟨⟨by (/-10-/first | omega | (simp only [gz_hd] at *; omega)), by (/-11-/first | omega | (simp only [gz_hd] at *; omega))⟩, ⟨by (/-12-/first | omega | (simp only [gz_hd] at *; omega)), by (/-13-/first | omega | (simp only [gz_hd] at *; omega))⟩⟩ (fun c19 => ?_) (fun c19 => ?_)
    · show gv_X _ _ (19, [(0, .inr (.inr (some 0))), (1, .inl a1), (2, .inl a2)], [], sh, gc_h sh I J A)
      refine gv_run 1 true hD (pcₚ := 20) (lvₚ := [(0, .inr (.inr (some 0))), (1, .inl a1), (2, .inl a2)]) (stₚ := [.inr (.inr (some 0))]) (hₚ := gc_h sh I J A) (C := (True ∧ True)) rfl ⟨trivial, trivial⟩ ?_
      refine gv_get hD rfl rfl S_0 ⟨by decide, (gz_sh B_0)⟩ (gc_hA S_0 rfl A_0_0) ?_
      show gv_X _ _ (23, [(0, .inr (.inr (some 0))), (1, .inl a1), (2, .inl a2)], [.inr (.inr (some 1))], sh, gc_h sh I J A)
      refine gv_get hD rfl rfl S_1 ⟨by decide, (gz_sh B_1)⟩ (gc_hA S_1 rfl A_1_0) ?_
      show gv_X _ _ (26, [(0, .inr (.inr (some 0))), (1, .inl a1), (2, .inl a2)], [.inr (.inr (some 2))], sh, gc_h sh I J A)
      refine gv_run 2 true hD (pcₚ := 28) (lvₚ := [(3, .inr (.inr (some 2))), (0, .inr (.inr (some 0))), (1, .inl a1), (2, .inl a2)]) (stₚ := [.inl a2]) (hₚ := gc_h sh I J A) (C := ((True ∧ True) ∧ True)) rfl ⟨⟨trivial, trivial⟩, trivial⟩ ?_
      refine gv_if_ne (t := 42) hD rfl rfl ⟨by (/-14-/first | omega | (simp only [gz_hd] at *; omega)), by (/-15-/first | omega | (simp only [gz_hd] at *; omega))⟩ (fun c20 => ?_) (fun c20 => ?_)
      · show gv_X _ _ (42, [(3, .inr (.inr (some 2))), (0, .inr (.inr (some 0))), (1, .inl a1), (2, .inl a2)], [], sh, gc_h sh I J A)
        refine gv_run 2 true hD (pcₚ := 44) (lvₚ := [(3, .inr (.inr (some 2))), (0, .inr (.inr (some 0))), (1, .inl a1), (2, .inl a2)]) (stₚ := [.inl 2, .inl a2]) (hₚ := gc_h sh I J A) (C := ((True ∧ True) ∧ True)) rfl ⟨⟨trivial, trivial⟩, trivial⟩ ?_
        refine gv_icmp_ne (t := 58) hD rfl rfl ⟨⟨by (/-16-/first | omega | (simp only [gz_hd] at *; omega)), by (/-17-/first | omega | (simp only [gz_hd] at *; omega))⟩, ⟨by (/-18-/first | omega | (simp only [gz_hd] at *; omega)), by (/-19-/first | omega | (simp only [gz_hd] at *; omega))⟩⟩ (fun c21 => ?_) (fun c21 => ?_)
        · exfalso; (/-20-/first | omega | (simp only [gz_hd] at *; omega))
        · show gv_X _ _ (47, [(3, .inr (.inr (some 2))), (0, .inr (.inr (some 0))), (1, .inl a1), (2, .inl a2)], [], sh, gc_h sh I J A)
          refine gv_run 1 true hD (pcₚ := 48) (lvₚ := [(3, .inr (.inr (some 2))), (0, .inr (.inr (some 0))), (1, .inl a1), (2, .inl a2)]) (stₚ := [.inr (.inr (some 0))]) (hₚ := gc_h sh I J A) (C := (True ∧ True)) rfl ⟨trivial, trivial⟩ ?_
          refine gv_get hD rfl rfl S_0 ⟨by decide, (gz_sh B_0)⟩ (gc_hA S_0 rfl A_0_0) ?_
          show gv_X _ _ (51, [(3, .inr (.inr (some 2))), (0, .inr (.inr (some 0))), (1, .inl a1), (2, .inl a2)], [.inr (.inr (some 1))], sh, gc_h sh I J A)
          refine gv_get hD rfl rfl S_1 ⟨by decide, (gz_sh B_1)⟩ (gc_hA S_1 rfl A_1_1) ?_
          show gv_X _ _ (54, [(3, .inr (.inr (some 2))), (0, .inr (.inr (some 0))), (1, .inl a1), (2, .inl a2)], [.inr (.inr (some 4))], sh, gc_h sh I J A)
          refine gv_run 2 true hD (pcₚ := 77) (lvₚ := [(3, .inr (.inr (some 4))), (0, .inr (.inr (some 0))), (1, .inl a1), (2, .inl a2)]) (stₚ := []) (hₚ := gc_h sh I J A) (C := ((True ∧ True) ∧ True)) rfl ⟨⟨trivial, trivial⟩, trivial⟩ ?_
          refine gv_pick [1, 0] rfl ?_
          exact L77 
      · exfalso; (/-21-/first | omega | (simp only [gz_hd] at *; omega))
    · exfalso; (/-22-/first | omega | (simp only [gz_hd] at *; omega))
set_option maxHeartbeats 8000000 in
set_option maxRecDepth 100000 in
theorem d_X12_number_3 {ws0 : List Cond} {tb : String → gz_T} (hws : gc_Ws ws0) (htb : gc_tbs tb) (sh : gz_Sh) (ro : Nat → Nat) (I : gr_I) (J : gr_J) (A : gc_A) (hI : gc_Inv ro I) (t : Nat) (a1 : Int) (a2 : Int) (hb : gc_Base sh ro A) (h_t : gc_isTongue sh ro A t) (G_t : 144 ≤ t) (ha1 : 0 ≤ a1 ∧ a1 ≤ 7) (ha2 : 3 ≤ a2 ∧ a2 ≤ 3) (x0 : 0 ≤ a1 ∧ a1 < I 8 1) (x1 : A 10 (Int.toNat a1) = some t) : ∃ r hₚ, gz_Ev ws0 tb 5 (yX12_number, cX12_number, 6, (some .int)) [.inr (.inr (some 0)), .inl a1, .inl a2] sh (gc_h sh I J A) r sh hₚ 0 0 ∧ (∃ (Iₚ : gr_I) (Jₚ : gr_J), hₚ = gc_h sh Iₚ Jₚ A ∧ gc_Inv ro Iₚ ∧ (∀ q j : Nat, ((q = 23 ∧ j = 1) ∨ (q = 23 ∧ j = 5) ∨ (q = 23 ∧ j = 6) ∨ (q = 23 ∧ j = 7) ∨ (q = 23 ∧ j = 8)) ∨ Iₚ q j = I q j) ∧ (∀ q j : Nat, ((q = 23 ∧ j = 9)) ∨ Jₚ q j = J q j) ∧ (∃ z : Int, r = some (.inl z) ∧ (-1) ≤ z ∧ z ≤ 399 ∧ (Iₚ 23 1 = 0))) := by
  have FI : ∀ q j : Nat, ((q = 23 ∧ j = 1) ∨ (q = 23 ∧ j = 5) ∨ (q = 23 ∧ j = 6) ∨ (q = 23 ∧ j = 7) ∨ (q = 23 ∧ j = 8)) ∨ I q j = I q j := fun _ _ => Or.inr rfl
  have FJ : ∀ q j : Nat, ((q = 23 ∧ j = 9)) ∨ J q j = J q j := fun _ _ => Or.inr rfl
  have A_0_0 : A 0 0 = some 1 := gc_bA_0_0 hb
  have A_0_1 : A 0 1 = some 23 := gc_bA_0_1 hb
  have A_1_0 : A 1 0 = some 2 := gc_bA_1_0 hb
  have B_0 := gz_hi (show 0 < 1000000 from by decide)
  have B_1 := gz_hi (show 1 < 1000000 from by decide)
  have B_23 := gz_hi (show 23 < 1000000 from by decide)
  have R_23 := gz_hi (show ro 23 = 3 from gc_bR_23 hb)
  have S_0 : sh[0]? = some (false, 12, 17) := gc_bS_0 hb
  have S_1 : sh[1]? = some (false, 8, 21) := gc_bS_1 hb
  have S_23 : sh[23]? = some (false, 9, 10) := gc_bS_23 hb
  obtain ⟨S_t, R_t, B_t, A_t_0, h_t_1, A_t_1, h_t_3, A_t_2, S_t_5, R_t_5, B_t_5, A_t_3, S_t_6, R_t_6, B_t_6, A_t_4, h_t_7, A_t_5, S_t_9, R_t_9, B_t_9, A_t_7, S_t_10, R_t_10, B_t_10, A_t_8, h_t_11, A_t_9, S_t_13, R_t_13, B_t_13, A_t_10, S_t_14, R_t_14, B_t_14, A_t_12, S_t_15, R_t_15, B_t_15, A_t_14, S_t_16, R_t_16, B_t_16, A_t_15, h_t_17⟩ := id h_t
  replace R_t := gz_hi R_t
  replace B_t := gz_hi B_t
  replace R_t_5 := gz_hi R_t_5
  replace B_t_5 := gz_hi B_t_5
  replace R_t_6 := gz_hi R_t_6
  replace B_t_6 := gz_hi B_t_6
  replace R_t_9 := gz_hi R_t_9
  replace B_t_9 := gz_hi B_t_9
  replace R_t_10 := gz_hi R_t_10
  replace B_t_10 := gz_hi B_t_10
  replace R_t_13 := gz_hi R_t_13
  replace B_t_13 := gz_hi B_t_13
  replace R_t_14 := gz_hi R_t_14
  replace B_t_14 := gz_hi B_t_14
  replace R_t_15 := gz_hi R_t_15
  replace B_t_15 := gz_hi B_t_15
  replace R_t_16 := gz_hi R_t_16
  replace B_t_16 := gz_hi B_t_16
  obtain ⟨S_t_1, R_t_1, B_t_1, A_t_1_0, S_t_1_1, R_t_1_1, B_t_1_1, Q0_t_1, Q1_t_1, Q2_t_1⟩ := id h_t_1
  replace R_t_1 := gz_hi R_t_1
  replace B_t_1 := gz_hi B_t_1
  replace R_t_1_1 := gz_hi R_t_1_1
  replace B_t_1_1 := gz_hi B_t_1_1
  obtain ⟨S_t_3, R_t_3, B_t_3, A_t_3_0, S_t_3_1, R_t_3_1, B_t_3_1, Q0_t_3, Q1_t_3, Q2_t_3⟩ := id h_t_3
  replace R_t_3 := gz_hi R_t_3
  replace B_t_3 := gz_hi B_t_3
  replace R_t_3_1 := gz_hi R_t_3_1
  replace B_t_3_1 := gz_hi B_t_3_1
  obtain ⟨S_t_7, R_t_7, B_t_7, A_t_7_0, S_t_7_1, R_t_7_1, B_t_7_1, Q0_t_7, Q1_t_7, Q2_t_7⟩ := id h_t_7
  replace R_t_7 := gz_hi R_t_7
  replace B_t_7 := gz_hi B_t_7
  replace R_t_7_1 := gz_hi R_t_7_1
  replace B_t_7_1 := gz_hi B_t_7_1
  obtain ⟨S_t_11, R_t_11, B_t_11, A_t_11_0, S_t_11_1, R_t_11_1, B_t_11_1, Q0_t_11, Q1_t_11, Q2_t_11⟩ := id h_t_11
  replace R_t_11 := gz_hi R_t_11
  replace B_t_11 := gz_hi B_t_11
  replace R_t_11_1 := gz_hi R_t_11_1
  replace B_t_11_1 := gz_hi B_t_11_1
  obtain ⟨S_t_17, R_t_17, B_t_17, A_t_17_0, S_20, R_20, B_20, A_t_17_1, S_t_17_1, R_t_17_1, B_t_17_1, A_t_17_2, S_t_17_2, R_t_17_2, B_t_17_2, A_t_17_3, S_t_17_3, R_t_17_3, B_t_17_3, A_t_17_4, S_t_17_4, R_t_17_4, B_t_17_4, A_t_17_5, S_t_17_5, R_t_17_5, B_t_17_5, S_t_17_6, R_t_17_6, B_t_17_6, S_t_17_7, R_t_17_7, B_t_17_7⟩ := id h_t_17
  replace R_t_17 := gz_hi R_t_17
  replace B_t_17 := gz_hi B_t_17
  replace R_20 := gz_hi R_20
  replace B_20 := gz_hi B_20
  replace R_t_17_1 := gz_hi R_t_17_1
  replace B_t_17_1 := gz_hi B_t_17_1
  replace R_t_17_2 := gz_hi R_t_17_2
  replace B_t_17_2 := gz_hi B_t_17_2
  replace R_t_17_3 := gz_hi R_t_17_3
  replace B_t_17_3 := gz_hi B_t_17_3
  replace R_t_17_4 := gz_hi R_t_17_4
  replace B_t_17_4 := gz_hi B_t_17_4
  replace R_t_17_5 := gz_hi R_t_17_5
  replace B_t_17_5 := gz_hi B_t_17_5
  replace R_t_17_6 := gz_hi R_t_17_6
  replace B_t_17_6 := gz_hi B_t_17_6
  replace R_t_17_7 := gz_hi R_t_17_7
  replace B_t_17_7 := gz_hi B_t_17_7
  have hD : gv_D (gc_E12 ws0 tb 4 (yX12_number, cX12_number, 6, (some .int)) kX12_number) := gq_of oX12_number
  refine gc_ev12 (d := 4) (l := kX12_number) (Po := fun r hₚ => (∃ (Iₚ : gr_I) (Jₚ : gr_J), hₚ = gc_h sh Iₚ Jₚ A ∧ gc_Inv ro Iₚ ∧ (∀ q j : Nat, ((q = 23 ∧ j = 1) ∨ (q = 23 ∧ j = 5) ∨ (q = 23 ∧ j = 6) ∨ (q = 23 ∧ j = 7) ∨ (q = 23 ∧ j = 8)) ∨ Iₚ q j = I q j) ∧ (∀ q j : Nat, ((q = 23 ∧ j = 9)) ∨ Jₚ q j = J q j) ∧ (∃ z : Int, r = some (.inl z) ∧ (-1) ≤ z ∧ z ≤ 399 ∧ (Iₚ 23 1 = 0)))) htb rfl (Nat.le_of_ble_eq_true rfl) ?_
  have L77 : gv_X (gc_E12 ws0 tb 4 (yX12_number, cX12_number, 6, (some .int)) kX12_number) (gv_Q cX12_number (some .int) sh (fun r hₚ => (∃ (Iₚ : gr_I) (Jₚ : gr_J), hₚ = gc_h sh Iₚ Jₚ A ∧ gc_Inv ro Iₚ ∧ (∀ q j : Nat, ((q = 23 ∧ j = 1) ∨ (q = 23 ∧ j = 5) ∨ (q = 23 ∧ j = 6) ∨ (q = 23 ∧ j = 7) ∨ (q = 23 ∧ j = 8)) ∨ Iₚ q j = I q j) ∧ (∀ q j : Nat, ((q = 23 ∧ j = 9)) ∨ Jₚ q j = J q j) ∧ (∃ z : Int, r = some (.inl z) ∧ (-1) ≤ z ∧ z ≤ 399 ∧ (Iₚ 23 1 = 0))))) (77, [(0, .inr (.inr (some 0))), (3, .inr (.inr (some (t + 1))))], [], sh, gc_h sh I J A) := by
    have L111 : ∀ (I4 : gr_I) (J5 : gr_J) (s0_6 : Int), gc_Inv ro I4 → (∀ q j : Nat, ((q = 23 ∧ j = 1) ∨ (q = 23 ∧ j = 5) ∨ (q = 23 ∧ j = 6) ∨ (q = 23 ∧ j = 7) ∨ (q = 23 ∧ j = 8)) ∨ I4 q j = I q j) → (∀ q j : Nat, ((q = 23 ∧ j = 9)) ∨ J5 q j = J q j) → (((-1) ≤ s0_6 ∧ s0_6 ≤ 399) ∧ (I4 23 1 = 0)) → gv_X (gc_E12 ws0 tb 4 (yX12_number, cX12_number, 6, (some .int)) kX12_number) (gv_Q cX12_number (some .int) sh (fun r hₚ => (∃ (Iₚ : gr_I) (Jₚ : gr_J), hₚ = gc_h sh Iₚ Jₚ A ∧ gc_Inv ro Iₚ ∧ (∀ q j : Nat, ((q = 23 ∧ j = 1) ∨ (q = 23 ∧ j = 5) ∨ (q = 23 ∧ j = 6) ∨ (q = 23 ∧ j = 7) ∨ (q = 23 ∧ j = 8)) ∨ Iₚ q j = I q j) ∧ (∀ q j : Nat, ((q = 23 ∧ j = 9)) ∨ Jₚ q j = J q j) ∧ (∃ z : Int, r = some (.inl z) ∧ (-1) ≤ z ∧ z ≤ 399 ∧ (Iₚ 23 1 = 0))))) (111, [], [.inl s0_6], sh, gc_h sh I4 J5 A) := by
      intro I4 J5 s0_6 hI4 FI4 FJ5 m_6
      skip
      obtain ⟨hs0_6, e0_6⟩ := gz_h2 m_6
      exact gv_iret hD rfl ⟨I4, J5, rfl, hI4, FI4, FJ5, ⟨_, rfl, by (/-0-/first | (and_intros; (have o1 := gz_sh hs0_6; omega); (have o1 := gz_sh hs0_6; omega); (have o1 := gz_sh e0_6; omega)) | (simp only [gz_hd] at *; omega))⟩⟩
    refine gv_run 1 true hD (pcₚ := 78) (lvₚ := [(0, .inr (.inr (some 0))), (3, .inr (.inr (some (t + 1))))]) (stₚ := [.inr (.inr (some 0))]) (hₚ := gc_h sh I J A) (C := (True ∧ True)) rfl ⟨trivial, trivial⟩ ?_
    refine gv_get hD rfl rfl S_0 ⟨by decide, (gz_sh B_0)⟩ (gc_hA S_0 rfl A_0_1) ?_
    show gv_X _ _ (81, [(0, .inr (.inr (some 0))), (3, .inr (.inr (some (t + 1))))], [.inr (.inr (some 23))], sh, gc_h sh I J A)
    obtain ⟨r8, h8, E8, P8⟩ := d_X9_onlyName (ws0 := ws0) (tb := tb) hws htb sh ro I J A hI 23  (gc_b23 hb)     
    obtain ⟨I9, J10, rfl, hI9, g8, k8, ⟨z8, rfl, V8_0, V8_1, V8_2, V8_3, V8_4, q8⟩⟩ := P8
    replace q8 := gz_hi q8
    have FI9 := gc_frc (W := fun q j => (q = 23 ∧ j = 1) ∨ (q = 23 ∧ j = 5) ∨ (q = 23 ∧ j = 6) ∨ (q = 23 ∧ j = 7) ∨ (q = 23 ∧ j = 8)) (V := fun q j => (q = 23 ∧ j = 5) ∨ (q = 23 ∧ j = 6) ∨ (q = 23 ∧ j = 7) ∨ (q = 23 ∧ j = 8)) FI (fun q j h => (h.elim (fun h => (Or.inr (Or.inl h))) (fun h => (h.elim (fun h => (Or.inr (Or.inr (Or.inl h)))) (fun h => (h.elim (fun h => (Or.inr (Or.inr (Or.inr (Or.inl h))))) (fun h => (Or.inr (Or.inr (Or.inr (Or.inr h))))))))))) g8
    have FJ10 := gc_frc (W := fun q j => (q = 23 ∧ j = 9)) (V := fun q j => (q = 23 ∧ j = 9)) FJ (fun q j h => h) k8
    refine gv_callV hD rfl (As := []) (st := []) rfl (gz_sh B_23) S_23 rfl (gc_lV12 hws rfl) (Nat.le_of_ble_eq_true rfl) (gz_Ev_mono (d := 4) (by decide) E8) ?_
    show gv_X _ _ (84, [(0, .inr (.inr (some 0))), (3, .inr (.inr (some (t + 1))))], [.inr (.inl z8)], sh, gc_h sh I9 J10 A)
    refine gv_run 2 true hD (pcₚ := 87) (lvₚ := [(4, .inr (.inl z8)), (0, .inr (.inr (some 0))), (3, .inr (.inr (some (t + 1))))]) (stₚ := [.inr (.inr (some 0))]) (hₚ := gc_h sh I9 J10 A) (C := ((True ∧ True) ∧ True)) rfl ⟨⟨trivial, trivial⟩, trivial⟩ ?_
    refine gv_get hD rfl rfl S_0 ⟨by decide, (gz_sh B_0)⟩ (gc_hA S_0 rfl A_0_1) ?_
    show gv_X _ _ (90, [(4, .inr (.inl z8)), (0, .inr (.inr (some 0))), (3, .inr (.inr (some (t + 1))))], [.inr (.inr (some 23))], sh, gc_h sh I9 J10 A)
    refine gv_run 1 true hD (pcₚ := 91) (lvₚ := [(4, .inr (.inl z8)), (0, .inr (.inr (some 0))), (3, .inr (.inr (some (t + 1))))]) (stₚ := [.inl 0, .inr (.inr (some 23))]) (hₚ := gc_h sh I9 J10 A) (C := (True ∧ True)) rfl ⟨trivial, trivial⟩ ?_
    refine gv_put hD rfl rfl S_23 ⟨by decide, (gz_sh B_23)⟩ rfl trivial ?_
    refine gc_st (k := 1) hI9 S_23 rfl (gz_sh R_23) (lo := 0) (hi := 1000) rfl rfl (by (/-1-/first | omega | (simp only [gz_hd] at *; omega))) (by (/-2-/first | omega | (simp only [gz_hd] at *; omega))) (fun I12 hI12 q13 p13 => ?_)
    have FI12 := gc_frs (W := fun q j => (q = 23 ∧ j = 1) ∨ (q = 23 ∧ j = 5) ∨ (q = 23 ∧ j = 6) ∨ (q = 23 ∧ j = 7) ∨ (q = 23 ∧ j = 8)) FI9 (Or.inl ⟨rfl, rfl⟩) p13
    show gv_X _ _ (94, [(4, .inr (.inl z8)), (0, .inr (.inr (some 0))), (3, .inr (.inr (some (t + 1))))], [], sh, gc_h sh I12 J10 A)
    have f15 := gz_hi (gw_cmp (z8) ((Int64.ofNat 0)))
    refine gv_run 3 true hD (pcₚ := 98) (lvₚ := [(4, .inr (.inl z8)), (0, .inr (.inr (some 0))), (3, .inr (.inr (some (t + 1))))]) (stₚ := [.inl ((lg_cmp (z8) ((Int64.ofNat 0))).toInt)]) (hₚ := gc_h sh I12 J10 A) (C := (((True ∧ True) ∧ True) ∧ True)) rfl ⟨⟨⟨trivial, trivial⟩, trivial⟩, trivial⟩ ?_
    refine gv_if_ne (t := 105) hD rfl rfl ⟨by (/-3-/first | (have o1 := gz_sh f15; omega) | (simp only [gz_hd] at *; omega)), by (/-4-/first | (have o1 := gz_sh f15; omega) | (simp only [gz_hd] at *; omega))⟩ (fun c16 => ?_) (fun c16 => ?_)
    · show gv_X _ _ (105, [(4, .inr (.inl z8)), (0, .inr (.inr (some 0))), (3, .inr (.inr (some (t + 1))))], [], sh, gc_h sh I12 J10 A)
      refine gv_run 2 true hD (pcₚ := 108) (lvₚ := [(4, .inr (.inl z8)), (0, .inr (.inr (some 0))), (3, .inr (.inr (some (t + 1))))]) (stₚ := [.inr (.inl z8), .inr (.inr (some (t + 1)))]) (hₚ := gc_h sh I12 J10 A) (C := ((True ∧ True) ∧ True)) rfl ⟨⟨trivial, trivial⟩, trivial⟩ ?_
      obtain ⟨r17, h17, E17, P17⟩ := d_X4_find (ws0 := ws0) (tb := tb) hws htb sh ro I12 J10 A hI12 (t + 1) 8 6 z8 h_t_1     
      obtain ⟨rfl, ⟨z17, rfl, q17⟩⟩ := P17
      replace q17 := gz_hi q17
      refine gv_callV hD rfl (As := [.inr (.inl z8)]) (st := []) rfl (gz_sh B_t_1) S_t_1 rfl (gc_lV12 hws rfl) (Nat.le_of_ble_eq_true rfl) (gz_Ev_mono (d := 1) (by decide) E17) ?_
      show gv_X _ _ (111, [(4, .inr (.inl z8)), (0, .inr (.inr (some 0))), (3, .inr (.inr (some (t + 1))))], [.inl z17], sh, gc_h sh I12 J10 A)
      refine gv_pick [] rfl ?_
      exact L111 I12 J10 z17 hI12 FI12 FJ10 (by (/-5-/first | (and_intros; (have o1 := gz_sh q17; omega); (have o1 := gz_sh q17; omega); (omega)) | (simp only [gz_hd] at *; omega)))
    · show gv_X _ _ (101, [(4, .inr (.inl z8)), (0, .inr (.inr (some 0))), (3, .inr (.inr (some (t + 1))))], [], sh, gc_h sh I12 J10 A)
      refine gv_run 2 true hD (pcₚ := 111) (lvₚ := [(4, .inr (.inl z8)), (0, .inr (.inr (some 0))), (3, .inr (.inr (some (t + 1))))]) (stₚ := [.inl (-1)]) (hₚ := gc_h sh I12 J10 A) (C := ((True ∧ True) ∧ True)) rfl ⟨⟨trivial, trivial⟩, trivial⟩ ?_
      refine gv_pick [] rfl ?_
      exact L111 I12 J10 (-1) hI12 FI12 FJ10 (by (/-6-/first | (and_intros <;> omega) | (simp only [gz_hd] at *; omega)))
  refine gv_run 1 true hD (pcₚ := 1) (lvₚ := [(0, .inr (.inr (some 0))), (1, .inl a1), (2, .inl a2)]) (stₚ := [.inl a2]) (hₚ := gc_h sh I J A) (C := (True ∧ True)) rfl ⟨trivial, trivial⟩ ?_
  refine gv_if_lt (t := 9) hD rfl rfl ⟨by (/-7-/first | omega | (simp only [gz_hd] at *; omega)), by (/-8-/first | omega | (simp only [gz_hd] at *; omega))⟩ (fun c18 => ?_) (fun c18 => ?_)
  · exfalso; (/-9-/first | omega | (simp only [gz_hd] at *; omega))
  · show gv_X _ _ (4, [(0, .inr (.inr (some 0))), (1, .inl a1), (2, .inl a2)], [], sh, gc_h sh I J A)
    refine gv_run 2 true hD (pcₚ := 6) (lvₚ := [(0, .inr (.inr (some 0))), (1, .inl a1), (2, .inl a2)]) (stₚ := [.inl 5, .inl a2]) (hₚ := gc_h sh I J A) (C := ((True ∧ True) ∧ True)) rfl ⟨⟨trivial, trivial⟩, trivial⟩ ?_
    refine gv_icmp_le (t := 19) hD rfl rfl ⟨⟨by (/-10-/first | omega | (simp only [gz_hd] at *; omega)), by (/-11-/first | omega | (simp only [gz_hd] at *; omega))⟩, ⟨by (/-12-/first | omega | (simp only [gz_hd] at *; omega)), by (/-13-/first | omega | (simp only [gz_hd] at *; omega))⟩⟩ (fun c19 => ?_) (fun c19 => ?_)
    · show gv_X _ _ (19, [(0, .inr (.inr (some 0))), (1, .inl a1), (2, .inl a2)], [], sh, gc_h sh I J A)
      refine gv_run 1 true hD (pcₚ := 20) (lvₚ := [(0, .inr (.inr (some 0))), (1, .inl a1), (2, .inl a2)]) (stₚ := [.inr (.inr (some 0))]) (hₚ := gc_h sh I J A) (C := (True ∧ True)) rfl ⟨trivial, trivial⟩ ?_
      refine gv_get hD rfl rfl S_0 ⟨by decide, (gz_sh B_0)⟩ (gc_hA S_0 rfl A_0_0) ?_
      show gv_X _ _ (23, [(0, .inr (.inr (some 0))), (1, .inl a1), (2, .inl a2)], [.inr (.inr (some 1))], sh, gc_h sh I J A)
      refine gv_get hD rfl rfl S_1 ⟨by decide, (gz_sh B_1)⟩ (gc_hA S_1 rfl A_1_0) ?_
      show gv_X _ _ (26, [(0, .inr (.inr (some 0))), (1, .inl a1), (2, .inl a2)], [.inr (.inr (some 2))], sh, gc_h sh I J A)
      refine gv_run 2 true hD (pcₚ := 28) (lvₚ := [(3, .inr (.inr (some 2))), (0, .inr (.inr (some 0))), (1, .inl a1), (2, .inl a2)]) (stₚ := [.inl a2]) (hₚ := gc_h sh I J A) (C := ((True ∧ True) ∧ True)) rfl ⟨⟨trivial, trivial⟩, trivial⟩ ?_
      refine gv_if_ne (t := 42) hD rfl rfl ⟨by (/-14-/first | omega | (simp only [gz_hd] at *; omega)), by (/-15-/first | omega | (simp only [gz_hd] at *; omega))⟩ (fun c20 => ?_) (fun c20 => ?_)
      · show gv_X _ _ (42, [(3, .inr (.inr (some 2))), (0, .inr (.inr (some 0))), (1, .inl a1), (2, .inl a2)], [], sh, gc_h sh I J A)
        refine gv_run 2 true hD (pcₚ := 44) (lvₚ := [(3, .inr (.inr (some 2))), (0, .inr (.inr (some 0))), (1, .inl a1), (2, .inl a2)]) (stₚ := [.inl 2, .inl a2]) (hₚ := gc_h sh I J A) (C := ((True ∧ True) ∧ True)) rfl ⟨⟨trivial, trivial⟩, trivial⟩ ?_
        refine gv_icmp_ne (t := 58) hD rfl rfl ⟨⟨by (/-16-/first | omega | (simp only [gz_hd] at *; omega)), by (/-17-/first | omega | (simp only [gz_hd] at *; omega))⟩, ⟨by (/-18-/first | omega | (simp only [gz_hd] at *; omega)), by (/-19-/first | omega | (simp only [gz_hd] at *; omega))⟩⟩ (fun c21 => ?_) (fun c21 => ?_)
        · show gv_X _ _ (58, [(3, .inr (.inr (some 2))), (0, .inr (.inr (some 0))), (1, .inl a1), (2, .inl a2)], [], sh, gc_h sh I J A)
          refine gv_run 2 true hD (pcₚ := 60) (lvₚ := [(3, .inr (.inr (some 2))), (0, .inr (.inr (some 0))), (1, .inl a1), (2, .inl a2)]) (stₚ := [.inl 2, .inl a2]) (hₚ := gc_h sh I J A) (C := ((True ∧ True) ∧ True)) rfl ⟨⟨trivial, trivial⟩, trivial⟩ ?_
          refine gv_icmp_le (t := 77) hD rfl rfl ⟨⟨by (/-20-/first | omega | (simp only [gz_hd] at *; omega)), by (/-21-/first | omega | (simp only [gz_hd] at *; omega))⟩, ⟨by (/-22-/first | omega | (simp only [gz_hd] at *; omega)), by (/-23-/first | omega | (simp only [gz_hd] at *; omega))⟩⟩ (fun c22 => ?_) (fun c22 => ?_)
          · exfalso; (/-24-/first | omega | (simp only [gz_hd] at *; omega))
          · show gv_X _ _ (63, [(3, .inr (.inr (some 2))), (0, .inr (.inr (some 0))), (1, .inl a1), (2, .inl a2)], [], sh, gc_h sh I J A)
            refine gv_run 2 true hD (pcₚ := 65) (lvₚ := [(3, .inr (.inr (some 2))), (0, .inr (.inr (some 0))), (1, .inl a1), (2, .inl a2)]) (stₚ := [.inl a1, .inr (.inr (some 0))]) (hₚ := gc_h sh I J A) (C := ((True ∧ True) ∧ True)) rfl ⟨⟨trivial, trivial⟩, trivial⟩ ?_
            refine gv_callV hD rfl (As := [.inl a1]) (st := []) rfl (gz_sh B_0) S_0 rfl (gc_lV12 hws rfl) (Nat.le_of_ble_eq_true rfl) (gz_Ev_mono (d := 1) (by decide) (d_X12_tongueAt hws htb (J := J) hI hb (by (/-25-/first | omega | (simp only [gz_hd] at *; omega))) (by (/-26-/first | omega | (simp only [gz_hd] at *; omega))) x1)) ?_
            show gv_X _ _ (68, [(3, .inr (.inr (some 2))), (0, .inr (.inr (some 0))), (1, .inl a1), (2, .inl a2)], [.inr (.inr (some t))], sh, gc_h sh I J A)
            refine gv_run 3 true hD (pcₚ := 73) (lvₚ := [(4, .inr (.inr (some t))), (3, .inr (.inr (some 2))), (0, .inr (.inr (some 0))), (1, .inl a1), (2, .inl a2)]) (stₚ := [.inl a2, .inr (.inr (some t))]) (hₚ := gc_h sh I J A) (C := (((True ∧ True) ∧ True) ∧ True)) rfl ⟨⟨⟨trivial, trivial⟩, trivial⟩, trivial⟩ ?_
            refine gv_callV hD rfl (As := [.inl a2]) (st := []) rfl (gz_sh B_t) S_t rfl (gc_lV12 hws rfl) (Nat.le_of_ble_eq_true rfl) (gz_Ev_mono (d := 1) (by decide) (d_X11_namesOf_3q htb (J := J) h_t (a2 := a2) (by (/-27-/first | omega | (simp only [gz_hd] at *; omega))))) ?_
            show gv_X _ _ (76, [(4, .inr (.inr (some t))), (3, .inr (.inr (some 2))), (0, .inr (.inr (some 0))), (1, .inl a1), (2, .inl a2)], [.inr (.inr (some (t + 1)))], sh, gc_h sh I J A)
            refine gv_run 1 true hD (pcₚ := 77) (lvₚ := [(3, .inr (.inr (some (t + 1)))), (4, .inr (.inr (some t))), (0, .inr (.inr (some 0))), (1, .inl a1), (2, .inl a2)]) (stₚ := []) (hₚ := gc_h sh I J A) (C := (True ∧ True)) rfl ⟨trivial, trivial⟩ ?_
            refine gv_pick [2, 0] rfl ?_
            exact L77 
        · exfalso; (/-28-/first | omega | (simp only [gz_hd] at *; omega))
      · exfalso; (/-29-/first | omega | (simp only [gz_hd] at *; omega))
    · exfalso; (/-30-/first | omega | (simp only [gz_hd] at *; omega))
set_option maxHeartbeats 8000000 in
set_option maxRecDepth 100000 in
theorem d_X12_number_4 {ws0 : List Cond} {tb : String → gz_T} (hws : gc_Ws ws0) (htb : gc_tbs tb) (sh : gz_Sh) (ro : Nat → Nat) (I : gr_I) (J : gr_J) (A : gc_A) (hI : gc_Inv ro I) (t : Nat) (a1 : Int) (a2 : Int) (hb : gc_Base sh ro A) (h_t : gc_isTongue sh ro A t) (G_t : 144 ≤ t) (ha1 : 0 ≤ a1 ∧ a1 ≤ 7) (ha2 : 4 ≤ a2 ∧ a2 ≤ 4) (x0 : 0 ≤ a1 ∧ a1 < I 8 1) (x1 : A 10 (Int.toNat a1) = some t) : ∃ r hₚ, gz_Ev ws0 tb 5 (yX12_number, cX12_number, 6, (some .int)) [.inr (.inr (some 0)), .inl a1, .inl a2] sh (gc_h sh I J A) r sh hₚ 0 0 ∧ (∃ (Iₚ : gr_I) (Jₚ : gr_J), hₚ = gc_h sh Iₚ Jₚ A ∧ gc_Inv ro Iₚ ∧ (∀ q j : Nat, ((q = 23 ∧ j = 1) ∨ (q = 23 ∧ j = 5) ∨ (q = 23 ∧ j = 6) ∨ (q = 23 ∧ j = 7) ∨ (q = 23 ∧ j = 8)) ∨ Iₚ q j = I q j) ∧ (∀ q j : Nat, ((q = 23 ∧ j = 9)) ∨ Jₚ q j = J q j) ∧ (∃ z : Int, r = some (.inl z) ∧ (-1) ≤ z ∧ z ≤ 399 ∧ (Iₚ 23 1 = 0))) := by
  have FI : ∀ q j : Nat, ((q = 23 ∧ j = 1) ∨ (q = 23 ∧ j = 5) ∨ (q = 23 ∧ j = 6) ∨ (q = 23 ∧ j = 7) ∨ (q = 23 ∧ j = 8)) ∨ I q j = I q j := fun _ _ => Or.inr rfl
  have FJ : ∀ q j : Nat, ((q = 23 ∧ j = 9)) ∨ J q j = J q j := fun _ _ => Or.inr rfl
  have A_0_0 : A 0 0 = some 1 := gc_bA_0_0 hb
  have A_0_1 : A 0 1 = some 23 := gc_bA_0_1 hb
  have A_1_0 : A 1 0 = some 2 := gc_bA_1_0 hb
  have B_0 := gz_hi (show 0 < 1000000 from by decide)
  have B_1 := gz_hi (show 1 < 1000000 from by decide)
  have B_23 := gz_hi (show 23 < 1000000 from by decide)
  have R_23 := gz_hi (show ro 23 = 3 from gc_bR_23 hb)
  have S_0 : sh[0]? = some (false, 12, 17) := gc_bS_0 hb
  have S_1 : sh[1]? = some (false, 8, 21) := gc_bS_1 hb
  have S_23 : sh[23]? = some (false, 9, 10) := gc_bS_23 hb
  obtain ⟨S_t, R_t, B_t, A_t_0, h_t_1, A_t_1, h_t_3, A_t_2, S_t_5, R_t_5, B_t_5, A_t_3, S_t_6, R_t_6, B_t_6, A_t_4, h_t_7, A_t_5, S_t_9, R_t_9, B_t_9, A_t_7, S_t_10, R_t_10, B_t_10, A_t_8, h_t_11, A_t_9, S_t_13, R_t_13, B_t_13, A_t_10, S_t_14, R_t_14, B_t_14, A_t_12, S_t_15, R_t_15, B_t_15, A_t_14, S_t_16, R_t_16, B_t_16, A_t_15, h_t_17⟩ := id h_t
  replace R_t := gz_hi R_t
  replace B_t := gz_hi B_t
  replace R_t_5 := gz_hi R_t_5
  replace B_t_5 := gz_hi B_t_5
  replace R_t_6 := gz_hi R_t_6
  replace B_t_6 := gz_hi B_t_6
  replace R_t_9 := gz_hi R_t_9
  replace B_t_9 := gz_hi B_t_9
  replace R_t_10 := gz_hi R_t_10
  replace B_t_10 := gz_hi B_t_10
  replace R_t_13 := gz_hi R_t_13
  replace B_t_13 := gz_hi B_t_13
  replace R_t_14 := gz_hi R_t_14
  replace B_t_14 := gz_hi B_t_14
  replace R_t_15 := gz_hi R_t_15
  replace B_t_15 := gz_hi B_t_15
  replace R_t_16 := gz_hi R_t_16
  replace B_t_16 := gz_hi B_t_16
  obtain ⟨S_t_1, R_t_1, B_t_1, A_t_1_0, S_t_1_1, R_t_1_1, B_t_1_1, Q0_t_1, Q1_t_1, Q2_t_1⟩ := id h_t_1
  replace R_t_1 := gz_hi R_t_1
  replace B_t_1 := gz_hi B_t_1
  replace R_t_1_1 := gz_hi R_t_1_1
  replace B_t_1_1 := gz_hi B_t_1_1
  obtain ⟨S_t_3, R_t_3, B_t_3, A_t_3_0, S_t_3_1, R_t_3_1, B_t_3_1, Q0_t_3, Q1_t_3, Q2_t_3⟩ := id h_t_3
  replace R_t_3 := gz_hi R_t_3
  replace B_t_3 := gz_hi B_t_3
  replace R_t_3_1 := gz_hi R_t_3_1
  replace B_t_3_1 := gz_hi B_t_3_1
  obtain ⟨S_t_7, R_t_7, B_t_7, A_t_7_0, S_t_7_1, R_t_7_1, B_t_7_1, Q0_t_7, Q1_t_7, Q2_t_7⟩ := id h_t_7
  replace R_t_7 := gz_hi R_t_7
  replace B_t_7 := gz_hi B_t_7
  replace R_t_7_1 := gz_hi R_t_7_1
  replace B_t_7_1 := gz_hi B_t_7_1
  obtain ⟨S_t_11, R_t_11, B_t_11, A_t_11_0, S_t_11_1, R_t_11_1, B_t_11_1, Q0_t_11, Q1_t_11, Q2_t_11⟩ := id h_t_11
  replace R_t_11 := gz_hi R_t_11
  replace B_t_11 := gz_hi B_t_11
  replace R_t_11_1 := gz_hi R_t_11_1
  replace B_t_11_1 := gz_hi B_t_11_1
  obtain ⟨S_t_17, R_t_17, B_t_17, A_t_17_0, S_20, R_20, B_20, A_t_17_1, S_t_17_1, R_t_17_1, B_t_17_1, A_t_17_2, S_t_17_2, R_t_17_2, B_t_17_2, A_t_17_3, S_t_17_3, R_t_17_3, B_t_17_3, A_t_17_4, S_t_17_4, R_t_17_4, B_t_17_4, A_t_17_5, S_t_17_5, R_t_17_5, B_t_17_5, S_t_17_6, R_t_17_6, B_t_17_6, S_t_17_7, R_t_17_7, B_t_17_7⟩ := id h_t_17
  replace R_t_17 := gz_hi R_t_17
  replace B_t_17 := gz_hi B_t_17
  replace R_20 := gz_hi R_20
  replace B_20 := gz_hi B_20
  replace R_t_17_1 := gz_hi R_t_17_1
  replace B_t_17_1 := gz_hi B_t_17_1
  replace R_t_17_2 := gz_hi R_t_17_2
  replace B_t_17_2 := gz_hi B_t_17_2
  replace R_t_17_3 := gz_hi R_t_17_3
  replace B_t_17_3 := gz_hi B_t_17_3
  replace R_t_17_4 := gz_hi R_t_17_4
  replace B_t_17_4 := gz_hi B_t_17_4
  replace R_t_17_5 := gz_hi R_t_17_5
  replace B_t_17_5 := gz_hi B_t_17_5
  replace R_t_17_6 := gz_hi R_t_17_6
  replace B_t_17_6 := gz_hi B_t_17_6
  replace R_t_17_7 := gz_hi R_t_17_7
  replace B_t_17_7 := gz_hi B_t_17_7
  have hD : gv_D (gc_E12 ws0 tb 4 (yX12_number, cX12_number, 6, (some .int)) kX12_number) := gq_of oX12_number
  refine gc_ev12 (d := 4) (l := kX12_number) (Po := fun r hₚ => (∃ (Iₚ : gr_I) (Jₚ : gr_J), hₚ = gc_h sh Iₚ Jₚ A ∧ gc_Inv ro Iₚ ∧ (∀ q j : Nat, ((q = 23 ∧ j = 1) ∨ (q = 23 ∧ j = 5) ∨ (q = 23 ∧ j = 6) ∨ (q = 23 ∧ j = 7) ∨ (q = 23 ∧ j = 8)) ∨ Iₚ q j = I q j) ∧ (∀ q j : Nat, ((q = 23 ∧ j = 9)) ∨ Jₚ q j = J q j) ∧ (∃ z : Int, r = some (.inl z) ∧ (-1) ≤ z ∧ z ≤ 399 ∧ (Iₚ 23 1 = 0)))) htb rfl (Nat.le_of_ble_eq_true rfl) ?_
  have L77 : gv_X (gc_E12 ws0 tb 4 (yX12_number, cX12_number, 6, (some .int)) kX12_number) (gv_Q cX12_number (some .int) sh (fun r hₚ => (∃ (Iₚ : gr_I) (Jₚ : gr_J), hₚ = gc_h sh Iₚ Jₚ A ∧ gc_Inv ro Iₚ ∧ (∀ q j : Nat, ((q = 23 ∧ j = 1) ∨ (q = 23 ∧ j = 5) ∨ (q = 23 ∧ j = 6) ∨ (q = 23 ∧ j = 7) ∨ (q = 23 ∧ j = 8)) ∨ Iₚ q j = I q j) ∧ (∀ q j : Nat, ((q = 23 ∧ j = 9)) ∨ Jₚ q j = J q j) ∧ (∃ z : Int, r = some (.inl z) ∧ (-1) ≤ z ∧ z ≤ 399 ∧ (Iₚ 23 1 = 0))))) (77, [(0, .inr (.inr (some 0))), (3, .inr (.inr (some (t + 3))))], [], sh, gc_h sh I J A) := by
    have L111 : ∀ (I4 : gr_I) (J5 : gr_J) (s0_6 : Int), gc_Inv ro I4 → (∀ q j : Nat, ((q = 23 ∧ j = 1) ∨ (q = 23 ∧ j = 5) ∨ (q = 23 ∧ j = 6) ∨ (q = 23 ∧ j = 7) ∨ (q = 23 ∧ j = 8)) ∨ I4 q j = I q j) → (∀ q j : Nat, ((q = 23 ∧ j = 9)) ∨ J5 q j = J q j) → (((-1) ≤ s0_6 ∧ s0_6 ≤ 399) ∧ (I4 23 1 = 0)) → gv_X (gc_E12 ws0 tb 4 (yX12_number, cX12_number, 6, (some .int)) kX12_number) (gv_Q cX12_number (some .int) sh (fun r hₚ => (∃ (Iₚ : gr_I) (Jₚ : gr_J), hₚ = gc_h sh Iₚ Jₚ A ∧ gc_Inv ro Iₚ ∧ (∀ q j : Nat, ((q = 23 ∧ j = 1) ∨ (q = 23 ∧ j = 5) ∨ (q = 23 ∧ j = 6) ∨ (q = 23 ∧ j = 7) ∨ (q = 23 ∧ j = 8)) ∨ Iₚ q j = I q j) ∧ (∀ q j : Nat, ((q = 23 ∧ j = 9)) ∨ Jₚ q j = J q j) ∧ (∃ z : Int, r = some (.inl z) ∧ (-1) ≤ z ∧ z ≤ 399 ∧ (Iₚ 23 1 = 0))))) (111, [], [.inl s0_6], sh, gc_h sh I4 J5 A) := by
      intro I4 J5 s0_6 hI4 FI4 FJ5 m_6
      skip
      obtain ⟨hs0_6, e0_6⟩ := gz_h2 m_6
      exact gv_iret hD rfl ⟨I4, J5, rfl, hI4, FI4, FJ5, ⟨_, rfl, by (/-0-/first | (and_intros; (have o1 := gz_sh hs0_6; omega); (have o1 := gz_sh hs0_6; omega); (have o1 := gz_sh e0_6; omega)) | (simp only [gz_hd] at *; omega))⟩⟩
    refine gv_run 1 true hD (pcₚ := 78) (lvₚ := [(0, .inr (.inr (some 0))), (3, .inr (.inr (some (t + 3))))]) (stₚ := [.inr (.inr (some 0))]) (hₚ := gc_h sh I J A) (C := (True ∧ True)) rfl ⟨trivial, trivial⟩ ?_
    refine gv_get hD rfl rfl S_0 ⟨by decide, (gz_sh B_0)⟩ (gc_hA S_0 rfl A_0_1) ?_
    show gv_X _ _ (81, [(0, .inr (.inr (some 0))), (3, .inr (.inr (some (t + 3))))], [.inr (.inr (some 23))], sh, gc_h sh I J A)
    obtain ⟨r8, h8, E8, P8⟩ := d_X9_onlyName (ws0 := ws0) (tb := tb) hws htb sh ro I J A hI 23  (gc_b23 hb)     
    obtain ⟨I9, J10, rfl, hI9, g8, k8, ⟨z8, rfl, V8_0, V8_1, V8_2, V8_3, V8_4, q8⟩⟩ := P8
    replace q8 := gz_hi q8
    have FI9 := gc_frc (W := fun q j => (q = 23 ∧ j = 1) ∨ (q = 23 ∧ j = 5) ∨ (q = 23 ∧ j = 6) ∨ (q = 23 ∧ j = 7) ∨ (q = 23 ∧ j = 8)) (V := fun q j => (q = 23 ∧ j = 5) ∨ (q = 23 ∧ j = 6) ∨ (q = 23 ∧ j = 7) ∨ (q = 23 ∧ j = 8)) FI (fun q j h => (h.elim (fun h => (Or.inr (Or.inl h))) (fun h => (h.elim (fun h => (Or.inr (Or.inr (Or.inl h)))) (fun h => (h.elim (fun h => (Or.inr (Or.inr (Or.inr (Or.inl h))))) (fun h => (Or.inr (Or.inr (Or.inr (Or.inr h))))))))))) g8
    have FJ10 := gc_frc (W := fun q j => (q = 23 ∧ j = 9)) (V := fun q j => (q = 23 ∧ j = 9)) FJ (fun q j h => h) k8
    refine gv_callV hD rfl (As := []) (st := []) rfl (gz_sh B_23) S_23 rfl (gc_lV12 hws rfl) (Nat.le_of_ble_eq_true rfl) (gz_Ev_mono (d := 4) (by decide) E8) ?_
    show gv_X _ _ (84, [(0, .inr (.inr (some 0))), (3, .inr (.inr (some (t + 3))))], [.inr (.inl z8)], sh, gc_h sh I9 J10 A)
    refine gv_run 2 true hD (pcₚ := 87) (lvₚ := [(4, .inr (.inl z8)), (0, .inr (.inr (some 0))), (3, .inr (.inr (some (t + 3))))]) (stₚ := [.inr (.inr (some 0))]) (hₚ := gc_h sh I9 J10 A) (C := ((True ∧ True) ∧ True)) rfl ⟨⟨trivial, trivial⟩, trivial⟩ ?_
    refine gv_get hD rfl rfl S_0 ⟨by decide, (gz_sh B_0)⟩ (gc_hA S_0 rfl A_0_1) ?_
    show gv_X _ _ (90, [(4, .inr (.inl z8)), (0, .inr (.inr (some 0))), (3, .inr (.inr (some (t + 3))))], [.inr (.inr (some 23))], sh, gc_h sh I9 J10 A)
    refine gv_run 1 true hD (pcₚ := 91) (lvₚ := [(4, .inr (.inl z8)), (0, .inr (.inr (some 0))), (3, .inr (.inr (some (t + 3))))]) (stₚ := [.inl 0, .inr (.inr (some 23))]) (hₚ := gc_h sh I9 J10 A) (C := (True ∧ True)) rfl ⟨trivial, trivial⟩ ?_
    refine gv_put hD rfl rfl S_23 ⟨by decide, (gz_sh B_23)⟩ rfl trivial ?_
    refine gc_st (k := 1) hI9 S_23 rfl (gz_sh R_23) (lo := 0) (hi := 1000) rfl rfl (by (/-1-/first | omega | (simp only [gz_hd] at *; omega))) (by (/-2-/first | omega | (simp only [gz_hd] at *; omega))) (fun I12 hI12 q13 p13 => ?_)
    have FI12 := gc_frs (W := fun q j => (q = 23 ∧ j = 1) ∨ (q = 23 ∧ j = 5) ∨ (q = 23 ∧ j = 6) ∨ (q = 23 ∧ j = 7) ∨ (q = 23 ∧ j = 8)) FI9 (Or.inl ⟨rfl, rfl⟩) p13
    show gv_X _ _ (94, [(4, .inr (.inl z8)), (0, .inr (.inr (some 0))), (3, .inr (.inr (some (t + 3))))], [], sh, gc_h sh I12 J10 A)
    have f15 := gz_hi (gw_cmp (z8) ((Int64.ofNat 0)))
    refine gv_run 3 true hD (pcₚ := 98) (lvₚ := [(4, .inr (.inl z8)), (0, .inr (.inr (some 0))), (3, .inr (.inr (some (t + 3))))]) (stₚ := [.inl ((lg_cmp (z8) ((Int64.ofNat 0))).toInt)]) (hₚ := gc_h sh I12 J10 A) (C := (((True ∧ True) ∧ True) ∧ True)) rfl ⟨⟨⟨trivial, trivial⟩, trivial⟩, trivial⟩ ?_
    refine gv_if_ne (t := 105) hD rfl rfl ⟨by (/-3-/first | (have o1 := gz_sh f15; omega) | (simp only [gz_hd] at *; omega)), by (/-4-/first | (have o1 := gz_sh f15; omega) | (simp only [gz_hd] at *; omega))⟩ (fun c16 => ?_) (fun c16 => ?_)
    · show gv_X _ _ (105, [(4, .inr (.inl z8)), (0, .inr (.inr (some 0))), (3, .inr (.inr (some (t + 3))))], [], sh, gc_h sh I12 J10 A)
      refine gv_run 2 true hD (pcₚ := 108) (lvₚ := [(4, .inr (.inl z8)), (0, .inr (.inr (some 0))), (3, .inr (.inr (some (t + 3))))]) (stₚ := [.inr (.inl z8), .inr (.inr (some (t + 3)))]) (hₚ := gc_h sh I12 J10 A) (C := ((True ∧ True) ∧ True)) rfl ⟨⟨trivial, trivial⟩, trivial⟩ ?_
      obtain ⟨r17, h17, E17, P17⟩ := d_X4_find (ws0 := ws0) (tb := tb) hws htb sh ro I12 J10 A hI12 (t + 3) 48 10 z8 h_t_3     
      obtain ⟨rfl, ⟨z17, rfl, q17⟩⟩ := P17
      replace q17 := gz_hi q17
      refine gv_callV hD rfl (As := [.inr (.inl z8)]) (st := []) rfl (gz_sh B_t_3) S_t_3 rfl (gc_lV12 hws rfl) (Nat.le_of_ble_eq_true rfl) (gz_Ev_mono (d := 1) (by decide) E17) ?_
      show gv_X _ _ (111, [(4, .inr (.inl z8)), (0, .inr (.inr (some 0))), (3, .inr (.inr (some (t + 3))))], [.inl z17], sh, gc_h sh I12 J10 A)
      refine gv_pick [] rfl ?_
      exact L111 I12 J10 z17 hI12 FI12 FJ10 (by (/-5-/first | (and_intros; (have o1 := gz_sh q17; omega); (have o1 := gz_sh q17; omega); (omega)) | (simp only [gz_hd] at *; omega)))
    · show gv_X _ _ (101, [(4, .inr (.inl z8)), (0, .inr (.inr (some 0))), (3, .inr (.inr (some (t + 3))))], [], sh, gc_h sh I12 J10 A)
      refine gv_run 2 true hD (pcₚ := 111) (lvₚ := [(4, .inr (.inl z8)), (0, .inr (.inr (some 0))), (3, .inr (.inr (some (t + 3))))]) (stₚ := [.inl (-1)]) (hₚ := gc_h sh I12 J10 A) (C := ((True ∧ True) ∧ True)) rfl ⟨⟨trivial, trivial⟩, trivial⟩ ?_
      refine gv_pick [] rfl ?_
      exact L111 I12 J10 (-1) hI12 FI12 FJ10 (by (/-6-/first | (and_intros <;> omega) | (simp only [gz_hd] at *; omega)))
  refine gv_run 1 true hD (pcₚ := 1) (lvₚ := [(0, .inr (.inr (some 0))), (1, .inl a1), (2, .inl a2)]) (stₚ := [.inl a2]) (hₚ := gc_h sh I J A) (C := (True ∧ True)) rfl ⟨trivial, trivial⟩ ?_
  refine gv_if_lt (t := 9) hD rfl rfl ⟨by (/-7-/first | omega | (simp only [gz_hd] at *; omega)), by (/-8-/first | omega | (simp only [gz_hd] at *; omega))⟩ (fun c18 => ?_) (fun c18 => ?_)
  · exfalso; (/-9-/first | omega | (simp only [gz_hd] at *; omega))
  · show gv_X _ _ (4, [(0, .inr (.inr (some 0))), (1, .inl a1), (2, .inl a2)], [], sh, gc_h sh I J A)
    refine gv_run 2 true hD (pcₚ := 6) (lvₚ := [(0, .inr (.inr (some 0))), (1, .inl a1), (2, .inl a2)]) (stₚ := [.inl 5, .inl a2]) (hₚ := gc_h sh I J A) (C := ((True ∧ True) ∧ True)) rfl ⟨⟨trivial, trivial⟩, trivial⟩ ?_
    refine gv_icmp_le (t := 19) hD rfl rfl ⟨⟨by (/-10-/first | omega | (simp only [gz_hd] at *; omega)), by (/-11-/first | omega | (simp only [gz_hd] at *; omega))⟩, ⟨by (/-12-/first | omega | (simp only [gz_hd] at *; omega)), by (/-13-/first | omega | (simp only [gz_hd] at *; omega))⟩⟩ (fun c19 => ?_) (fun c19 => ?_)
    · show gv_X _ _ (19, [(0, .inr (.inr (some 0))), (1, .inl a1), (2, .inl a2)], [], sh, gc_h sh I J A)
      refine gv_run 1 true hD (pcₚ := 20) (lvₚ := [(0, .inr (.inr (some 0))), (1, .inl a1), (2, .inl a2)]) (stₚ := [.inr (.inr (some 0))]) (hₚ := gc_h sh I J A) (C := (True ∧ True)) rfl ⟨trivial, trivial⟩ ?_
      refine gv_get hD rfl rfl S_0 ⟨by decide, (gz_sh B_0)⟩ (gc_hA S_0 rfl A_0_0) ?_
      show gv_X _ _ (23, [(0, .inr (.inr (some 0))), (1, .inl a1), (2, .inl a2)], [.inr (.inr (some 1))], sh, gc_h sh I J A)
      refine gv_get hD rfl rfl S_1 ⟨by decide, (gz_sh B_1)⟩ (gc_hA S_1 rfl A_1_0) ?_
      show gv_X _ _ (26, [(0, .inr (.inr (some 0))), (1, .inl a1), (2, .inl a2)], [.inr (.inr (some 2))], sh, gc_h sh I J A)
      refine gv_run 2 true hD (pcₚ := 28) (lvₚ := [(3, .inr (.inr (some 2))), (0, .inr (.inr (some 0))), (1, .inl a1), (2, .inl a2)]) (stₚ := [.inl a2]) (hₚ := gc_h sh I J A) (C := ((True ∧ True) ∧ True)) rfl ⟨⟨trivial, trivial⟩, trivial⟩ ?_
      refine gv_if_ne (t := 42) hD rfl rfl ⟨by (/-14-/first | omega | (simp only [gz_hd] at *; omega)), by (/-15-/first | omega | (simp only [gz_hd] at *; omega))⟩ (fun c20 => ?_) (fun c20 => ?_)
      · show gv_X _ _ (42, [(3, .inr (.inr (some 2))), (0, .inr (.inr (some 0))), (1, .inl a1), (2, .inl a2)], [], sh, gc_h sh I J A)
        refine gv_run 2 true hD (pcₚ := 44) (lvₚ := [(3, .inr (.inr (some 2))), (0, .inr (.inr (some 0))), (1, .inl a1), (2, .inl a2)]) (stₚ := [.inl 2, .inl a2]) (hₚ := gc_h sh I J A) (C := ((True ∧ True) ∧ True)) rfl ⟨⟨trivial, trivial⟩, trivial⟩ ?_
        refine gv_icmp_ne (t := 58) hD rfl rfl ⟨⟨by (/-16-/first | omega | (simp only [gz_hd] at *; omega)), by (/-17-/first | omega | (simp only [gz_hd] at *; omega))⟩, ⟨by (/-18-/first | omega | (simp only [gz_hd] at *; omega)), by (/-19-/first | omega | (simp only [gz_hd] at *; omega))⟩⟩ (fun c21 => ?_) (fun c21 => ?_)
        · show gv_X _ _ (58, [(3, .inr (.inr (some 2))), (0, .inr (.inr (some 0))), (1, .inl a1), (2, .inl a2)], [], sh, gc_h sh I J A)
          refine gv_run 2 true hD (pcₚ := 60) (lvₚ := [(3, .inr (.inr (some 2))), (0, .inr (.inr (some 0))), (1, .inl a1), (2, .inl a2)]) (stₚ := [.inl 2, .inl a2]) (hₚ := gc_h sh I J A) (C := ((True ∧ True) ∧ True)) rfl ⟨⟨trivial, trivial⟩, trivial⟩ ?_
          refine gv_icmp_le (t := 77) hD rfl rfl ⟨⟨by (/-20-/first | omega | (simp only [gz_hd] at *; omega)), by (/-21-/first | omega | (simp only [gz_hd] at *; omega))⟩, ⟨by (/-22-/first | omega | (simp only [gz_hd] at *; omega)), by (/-23-/first | omega | (simp only [gz_hd] at *; omega))⟩⟩ (fun c22 => ?_) (fun c22 => ?_)
          · exfalso; (/-24-/first | omega | (simp only [gz_hd] at *; omega))
          · show gv_X _ _ (63, [(3, .inr (.inr (some 2))), (0, .inr (.inr (some 0))), (1, .inl a1), (2, .inl a2)], [], sh, gc_h sh I J A)
            refine gv_run 2 true hD (pcₚ := 65) (lvₚ := [(3, .inr (.inr (some 2))), (0, .inr (.inr (some 0))), (1, .inl a1), (2, .inl a2)]) (stₚ := [.inl a1, .inr (.inr (some 0))]) (hₚ := gc_h sh I J A) (C := ((True ∧ True) ∧ True)) rfl ⟨⟨trivial, trivial⟩, trivial⟩ ?_
            refine gv_callV hD rfl (As := [.inl a1]) (st := []) rfl (gz_sh B_0) S_0 rfl (gc_lV12 hws rfl) (Nat.le_of_ble_eq_true rfl) (gz_Ev_mono (d := 1) (by decide) (d_X12_tongueAt hws htb (J := J) hI hb (by (/-25-/first | omega | (simp only [gz_hd] at *; omega))) (by (/-26-/first | omega | (simp only [gz_hd] at *; omega))) x1)) ?_
            show gv_X _ _ (68, [(3, .inr (.inr (some 2))), (0, .inr (.inr (some 0))), (1, .inl a1), (2, .inl a2)], [.inr (.inr (some t))], sh, gc_h sh I J A)
            refine gv_run 3 true hD (pcₚ := 73) (lvₚ := [(4, .inr (.inr (some t))), (3, .inr (.inr (some 2))), (0, .inr (.inr (some 0))), (1, .inl a1), (2, .inl a2)]) (stₚ := [.inl a2, .inr (.inr (some t))]) (hₚ := gc_h sh I J A) (C := (((True ∧ True) ∧ True) ∧ True)) rfl ⟨⟨⟨trivial, trivial⟩, trivial⟩, trivial⟩ ?_
            refine gv_callV hD rfl (As := [.inl a2]) (st := []) rfl (gz_sh B_t) S_t rfl (gc_lV12 hws rfl) (Nat.le_of_ble_eq_true rfl) (gz_Ev_mono (d := 1) (by decide) (d_X11_namesOf_4q htb (J := J) h_t (a2 := a2) (by (/-27-/first | omega | (simp only [gz_hd] at *; omega))))) ?_
            show gv_X _ _ (76, [(4, .inr (.inr (some t))), (3, .inr (.inr (some 2))), (0, .inr (.inr (some 0))), (1, .inl a1), (2, .inl a2)], [.inr (.inr (some (t + 3)))], sh, gc_h sh I J A)
            refine gv_run 1 true hD (pcₚ := 77) (lvₚ := [(3, .inr (.inr (some (t + 3)))), (4, .inr (.inr (some t))), (0, .inr (.inr (some 0))), (1, .inl a1), (2, .inl a2)]) (stₚ := []) (hₚ := gc_h sh I J A) (C := (True ∧ True)) rfl ⟨trivial, trivial⟩ ?_
            refine gv_pick [2, 0] rfl ?_
            exact L77 
        · exfalso; (/-28-/first | omega | (simp only [gz_hd] at *; omega))
      · exfalso; (/-29-/first | omega | (simp only [gz_hd] at *; omega))
    · exfalso; (/-30-/first | omega | (simp only [gz_hd] at *; omega))
set_option maxHeartbeats 8000000 in
set_option maxRecDepth 100000 in
theorem d_X12_number_5 {ws0 : List Cond} {tb : String → gz_T} (hws : gc_Ws ws0) (htb : gc_tbs tb) (sh : gz_Sh) (ro : Nat → Nat) (I : gr_I) (J : gr_J) (A : gc_A) (hI : gc_Inv ro I) (t : Nat) (a1 : Int) (a2 : Int) (hb : gc_Base sh ro A) (h_t : gc_isTongue sh ro A t) (G_t : 144 ≤ t) (ha1 : 0 ≤ a1 ∧ a1 ≤ 7) (ha2 : 5 ≤ a2 ∧ a2 ≤ 5) (x0 : 0 ≤ a1 ∧ a1 < I 8 1) (x1 : A 10 (Int.toNat a1) = some t) : ∃ r hₚ, gz_Ev ws0 tb 5 (yX12_number, cX12_number, 6, (some .int)) [.inr (.inr (some 0)), .inl a1, .inl a2] sh (gc_h sh I J A) r sh hₚ 0 0 ∧ (∃ (Iₚ : gr_I) (Jₚ : gr_J), hₚ = gc_h sh Iₚ Jₚ A ∧ gc_Inv ro Iₚ ∧ (∀ q j : Nat, ((q = 23 ∧ j = 1) ∨ (q = 23 ∧ j = 5) ∨ (q = 23 ∧ j = 6) ∨ (q = 23 ∧ j = 7) ∨ (q = 23 ∧ j = 8)) ∨ Iₚ q j = I q j) ∧ (∀ q j : Nat, ((q = 23 ∧ j = 9)) ∨ Jₚ q j = J q j) ∧ (∃ z : Int, r = some (.inl z) ∧ (-1) ≤ z ∧ z ≤ 399 ∧ (Iₚ 23 1 = 0))) := by
  have FI : ∀ q j : Nat, ((q = 23 ∧ j = 1) ∨ (q = 23 ∧ j = 5) ∨ (q = 23 ∧ j = 6) ∨ (q = 23 ∧ j = 7) ∨ (q = 23 ∧ j = 8)) ∨ I q j = I q j := fun _ _ => Or.inr rfl
  have FJ : ∀ q j : Nat, ((q = 23 ∧ j = 9)) ∨ J q j = J q j := fun _ _ => Or.inr rfl
  have A_0_0 : A 0 0 = some 1 := gc_bA_0_0 hb
  have A_0_1 : A 0 1 = some 23 := gc_bA_0_1 hb
  have A_1_0 : A 1 0 = some 2 := gc_bA_1_0 hb
  have B_0 := gz_hi (show 0 < 1000000 from by decide)
  have B_1 := gz_hi (show 1 < 1000000 from by decide)
  have B_23 := gz_hi (show 23 < 1000000 from by decide)
  have R_23 := gz_hi (show ro 23 = 3 from gc_bR_23 hb)
  have S_0 : sh[0]? = some (false, 12, 17) := gc_bS_0 hb
  have S_1 : sh[1]? = some (false, 8, 21) := gc_bS_1 hb
  have S_23 : sh[23]? = some (false, 9, 10) := gc_bS_23 hb
  obtain ⟨S_t, R_t, B_t, A_t_0, h_t_1, A_t_1, h_t_3, A_t_2, S_t_5, R_t_5, B_t_5, A_t_3, S_t_6, R_t_6, B_t_6, A_t_4, h_t_7, A_t_5, S_t_9, R_t_9, B_t_9, A_t_7, S_t_10, R_t_10, B_t_10, A_t_8, h_t_11, A_t_9, S_t_13, R_t_13, B_t_13, A_t_10, S_t_14, R_t_14, B_t_14, A_t_12, S_t_15, R_t_15, B_t_15, A_t_14, S_t_16, R_t_16, B_t_16, A_t_15, h_t_17⟩ := id h_t
  replace R_t := gz_hi R_t
  replace B_t := gz_hi B_t
  replace R_t_5 := gz_hi R_t_5
  replace B_t_5 := gz_hi B_t_5
  replace R_t_6 := gz_hi R_t_6
  replace B_t_6 := gz_hi B_t_6
  replace R_t_9 := gz_hi R_t_9
  replace B_t_9 := gz_hi B_t_9
  replace R_t_10 := gz_hi R_t_10
  replace B_t_10 := gz_hi B_t_10
  replace R_t_13 := gz_hi R_t_13
  replace B_t_13 := gz_hi B_t_13
  replace R_t_14 := gz_hi R_t_14
  replace B_t_14 := gz_hi B_t_14
  replace R_t_15 := gz_hi R_t_15
  replace B_t_15 := gz_hi B_t_15
  replace R_t_16 := gz_hi R_t_16
  replace B_t_16 := gz_hi B_t_16
  obtain ⟨S_t_1, R_t_1, B_t_1, A_t_1_0, S_t_1_1, R_t_1_1, B_t_1_1, Q0_t_1, Q1_t_1, Q2_t_1⟩ := id h_t_1
  replace R_t_1 := gz_hi R_t_1
  replace B_t_1 := gz_hi B_t_1
  replace R_t_1_1 := gz_hi R_t_1_1
  replace B_t_1_1 := gz_hi B_t_1_1
  obtain ⟨S_t_3, R_t_3, B_t_3, A_t_3_0, S_t_3_1, R_t_3_1, B_t_3_1, Q0_t_3, Q1_t_3, Q2_t_3⟩ := id h_t_3
  replace R_t_3 := gz_hi R_t_3
  replace B_t_3 := gz_hi B_t_3
  replace R_t_3_1 := gz_hi R_t_3_1
  replace B_t_3_1 := gz_hi B_t_3_1
  obtain ⟨S_t_7, R_t_7, B_t_7, A_t_7_0, S_t_7_1, R_t_7_1, B_t_7_1, Q0_t_7, Q1_t_7, Q2_t_7⟩ := id h_t_7
  replace R_t_7 := gz_hi R_t_7
  replace B_t_7 := gz_hi B_t_7
  replace R_t_7_1 := gz_hi R_t_7_1
  replace B_t_7_1 := gz_hi B_t_7_1
  obtain ⟨S_t_11, R_t_11, B_t_11, A_t_11_0, S_t_11_1, R_t_11_1, B_t_11_1, Q0_t_11, Q1_t_11, Q2_t_11⟩ := id h_t_11
  replace R_t_11 := gz_hi R_t_11
  replace B_t_11 := gz_hi B_t_11
  replace R_t_11_1 := gz_hi R_t_11_1
  replace B_t_11_1 := gz_hi B_t_11_1
  obtain ⟨S_t_17, R_t_17, B_t_17, A_t_17_0, S_20, R_20, B_20, A_t_17_1, S_t_17_1, R_t_17_1, B_t_17_1, A_t_17_2, S_t_17_2, R_t_17_2, B_t_17_2, A_t_17_3, S_t_17_3, R_t_17_3, B_t_17_3, A_t_17_4, S_t_17_4, R_t_17_4, B_t_17_4, A_t_17_5, S_t_17_5, R_t_17_5, B_t_17_5, S_t_17_6, R_t_17_6, B_t_17_6, S_t_17_7, R_t_17_7, B_t_17_7⟩ := id h_t_17
  replace R_t_17 := gz_hi R_t_17
  replace B_t_17 := gz_hi B_t_17
  replace R_20 := gz_hi R_20
  replace B_20 := gz_hi B_20
  replace R_t_17_1 := gz_hi R_t_17_1
  replace B_t_17_1 := gz_hi B_t_17_1
  replace R_t_17_2 := gz_hi R_t_17_2
  replace B_t_17_2 := gz_hi B_t_17_2
  replace R_t_17_3 := gz_hi R_t_17_3
  replace B_t_17_3 := gz_hi B_t_17_3
  replace R_t_17_4 := gz_hi R_t_17_4
  replace B_t_17_4 := gz_hi B_t_17_4
  replace R_t_17_5 := gz_hi R_t_17_5
  replace B_t_17_5 := gz_hi B_t_17_5
  replace R_t_17_6 := gz_hi R_t_17_6
  replace B_t_17_6 := gz_hi B_t_17_6
  replace R_t_17_7 := gz_hi R_t_17_7
  replace B_t_17_7 := gz_hi B_t_17_7
  have hD : gv_D (gc_E12 ws0 tb 4 (yX12_number, cX12_number, 6, (some .int)) kX12_number) := gq_of oX12_number
  refine gc_ev12 (d := 4) (l := kX12_number) (Po := fun r hₚ => (∃ (Iₚ : gr_I) (Jₚ : gr_J), hₚ = gc_h sh Iₚ Jₚ A ∧ gc_Inv ro Iₚ ∧ (∀ q j : Nat, ((q = 23 ∧ j = 1) ∨ (q = 23 ∧ j = 5) ∨ (q = 23 ∧ j = 6) ∨ (q = 23 ∧ j = 7) ∨ (q = 23 ∧ j = 8)) ∨ Iₚ q j = I q j) ∧ (∀ q j : Nat, ((q = 23 ∧ j = 9)) ∨ Jₚ q j = J q j) ∧ (∃ z : Int, r = some (.inl z) ∧ (-1) ≤ z ∧ z ≤ 399 ∧ (Iₚ 23 1 = 0)))) htb rfl (Nat.le_of_ble_eq_true rfl) ?_
  have L77 : gv_X (gc_E12 ws0 tb 4 (yX12_number, cX12_number, 6, (some .int)) kX12_number) (gv_Q cX12_number (some .int) sh (fun r hₚ => (∃ (Iₚ : gr_I) (Jₚ : gr_J), hₚ = gc_h sh Iₚ Jₚ A ∧ gc_Inv ro Iₚ ∧ (∀ q j : Nat, ((q = 23 ∧ j = 1) ∨ (q = 23 ∧ j = 5) ∨ (q = 23 ∧ j = 6) ∨ (q = 23 ∧ j = 7) ∨ (q = 23 ∧ j = 8)) ∨ Iₚ q j = I q j) ∧ (∀ q j : Nat, ((q = 23 ∧ j = 9)) ∨ Jₚ q j = J q j) ∧ (∃ z : Int, r = some (.inl z) ∧ (-1) ≤ z ∧ z ≤ 399 ∧ (Iₚ 23 1 = 0))))) (77, [(0, .inr (.inr (some 0))), (3, .inr (.inr (some (t + 11))))], [], sh, gc_h sh I J A) := by
    have L111 : ∀ (I4 : gr_I) (J5 : gr_J) (s0_6 : Int), gc_Inv ro I4 → (∀ q j : Nat, ((q = 23 ∧ j = 1) ∨ (q = 23 ∧ j = 5) ∨ (q = 23 ∧ j = 6) ∨ (q = 23 ∧ j = 7) ∨ (q = 23 ∧ j = 8)) ∨ I4 q j = I q j) → (∀ q j : Nat, ((q = 23 ∧ j = 9)) ∨ J5 q j = J q j) → (((-1) ≤ s0_6 ∧ s0_6 ≤ 399) ∧ (I4 23 1 = 0)) → gv_X (gc_E12 ws0 tb 4 (yX12_number, cX12_number, 6, (some .int)) kX12_number) (gv_Q cX12_number (some .int) sh (fun r hₚ => (∃ (Iₚ : gr_I) (Jₚ : gr_J), hₚ = gc_h sh Iₚ Jₚ A ∧ gc_Inv ro Iₚ ∧ (∀ q j : Nat, ((q = 23 ∧ j = 1) ∨ (q = 23 ∧ j = 5) ∨ (q = 23 ∧ j = 6) ∨ (q = 23 ∧ j = 7) ∨ (q = 23 ∧ j = 8)) ∨ Iₚ q j = I q j) ∧ (∀ q j : Nat, ((q = 23 ∧ j = 9)) ∨ Jₚ q j = J q j) ∧ (∃ z : Int, r = some (.inl z) ∧ (-1) ≤ z ∧ z ≤ 399 ∧ (Iₚ 23 1 = 0))))) (111, [], [.inl s0_6], sh, gc_h sh I4 J5 A) := by
      intro I4 J5 s0_6 hI4 FI4 FJ5 m_6
      skip
      obtain ⟨hs0_6, e0_6⟩ := gz_h2 m_6
      exact gv_iret hD rfl ⟨I4, J5, rfl, hI4, FI4, FJ5, ⟨_, rfl, by (/-0-/first | (and_intros; (have o1 := gz_sh hs0_6; omega); (have o1 := gz_sh hs0_6; omega); (have o1 := gz_sh e0_6; omega)) | (simp only [gz_hd] at *; omega))⟩⟩
    refine gv_run 1 true hD (pcₚ := 78) (lvₚ := [(0, .inr (.inr (some 0))), (3, .inr (.inr (some (t + 11))))]) (stₚ := [.inr (.inr (some 0))]) (hₚ := gc_h sh I J A) (C := (True ∧ True)) rfl ⟨trivial, trivial⟩ ?_
    refine gv_get hD rfl rfl S_0 ⟨by decide, (gz_sh B_0)⟩ (gc_hA S_0 rfl A_0_1) ?_
    show gv_X _ _ (81, [(0, .inr (.inr (some 0))), (3, .inr (.inr (some (t + 11))))], [.inr (.inr (some 23))], sh, gc_h sh I J A)
    obtain ⟨r8, h8, E8, P8⟩ := d_X9_onlyName (ws0 := ws0) (tb := tb) hws htb sh ro I J A hI 23  (gc_b23 hb)     
    obtain ⟨I9, J10, rfl, hI9, g8, k8, ⟨z8, rfl, V8_0, V8_1, V8_2, V8_3, V8_4, q8⟩⟩ := P8
    replace q8 := gz_hi q8
    have FI9 := gc_frc (W := fun q j => (q = 23 ∧ j = 1) ∨ (q = 23 ∧ j = 5) ∨ (q = 23 ∧ j = 6) ∨ (q = 23 ∧ j = 7) ∨ (q = 23 ∧ j = 8)) (V := fun q j => (q = 23 ∧ j = 5) ∨ (q = 23 ∧ j = 6) ∨ (q = 23 ∧ j = 7) ∨ (q = 23 ∧ j = 8)) FI (fun q j h => (h.elim (fun h => (Or.inr (Or.inl h))) (fun h => (h.elim (fun h => (Or.inr (Or.inr (Or.inl h)))) (fun h => (h.elim (fun h => (Or.inr (Or.inr (Or.inr (Or.inl h))))) (fun h => (Or.inr (Or.inr (Or.inr (Or.inr h))))))))))) g8
    have FJ10 := gc_frc (W := fun q j => (q = 23 ∧ j = 9)) (V := fun q j => (q = 23 ∧ j = 9)) FJ (fun q j h => h) k8
    refine gv_callV hD rfl (As := []) (st := []) rfl (gz_sh B_23) S_23 rfl (gc_lV12 hws rfl) (Nat.le_of_ble_eq_true rfl) (gz_Ev_mono (d := 4) (by decide) E8) ?_
    show gv_X _ _ (84, [(0, .inr (.inr (some 0))), (3, .inr (.inr (some (t + 11))))], [.inr (.inl z8)], sh, gc_h sh I9 J10 A)
    refine gv_run 2 true hD (pcₚ := 87) (lvₚ := [(4, .inr (.inl z8)), (0, .inr (.inr (some 0))), (3, .inr (.inr (some (t + 11))))]) (stₚ := [.inr (.inr (some 0))]) (hₚ := gc_h sh I9 J10 A) (C := ((True ∧ True) ∧ True)) rfl ⟨⟨trivial, trivial⟩, trivial⟩ ?_
    refine gv_get hD rfl rfl S_0 ⟨by decide, (gz_sh B_0)⟩ (gc_hA S_0 rfl A_0_1) ?_
    show gv_X _ _ (90, [(4, .inr (.inl z8)), (0, .inr (.inr (some 0))), (3, .inr (.inr (some (t + 11))))], [.inr (.inr (some 23))], sh, gc_h sh I9 J10 A)
    refine gv_run 1 true hD (pcₚ := 91) (lvₚ := [(4, .inr (.inl z8)), (0, .inr (.inr (some 0))), (3, .inr (.inr (some (t + 11))))]) (stₚ := [.inl 0, .inr (.inr (some 23))]) (hₚ := gc_h sh I9 J10 A) (C := (True ∧ True)) rfl ⟨trivial, trivial⟩ ?_
    refine gv_put hD rfl rfl S_23 ⟨by decide, (gz_sh B_23)⟩ rfl trivial ?_
    refine gc_st (k := 1) hI9 S_23 rfl (gz_sh R_23) (lo := 0) (hi := 1000) rfl rfl (by (/-1-/first | omega | (simp only [gz_hd] at *; omega))) (by (/-2-/first | omega | (simp only [gz_hd] at *; omega))) (fun I12 hI12 q13 p13 => ?_)
    have FI12 := gc_frs (W := fun q j => (q = 23 ∧ j = 1) ∨ (q = 23 ∧ j = 5) ∨ (q = 23 ∧ j = 6) ∨ (q = 23 ∧ j = 7) ∨ (q = 23 ∧ j = 8)) FI9 (Or.inl ⟨rfl, rfl⟩) p13
    show gv_X _ _ (94, [(4, .inr (.inl z8)), (0, .inr (.inr (some 0))), (3, .inr (.inr (some (t + 11))))], [], sh, gc_h sh I12 J10 A)
    have f15 := gz_hi (gw_cmp (z8) ((Int64.ofNat 0)))
    refine gv_run 3 true hD (pcₚ := 98) (lvₚ := [(4, .inr (.inl z8)), (0, .inr (.inr (some 0))), (3, .inr (.inr (some (t + 11))))]) (stₚ := [.inl ((lg_cmp (z8) ((Int64.ofNat 0))).toInt)]) (hₚ := gc_h sh I12 J10 A) (C := (((True ∧ True) ∧ True) ∧ True)) rfl ⟨⟨⟨trivial, trivial⟩, trivial⟩, trivial⟩ ?_
    refine gv_if_ne (t := 105) hD rfl rfl ⟨by (/-3-/first | (have o1 := gz_sh f15; omega) | (simp only [gz_hd] at *; omega)), by (/-4-/first | (have o1 := gz_sh f15; omega) | (simp only [gz_hd] at *; omega))⟩ (fun c16 => ?_) (fun c16 => ?_)
    · show gv_X _ _ (105, [(4, .inr (.inl z8)), (0, .inr (.inr (some 0))), (3, .inr (.inr (some (t + 11))))], [], sh, gc_h sh I12 J10 A)
      refine gv_run 2 true hD (pcₚ := 108) (lvₚ := [(4, .inr (.inl z8)), (0, .inr (.inr (some 0))), (3, .inr (.inr (some (t + 11))))]) (stₚ := [.inr (.inl z8), .inr (.inr (some (t + 11)))]) (hₚ := gc_h sh I12 J10 A) (C := ((True ∧ True) ∧ True)) rfl ⟨⟨trivial, trivial⟩, trivial⟩ ?_
      obtain ⟨r17, h17, E17, P17⟩ := d_X4_find (ws0 := ws0) (tb := tb) hws htb sh ro I12 J10 A hI12 (t + 11) 24 8 z8 h_t_11     
      obtain ⟨rfl, ⟨z17, rfl, q17⟩⟩ := P17
      replace q17 := gz_hi q17
      refine gv_callV hD rfl (As := [.inr (.inl z8)]) (st := []) rfl (gz_sh B_t_11) S_t_11 rfl (gc_lV12 hws rfl) (Nat.le_of_ble_eq_true rfl) (gz_Ev_mono (d := 1) (by decide) E17) ?_
      show gv_X _ _ (111, [(4, .inr (.inl z8)), (0, .inr (.inr (some 0))), (3, .inr (.inr (some (t + 11))))], [.inl z17], sh, gc_h sh I12 J10 A)
      refine gv_pick [] rfl ?_
      exact L111 I12 J10 z17 hI12 FI12 FJ10 (by (/-5-/first | (and_intros; (have o1 := gz_sh q17; omega); (have o1 := gz_sh q17; omega); (omega)) | (simp only [gz_hd] at *; omega)))
    · show gv_X _ _ (101, [(4, .inr (.inl z8)), (0, .inr (.inr (some 0))), (3, .inr (.inr (some (t + 11))))], [], sh, gc_h sh I12 J10 A)
      refine gv_run 2 true hD (pcₚ := 111) (lvₚ := [(4, .inr (.inl z8)), (0, .inr (.inr (some 0))), (3, .inr (.inr (some (t + 11))))]) (stₚ := [.inl (-1)]) (hₚ := gc_h sh I12 J10 A) (C := ((True ∧ True) ∧ True)) rfl ⟨⟨trivial, trivial⟩, trivial⟩ ?_
      refine gv_pick [] rfl ?_
      exact L111 I12 J10 (-1) hI12 FI12 FJ10 (by (/-6-/first | (and_intros <;> omega) | (simp only [gz_hd] at *; omega)))
  refine gv_run 1 true hD (pcₚ := 1) (lvₚ := [(0, .inr (.inr (some 0))), (1, .inl a1), (2, .inl a2)]) (stₚ := [.inl a2]) (hₚ := gc_h sh I J A) (C := (True ∧ True)) rfl ⟨trivial, trivial⟩ ?_
  refine gv_if_lt (t := 9) hD rfl rfl ⟨by (/-7-/first | omega | (simp only [gz_hd] at *; omega)), by (/-8-/first | omega | (simp only [gz_hd] at *; omega))⟩ (fun c18 => ?_) (fun c18 => ?_)
  · exfalso; (/-9-/first | omega | (simp only [gz_hd] at *; omega))
  · show gv_X _ _ (4, [(0, .inr (.inr (some 0))), (1, .inl a1), (2, .inl a2)], [], sh, gc_h sh I J A)
    refine gv_run 2 true hD (pcₚ := 6) (lvₚ := [(0, .inr (.inr (some 0))), (1, .inl a1), (2, .inl a2)]) (stₚ := [.inl 5, .inl a2]) (hₚ := gc_h sh I J A) (C := ((True ∧ True) ∧ True)) rfl ⟨⟨trivial, trivial⟩, trivial⟩ ?_
    refine gv_icmp_le (t := 19) hD rfl rfl ⟨⟨by (/-10-/first | omega | (simp only [gz_hd] at *; omega)), by (/-11-/first | omega | (simp only [gz_hd] at *; omega))⟩, ⟨by (/-12-/first | omega | (simp only [gz_hd] at *; omega)), by (/-13-/first | omega | (simp only [gz_hd] at *; omega))⟩⟩ (fun c19 => ?_) (fun c19 => ?_)
    · show gv_X _ _ (19, [(0, .inr (.inr (some 0))), (1, .inl a1), (2, .inl a2)], [], sh, gc_h sh I J A)
      refine gv_run 1 true hD (pcₚ := 20) (lvₚ := [(0, .inr (.inr (some 0))), (1, .inl a1), (2, .inl a2)]) (stₚ := [.inr (.inr (some 0))]) (hₚ := gc_h sh I J A) (C := (True ∧ True)) rfl ⟨trivial, trivial⟩ ?_
      refine gv_get hD rfl rfl S_0 ⟨by decide, (gz_sh B_0)⟩ (gc_hA S_0 rfl A_0_0) ?_
      show gv_X _ _ (23, [(0, .inr (.inr (some 0))), (1, .inl a1), (2, .inl a2)], [.inr (.inr (some 1))], sh, gc_h sh I J A)
      refine gv_get hD rfl rfl S_1 ⟨by decide, (gz_sh B_1)⟩ (gc_hA S_1 rfl A_1_0) ?_
      show gv_X _ _ (26, [(0, .inr (.inr (some 0))), (1, .inl a1), (2, .inl a2)], [.inr (.inr (some 2))], sh, gc_h sh I J A)
      refine gv_run 2 true hD (pcₚ := 28) (lvₚ := [(3, .inr (.inr (some 2))), (0, .inr (.inr (some 0))), (1, .inl a1), (2, .inl a2)]) (stₚ := [.inl a2]) (hₚ := gc_h sh I J A) (C := ((True ∧ True) ∧ True)) rfl ⟨⟨trivial, trivial⟩, trivial⟩ ?_
      refine gv_if_ne (t := 42) hD rfl rfl ⟨by (/-14-/first | omega | (simp only [gz_hd] at *; omega)), by (/-15-/first | omega | (simp only [gz_hd] at *; omega))⟩ (fun c20 => ?_) (fun c20 => ?_)
      · show gv_X _ _ (42, [(3, .inr (.inr (some 2))), (0, .inr (.inr (some 0))), (1, .inl a1), (2, .inl a2)], [], sh, gc_h sh I J A)
        refine gv_run 2 true hD (pcₚ := 44) (lvₚ := [(3, .inr (.inr (some 2))), (0, .inr (.inr (some 0))), (1, .inl a1), (2, .inl a2)]) (stₚ := [.inl 2, .inl a2]) (hₚ := gc_h sh I J A) (C := ((True ∧ True) ∧ True)) rfl ⟨⟨trivial, trivial⟩, trivial⟩ ?_
        refine gv_icmp_ne (t := 58) hD rfl rfl ⟨⟨by (/-16-/first | omega | (simp only [gz_hd] at *; omega)), by (/-17-/first | omega | (simp only [gz_hd] at *; omega))⟩, ⟨by (/-18-/first | omega | (simp only [gz_hd] at *; omega)), by (/-19-/first | omega | (simp only [gz_hd] at *; omega))⟩⟩ (fun c21 => ?_) (fun c21 => ?_)
        · show gv_X _ _ (58, [(3, .inr (.inr (some 2))), (0, .inr (.inr (some 0))), (1, .inl a1), (2, .inl a2)], [], sh, gc_h sh I J A)
          refine gv_run 2 true hD (pcₚ := 60) (lvₚ := [(3, .inr (.inr (some 2))), (0, .inr (.inr (some 0))), (1, .inl a1), (2, .inl a2)]) (stₚ := [.inl 2, .inl a2]) (hₚ := gc_h sh I J A) (C := ((True ∧ True) ∧ True)) rfl ⟨⟨trivial, trivial⟩, trivial⟩ ?_
          refine gv_icmp_le (t := 77) hD rfl rfl ⟨⟨by (/-20-/first | omega | (simp only [gz_hd] at *; omega)), by (/-21-/first | omega | (simp only [gz_hd] at *; omega))⟩, ⟨by (/-22-/first | omega | (simp only [gz_hd] at *; omega)), by (/-23-/first | omega | (simp only [gz_hd] at *; omega))⟩⟩ (fun c22 => ?_) (fun c22 => ?_)
          · exfalso; (/-24-/first | omega | (simp only [gz_hd] at *; omega))
          · show gv_X _ _ (63, [(3, .inr (.inr (some 2))), (0, .inr (.inr (some 0))), (1, .inl a1), (2, .inl a2)], [], sh, gc_h sh I J A)
            refine gv_run 2 true hD (pcₚ := 65) (lvₚ := [(3, .inr (.inr (some 2))), (0, .inr (.inr (some 0))), (1, .inl a1), (2, .inl a2)]) (stₚ := [.inl a1, .inr (.inr (some 0))]) (hₚ := gc_h sh I J A) (C := ((True ∧ True) ∧ True)) rfl ⟨⟨trivial, trivial⟩, trivial⟩ ?_
            refine gv_callV hD rfl (As := [.inl a1]) (st := []) rfl (gz_sh B_0) S_0 rfl (gc_lV12 hws rfl) (Nat.le_of_ble_eq_true rfl) (gz_Ev_mono (d := 1) (by decide) (d_X12_tongueAt hws htb (J := J) hI hb (by (/-25-/first | omega | (simp only [gz_hd] at *; omega))) (by (/-26-/first | omega | (simp only [gz_hd] at *; omega))) x1)) ?_
            show gv_X _ _ (68, [(3, .inr (.inr (some 2))), (0, .inr (.inr (some 0))), (1, .inl a1), (2, .inl a2)], [.inr (.inr (some t))], sh, gc_h sh I J A)
            refine gv_run 3 true hD (pcₚ := 73) (lvₚ := [(4, .inr (.inr (some t))), (3, .inr (.inr (some 2))), (0, .inr (.inr (some 0))), (1, .inl a1), (2, .inl a2)]) (stₚ := [.inl a2, .inr (.inr (some t))]) (hₚ := gc_h sh I J A) (C := (((True ∧ True) ∧ True) ∧ True)) rfl ⟨⟨⟨trivial, trivial⟩, trivial⟩, trivial⟩ ?_
            refine gv_callV hD rfl (As := [.inl a2]) (st := []) rfl (gz_sh B_t) S_t rfl (gc_lV12 hws rfl) (Nat.le_of_ble_eq_true rfl) (gz_Ev_mono (d := 1) (by decide) (d_X11_namesOf_5q htb (J := J) h_t (a2 := a2) (by (/-27-/first | omega | (simp only [gz_hd] at *; omega))))) ?_
            show gv_X _ _ (76, [(4, .inr (.inr (some t))), (3, .inr (.inr (some 2))), (0, .inr (.inr (some 0))), (1, .inl a1), (2, .inl a2)], [.inr (.inr (some (t + 11)))], sh, gc_h sh I J A)
            refine gv_run 1 true hD (pcₚ := 77) (lvₚ := [(3, .inr (.inr (some (t + 11)))), (4, .inr (.inr (some t))), (0, .inr (.inr (some 0))), (1, .inl a1), (2, .inl a2)]) (stₚ := []) (hₚ := gc_h sh I J A) (C := (True ∧ True)) rfl ⟨trivial, trivial⟩ ?_
            refine gv_pick [2, 0] rfl ?_
            exact L77 
        · exfalso; (/-28-/first | omega | (simp only [gz_hd] at *; omega))
      · exfalso; (/-29-/first | omega | (simp only [gz_hd] at *; omega))
    · exfalso; (/-30-/first | omega | (simp only [gz_hd] at *; omega))
set_option maxHeartbeats 8000000 in
set_option maxRecDepth 100000 in
theorem d_X12_count_s {ws0 : List Cond} {tb : String → gz_T} (hws : gc_Ws ws0) (htb : gc_tbs tb) (sh : gz_Sh) (ro : Nat → Nat) (I : gr_I) (J : gr_J) (A : gc_A) (hI : gc_Inv ro I) (a1 : Int) (a2 : Int) (hb : gc_Base sh ro A) (ha1 : (-2147483648) ≤ a1 ∧ a1 ≤ 2147483647) (ha2 : 0 ≤ a2 ∧ a2 ≤ 7)  : ∃ r hₚ, gz_Ev ws0 tb 2 (yX12_count, cX12_count, 3, (some .int)) [.inr (.inr (some 0)), .inl a1, .inl a2] sh (gc_h sh I J A) r sh hₚ 0 0 ∧ (hₚ = gc_h sh I J A ∧ (∃ z : Int, r = some (.inl z) ∧ 0 ≤ z ∧ z ≤ 9000)) := by
  have A_0_0 : A 0 0 = some 1 := gc_bA_0_0 hb
  have A_0_10 : A 0 10 = some 100 := gc_bA_0_10 hb
  have A_0_6 : A 0 6 = some 48 := gc_bA_0_6 hb
  have B_0 := gz_hi (show 0 < 1000000 from by decide)
  have B_1 := gz_hi (show 1 < 1000000 from by decide)
  have B_100 := gz_hi (show 100 < 1000000 from by decide)
  have B_48 := gz_hi (show 48 < 1000000 from by decide)
  have R_100 := gz_hi (show ro 100 = 75 from gc_bR_100 hb)
  have R_48 := gz_hi (show ro 48 = 49 from gc_bR_48 hb)
  have S_0 : sh[0]? = some (false, 12, 17) := gc_bS_0 hb
  have S_1 : sh[1]? = some (false, 8, 21) := gc_bS_1 hb
  have S_100 : sh[100]? = some (false, 1, 19) := gc_bS_100 hb
  have S_48 : sh[48]? = some (false, 0, 22) := gc_bS_48 hb
  have hD : gv_D (gc_E12 ws0 tb 1 (yX12_count, cX12_count, 3, (some .int)) kX12_count) := gq_of oX12_count
  refine gc_ev12 (d := 1) (l := kX12_count) (Po := fun r hₚ => (hₚ = gc_h sh I J A ∧ (∃ z : Int, r = some (.inl z) ∧ 0 ≤ z ∧ z ≤ 9000))) htb rfl (Nat.le_of_ble_eq_true rfl) ?_
  refine gv_run 1 true hD (pcₚ := 1) (lvₚ := [(0, .inr (.inr (some 0))), (1, .inl a1), (2, .inl a2)]) (stₚ := [.inl a2]) (hₚ := gc_h sh I J A) (C := (True ∧ True)) rfl ⟨trivial, trivial⟩ ?_
  refine gv_if_lt (t := 10) hD rfl rfl ⟨by (/-0-/first | omega | (simp only [gz_hd] at *; omega)), by (/-1-/first | omega | (simp only [gz_hd] at *; omega))⟩ (fun c1 => ?_) (fun c1 => ?_)
  · exfalso; (/-2-/first | omega | (simp only [gz_hd] at *; omega))
  · show gv_X _ _ (4, [(0, .inr (.inr (some 0))), (1, .inl a1), (2, .inl a2)], [], sh, gc_h sh I J A)
    refine gv_run 2 true hD (pcₚ := 7) (lvₚ := [(0, .inr (.inr (some 0))), (1, .inl a1), (2, .inl a2)]) (stₚ := [.inl 14, .inl a2]) (hₚ := gc_h sh I J A) (C := ((True ∧ True) ∧ True)) rfl ⟨⟨trivial, trivial⟩, trivial⟩ ?_
    refine gv_icmp_le (t := 20) hD rfl rfl ⟨⟨by (/-3-/first | omega | (simp only [gz_hd] at *; omega)), by (/-4-/first | omega | (simp only [gz_hd] at *; omega))⟩, ⟨by (/-5-/first | omega | (simp only [gz_hd] at *; omega)), by (/-6-/first | omega | (simp only [gz_hd] at *; omega))⟩⟩ (fun c2 => ?_) (fun c2 => ?_)
    · show gv_X _ _ (20, [(0, .inr (.inr (some 0))), (1, .inl a1), (2, .inl a2)], [], sh, gc_h sh I J A)
      refine gv_run 2 true hD (pcₚ := 23) (lvₚ := [(0, .inr (.inr (some 0))), (1, .inl a1), (2, .inl a2)]) (stₚ := [.inl 8, .inl a2]) (hₚ := gc_h sh I J A) (C := ((True ∧ True) ∧ True)) rfl ⟨⟨trivial, trivial⟩, trivial⟩ ?_
      refine gv_icmp_lt (t := 36) hD rfl rfl ⟨⟨by (/-7-/first | omega | (simp only [gz_hd] at *; omega)), by (/-8-/first | omega | (simp only [gz_hd] at *; omega))⟩, ⟨by (/-9-/first | omega | (simp only [gz_hd] at *; omega)), by (/-10-/first | omega | (simp only [gz_hd] at *; omega))⟩⟩ (fun c3 => ?_) (fun c3 => ?_)
      · show gv_X _ _ (36, [(0, .inr (.inr (some 0))), (1, .inl a1), (2, .inl a2)], [], sh, gc_h sh I J A)
        refine gv_run 1 true hD (pcₚ := 37) (lvₚ := [(0, .inr (.inr (some 0))), (1, .inl a1), (2, .inl a2)]) (stₚ := [.inl a2]) (hₚ := gc_h sh I J A) (C := (True ∧ True)) rfl ⟨trivial, trivial⟩ ?_
        by_cases c4 : a2 = 5
        · refine gv_tabAt hD 5 rfl ⟨by (/-11-/first | omega | (simp only [gz_hd] at *; omega)), by (/-12-/first | omega | (simp only [gz_hd] at *; omega))⟩ c4 ⟨by decide, by decide⟩ rfl (t := 64) rfl ?_
          refine gv_run 1 true hD (pcₚ := 65) (lvₚ := [(0, .inr (.inr (some 0))), (1, .inl a1), (2, .inl a2)]) (stₚ := [.inr (.inr (some 0))]) (hₚ := gc_h sh I J A) (C := (True ∧ True)) rfl ⟨trivial, trivial⟩ ?_
          refine gv_get hD rfl rfl S_0 ⟨by decide, (gz_sh B_0)⟩ (gc_hA S_0 rfl A_0_6) ?_
          show gv_X _ _ (68, [(0, .inr (.inr (some 0))), (1, .inl a1), (2, .inl a2)], [.inr (.inr (some 48))], sh, gc_h sh I J A)
          have f5 := gz_hi ((gc_b_49_3 hI (gz_sh R_48)))
          refine gv_get hD rfl rfl S_48 ⟨by decide, (gz_sh B_48)⟩ (gc_hI S_48 rfl) ?_
          show gv_X _ _ (71, [(0, .inr (.inr (some 0))), (1, .inl a1), (2, .inl a2)], [.inl (I 48 3)], sh, gc_h sh I J A)
          exact gv_iret hD rfl ⟨rfl, ⟨_, rfl, by (/-13-/first | (and_intros; (have o1 := gz_sh f5; omega); (have o1 := gz_sh f5; omega)) | (simp only [gz_hd] at *; omega))⟩⟩
        by_cases c6 : a2 = 6
        · refine gv_tabAt hD 6 rfl ⟨by (/-14-/first | omega | (simp only [gz_hd] at *; omega)), by (/-15-/first | omega | (simp only [gz_hd] at *; omega))⟩ c6 ⟨by decide, by decide⟩ rfl (t := 72) rfl ?_
          refine gv_run 1 true hD (pcₚ := 73) (lvₚ := [(0, .inr (.inr (some 0))), (1, .inl a1), (2, .inl a2)]) (stₚ := [.inr (.inr (some 0))]) (hₚ := gc_h sh I J A) (C := (True ∧ True)) rfl ⟨trivial, trivial⟩ ?_
          refine gv_get hD rfl rfl S_0 ⟨by decide, (gz_sh B_0)⟩ (gc_hA S_0 rfl A_0_6) ?_
          show gv_X _ _ (76, [(0, .inr (.inr (some 0))), (1, .inl a1), (2, .inl a2)], [.inr (.inr (some 48))], sh, gc_h sh I J A)
          have f7 := gz_hi ((gc_b_49_6 hI (gz_sh R_48)))
          refine gv_get hD rfl rfl S_48 ⟨by decide, (gz_sh B_48)⟩ (gc_hI S_48 rfl) ?_
          show gv_X _ _ (79, [(0, .inr (.inr (some 0))), (1, .inl a1), (2, .inl a2)], [.inl (I 48 6)], sh, gc_h sh I J A)
          exact gv_iret hD rfl ⟨rfl, ⟨_, rfl, by (/-16-/first | (have o1 := gz_sh f7; omega) | (simp only [gz_hd] at *; omega))⟩⟩
        by_cases c8 : a2 = 7
        · refine gv_tabAt hD 7 rfl ⟨by (/-17-/first | omega | (simp only [gz_hd] at *; omega)), by (/-18-/first | omega | (simp only [gz_hd] at *; omega))⟩ c8 ⟨by decide, by decide⟩ rfl (t := 80) rfl ?_
          refine gv_run 1 true hD (pcₚ := 81) (lvₚ := [(0, .inr (.inr (some 0))), (1, .inl a1), (2, .inl a2)]) (stₚ := [.inr (.inr (some 0))]) (hₚ := gc_h sh I J A) (C := (True ∧ True)) rfl ⟨trivial, trivial⟩ ?_
          refine gv_get hD rfl rfl S_0 ⟨by decide, (gz_sh B_0)⟩ (gc_hA S_0 rfl A_0_10) ?_
          show gv_X _ _ (84, [(0, .inr (.inr (some 0))), (1, .inl a1), (2, .inl a2)], [.inr (.inr (some 100))], sh, gc_h sh I J A)
          have f9 := gz_hi ((gc_b_75_9 hI (gz_sh R_100)))
          refine gv_get hD rfl rfl S_100 ⟨by decide, (gz_sh B_100)⟩ (gc_hI S_100 rfl) ?_
          show gv_X _ _ (87, [(0, .inr (.inr (some 0))), (1, .inl a1), (2, .inl a2)], [.inl (I 100 9)], sh, gc_h sh I J A)
          exact gv_iret hD rfl ⟨rfl, ⟨_, rfl, by (/-19-/first | (and_intros; (have o1 := gz_sh f9; omega); (have o1 := gz_sh f9; omega)) | (simp only [gz_hd] at *; omega))⟩⟩
        refine gv_tabOut hD rfl ⟨by (/-20-/first | omega | (simp only [gz_hd] at *; omega)), by (/-21-/first | omega | (simp only [gz_hd] at *; omega))⟩ (by (/-22-/first | omega | (simp only [gz_hd] at *; omega))) (t := 88) rfl ?_
        refine gv_run 1 true hD (pcₚ := 89) (lvₚ := [(0, .inr (.inr (some 0))), (1, .inl a1), (2, .inl a2)]) (stₚ := [.inr (.inr (some 0))]) (hₚ := gc_h sh I J A) (C := (True ∧ True)) rfl ⟨trivial, trivial⟩ ?_
        refine gv_get hD rfl rfl S_0 ⟨by decide, (gz_sh B_0)⟩ (gc_hA S_0 rfl A_0_0) ?_
        show gv_X _ _ (92, [(0, .inr (.inr (some 0))), (1, .inl a1), (2, .inl a2)], [.inr (.inr (some 1))], sh, gc_h sh I J A)
        refine gv_run 1 true hD (pcₚ := 93) (lvₚ := [(0, .inr (.inr (some 0))), (1, .inl a1), (2, .inl a2)]) (stₚ := [.inl a2, .inr (.inr (some 1))]) (hₚ := gc_h sh I J A) (C := (True ∧ True)) rfl ⟨trivial, trivial⟩ ?_
        obtain ⟨r10, h10, E10, P10⟩ := d_X8_sizeOf (ws0 := ws0) (tb := tb) hws htb sh ro I J A hI  a2 hb   ⟨by (/-23-/first | omega | (simp only [gz_hd] at *; omega)), by (/-24-/first | omega | (simp only [gz_hd] at *; omega))⟩  
        obtain ⟨rfl, ⟨z10, rfl, q10⟩⟩ := P10
        replace q10 := gz_hi q10
        refine gv_callV hD rfl (As := [.inl a2]) (st := []) rfl (gz_sh B_1) S_1 rfl (gc_lV12 hws rfl) (Nat.le_of_ble_eq_true rfl) (gz_Ev_mono (d := 1) (by decide) E10) ?_
        show gv_X _ _ (96, [(0, .inr (.inr (some 0))), (1, .inl a1), (2, .inl a2)], [.inl z10], sh, gc_h sh I J A)
        exact gv_iret hD rfl ⟨rfl, ⟨_, rfl, by (/-25-/first | (and_intros; (have o1 := gz_sh q10; omega); (have o1 := gz_sh q10; omega)) | (simp only [gz_hd] at *; omega))⟩⟩
      · exfalso; (/-26-/first | omega | (simp only [gz_hd] at *; omega))
    · exfalso; (/-27-/first | omega | (simp only [gz_hd] at *; omega))
set_option maxHeartbeats 8000000 in
set_option maxRecDepth 100000 in
theorem d_X12_count_t {ws0 : List Cond} {tb : String → gz_T} (hws : gc_Ws ws0) (htb : gc_tbs tb) (sh : gz_Sh) (ro : Nat → Nat) (I : gr_I) (J : gr_J) (A : gc_A) (hI : gc_Inv ro I) (t : Nat) (a1 : Int) (a2 : Int) (hb : gc_Base sh ro A) (h_t : gc_isTongue sh ro A t) (G_t : 144 ≤ t) (ha1 : 0 ≤ a1 ∧ a1 ≤ 7) (ha2 : 8 ≤ a2 ∧ a2 ≤ 14) (x0 : 0 ≤ a1 ∧ a1 < I 8 1) (x1 : A 10 (Int.toNat a1) = some t) : ∃ r hₚ, gz_Ev ws0 tb 2 (yX12_count, cX12_count, 3, (some .int)) [.inr (.inr (some 0)), .inl a1, .inl a2] sh (gc_h sh I J A) r sh hₚ 0 0 ∧ (hₚ = gc_h sh I J A ∧ (∃ z : Int, r = some (.inl z) ∧ 0 ≤ z ∧ z ≤ 400)) := by
  have B_0 := gz_hi (show 0 < 1000000 from by decide)
  have S_0 : sh[0]? = some (false, 12, 17) := gc_bS_0 hb
  obtain ⟨S_t, R_t, B_t, A_t_0, h_t_1, A_t_1, h_t_3, A_t_2, S_t_5, R_t_5, B_t_5, A_t_3, S_t_6, R_t_6, B_t_6, A_t_4, h_t_7, A_t_5, S_t_9, R_t_9, B_t_9, A_t_7, S_t_10, R_t_10, B_t_10, A_t_8, h_t_11, A_t_9, S_t_13, R_t_13, B_t_13, A_t_10, S_t_14, R_t_14, B_t_14, A_t_12, S_t_15, R_t_15, B_t_15, A_t_14, S_t_16, R_t_16, B_t_16, A_t_15, h_t_17⟩ := id h_t
  replace R_t := gz_hi R_t
  replace B_t := gz_hi B_t
  replace R_t_5 := gz_hi R_t_5
  replace B_t_5 := gz_hi B_t_5
  replace R_t_6 := gz_hi R_t_6
  replace B_t_6 := gz_hi B_t_6
  replace R_t_9 := gz_hi R_t_9
  replace B_t_9 := gz_hi B_t_9
  replace R_t_10 := gz_hi R_t_10
  replace B_t_10 := gz_hi B_t_10
  replace R_t_13 := gz_hi R_t_13
  replace B_t_13 := gz_hi B_t_13
  replace R_t_14 := gz_hi R_t_14
  replace B_t_14 := gz_hi B_t_14
  replace R_t_15 := gz_hi R_t_15
  replace B_t_15 := gz_hi B_t_15
  replace R_t_16 := gz_hi R_t_16
  replace B_t_16 := gz_hi B_t_16
  obtain ⟨S_t_1, R_t_1, B_t_1, A_t_1_0, S_t_1_1, R_t_1_1, B_t_1_1, Q0_t_1, Q1_t_1, Q2_t_1⟩ := id h_t_1
  replace R_t_1 := gz_hi R_t_1
  replace B_t_1 := gz_hi B_t_1
  replace R_t_1_1 := gz_hi R_t_1_1
  replace B_t_1_1 := gz_hi B_t_1_1
  obtain ⟨S_t_3, R_t_3, B_t_3, A_t_3_0, S_t_3_1, R_t_3_1, B_t_3_1, Q0_t_3, Q1_t_3, Q2_t_3⟩ := id h_t_3
  replace R_t_3 := gz_hi R_t_3
  replace B_t_3 := gz_hi B_t_3
  replace R_t_3_1 := gz_hi R_t_3_1
  replace B_t_3_1 := gz_hi B_t_3_1
  obtain ⟨S_t_7, R_t_7, B_t_7, A_t_7_0, S_t_7_1, R_t_7_1, B_t_7_1, Q0_t_7, Q1_t_7, Q2_t_7⟩ := id h_t_7
  replace R_t_7 := gz_hi R_t_7
  replace B_t_7 := gz_hi B_t_7
  replace R_t_7_1 := gz_hi R_t_7_1
  replace B_t_7_1 := gz_hi B_t_7_1
  obtain ⟨S_t_11, R_t_11, B_t_11, A_t_11_0, S_t_11_1, R_t_11_1, B_t_11_1, Q0_t_11, Q1_t_11, Q2_t_11⟩ := id h_t_11
  replace R_t_11 := gz_hi R_t_11
  replace B_t_11 := gz_hi B_t_11
  replace R_t_11_1 := gz_hi R_t_11_1
  replace B_t_11_1 := gz_hi B_t_11_1
  obtain ⟨S_t_17, R_t_17, B_t_17, A_t_17_0, S_20, R_20, B_20, A_t_17_1, S_t_17_1, R_t_17_1, B_t_17_1, A_t_17_2, S_t_17_2, R_t_17_2, B_t_17_2, A_t_17_3, S_t_17_3, R_t_17_3, B_t_17_3, A_t_17_4, S_t_17_4, R_t_17_4, B_t_17_4, A_t_17_5, S_t_17_5, R_t_17_5, B_t_17_5, S_t_17_6, R_t_17_6, B_t_17_6, S_t_17_7, R_t_17_7, B_t_17_7⟩ := id h_t_17
  replace R_t_17 := gz_hi R_t_17
  replace B_t_17 := gz_hi B_t_17
  replace R_20 := gz_hi R_20
  replace B_20 := gz_hi B_20
  replace R_t_17_1 := gz_hi R_t_17_1
  replace B_t_17_1 := gz_hi B_t_17_1
  replace R_t_17_2 := gz_hi R_t_17_2
  replace B_t_17_2 := gz_hi B_t_17_2
  replace R_t_17_3 := gz_hi R_t_17_3
  replace B_t_17_3 := gz_hi B_t_17_3
  replace R_t_17_4 := gz_hi R_t_17_4
  replace B_t_17_4 := gz_hi B_t_17_4
  replace R_t_17_5 := gz_hi R_t_17_5
  replace B_t_17_5 := gz_hi B_t_17_5
  replace R_t_17_6 := gz_hi R_t_17_6
  replace B_t_17_6 := gz_hi B_t_17_6
  replace R_t_17_7 := gz_hi R_t_17_7
  replace B_t_17_7 := gz_hi B_t_17_7
  have hD : gv_D (gc_E12 ws0 tb 1 (yX12_count, cX12_count, 3, (some .int)) kX12_count) := gq_of oX12_count
  refine gc_ev12 (d := 1) (l := kX12_count) (Po := fun r hₚ => (hₚ = gc_h sh I J A ∧ (∃ z : Int, r = some (.inl z) ∧ 0 ≤ z ∧ z ≤ 400))) htb rfl (Nat.le_of_ble_eq_true rfl) ?_
  refine gv_run 1 true hD (pcₚ := 1) (lvₚ := [(0, .inr (.inr (some 0))), (1, .inl a1), (2, .inl a2)]) (stₚ := [.inl a2]) (hₚ := gc_h sh I J A) (C := (True ∧ True)) rfl ⟨trivial, trivial⟩ ?_
  refine gv_if_lt (t := 10) hD rfl rfl ⟨by (/-0-/first | omega | (simp only [gz_hd] at *; omega)), by (/-1-/first | omega | (simp only [gz_hd] at *; omega))⟩ (fun c1 => ?_) (fun c1 => ?_)
  · exfalso; (/-2-/first | omega | (simp only [gz_hd] at *; omega))
  · show gv_X _ _ (4, [(0, .inr (.inr (some 0))), (1, .inl a1), (2, .inl a2)], [], sh, gc_h sh I J A)
    refine gv_run 2 true hD (pcₚ := 7) (lvₚ := [(0, .inr (.inr (some 0))), (1, .inl a1), (2, .inl a2)]) (stₚ := [.inl 14, .inl a2]) (hₚ := gc_h sh I J A) (C := ((True ∧ True) ∧ True)) rfl ⟨⟨trivial, trivial⟩, trivial⟩ ?_
    refine gv_icmp_le (t := 20) hD rfl rfl ⟨⟨by (/-3-/first | omega | (simp only [gz_hd] at *; omega)), by (/-4-/first | omega | (simp only [gz_hd] at *; omega))⟩, ⟨by (/-5-/first | omega | (simp only [gz_hd] at *; omega)), by (/-6-/first | omega | (simp only [gz_hd] at *; omega))⟩⟩ (fun c2 => ?_) (fun c2 => ?_)
    · show gv_X _ _ (20, [(0, .inr (.inr (some 0))), (1, .inl a1), (2, .inl a2)], [], sh, gc_h sh I J A)
      refine gv_run 2 true hD (pcₚ := 23) (lvₚ := [(0, .inr (.inr (some 0))), (1, .inl a1), (2, .inl a2)]) (stₚ := [.inl 8, .inl a2]) (hₚ := gc_h sh I J A) (C := ((True ∧ True) ∧ True)) rfl ⟨⟨trivial, trivial⟩, trivial⟩ ?_
      refine gv_icmp_lt (t := 36) hD rfl rfl ⟨⟨by (/-7-/first | omega | (simp only [gz_hd] at *; omega)), by (/-8-/first | omega | (simp only [gz_hd] at *; omega))⟩, ⟨by (/-9-/first | omega | (simp only [gz_hd] at *; omega)), by (/-10-/first | omega | (simp only [gz_hd] at *; omega))⟩⟩ (fun c3 => ?_) (fun c3 => ?_)
      · exfalso; (/-11-/first | omega | (simp only [gz_hd] at *; omega))
      · show gv_X _ _ (26, [(0, .inr (.inr (some 0))), (1, .inl a1), (2, .inl a2)], [], sh, gc_h sh I J A)
        refine gv_run 2 true hD (pcₚ := 28) (lvₚ := [(0, .inr (.inr (some 0))), (1, .inl a1), (2, .inl a2)]) (stₚ := [.inl a1, .inr (.inr (some 0))]) (hₚ := gc_h sh I J A) (C := ((True ∧ True) ∧ True)) rfl ⟨⟨trivial, trivial⟩, trivial⟩ ?_
        refine gv_callV hD rfl (As := [.inl a1]) (st := []) rfl (gz_sh B_0) S_0 rfl (gc_lV12 hws rfl) (Nat.le_of_ble_eq_true rfl) (gz_Ev_mono (d := 1) (by decide) (d_X12_tongueAt hws htb (J := J) hI hb (by (/-12-/first | omega | (simp only [gz_hd] at *; omega))) (by (/-13-/first | omega | (simp only [gz_hd] at *; omega))) x1)) ?_
        show gv_X _ _ (31, [(0, .inr (.inr (some 0))), (1, .inl a1), (2, .inl a2)], [.inr (.inr (some t))], sh, gc_h sh I J A)
        refine gv_run 1 true hD (pcₚ := 32) (lvₚ := [(0, .inr (.inr (some 0))), (1, .inl a1), (2, .inl a2)]) (stₚ := [.inl a2, .inr (.inr (some t))]) (hₚ := gc_h sh I J A) (C := (True ∧ True)) rfl ⟨trivial, trivial⟩ ?_
        obtain ⟨r5, h5, E5, P5⟩ := d_X11_sizeOf (ws0 := ws0) (tb := tb) hws htb sh ro I J A hI t a2 h_t   ⟨by (/-14-/first | omega | (simp only [gz_hd] at *; omega)), by (/-15-/first | omega | (simp only [gz_hd] at *; omega))⟩  
        obtain ⟨rfl, ⟨z5, rfl, q5⟩⟩ := P5
        replace q5 := gz_hi q5
        refine gv_callV hD rfl (As := [.inl a2]) (st := []) rfl (gz_sh B_t) S_t rfl (gc_lV12 hws rfl) (Nat.le_of_ble_eq_true rfl) (gz_Ev_mono (d := 1) (by decide) E5) ?_
        show gv_X _ _ (35, [(0, .inr (.inr (some 0))), (1, .inl a1), (2, .inl a2)], [.inl z5], sh, gc_h sh I J A)
        exact gv_iret hD rfl ⟨rfl, ⟨_, rfl, by (/-16-/first | (have o1 := gz_sh q5; omega) | (simp only [gz_hd] at *; omega))⟩⟩
    · exfalso; (/-17-/first | omega | (simp only [gz_hd] at *; omega))
