set_option maxHeartbeats 8000000 in
set_option maxRecDepth 100000 in
theorem d_X12_feed {ws0 : List Cond} {tb : String → gz_T} (hws : gc_Ws ws0) (htb : gc_tbs tb) (sh : gz_Sh) (ro : Nat → Nat) (I : gr_I) (J : gr_J) (A : gc_A) (hI : gc_Inv ro I) (a1 : Int) (a2 : Int) (a3 : Int) (a4 : Int) (a5 : Int) (hb : gc_Base sh ro A) (ha1 : (-2147483648) ≤ a1 ∧ a1 ≤ 2147483647) (ha2 : (-2147483648) ≤ a2 ∧ a2 ≤ 2147483647) (ha3 : (-2147483648) ≤ a3 ∧ a3 ≤ 2147483647) (ha4 : (-2147483648) ≤ a4 ∧ a4 ≤ 2147483647) (ha5 : (-2147483648) ≤ a5 ∧ a5 ≤ 2147483647) (x0 : I 23 1 ≤ 980) : ∃ r hₚ, gz_Ev ws0 tb 3 (yX12_feed, cX12_feed, 6, (some .int)) [.inr (.inr (some 0)), .inl a1, .inl a2, .inl a3, .inl a4, .inl a5] sh (gc_h sh I J A) r sh hₚ 0 0 ∧ (∃ (Iₚ : gr_I) (Jₚ : gr_J), hₚ = gc_h sh Iₚ Jₚ A ∧ gc_Inv ro Iₚ ∧ (∀ q j : Nat, ((q = 23 ∧ j = 1) ∨ (q = 24 ∧ (I 23 1 ≤ (j : Int)))) ∨ Iₚ q j = I q j) ∧ (∀ q j : Nat, (False) ∨ Jₚ q j = J q j) ∧ (∃ z : Int, r = some (.inl z) ∧ 0 ≤ z ∧ z ≤ 1000 ∧ (z = I 23 1 + 20) ∧ (Iₚ 23 1 = I 23 1 + 20))) := by
  have FI : ∀ q j : Nat, ((q = 23 ∧ j = 1) ∨ (q = 24 ∧ (I 23 1 ≤ (j : Int)))) ∨ I q j = I q j := fun _ _ => Or.inr rfl
  have FJ : ∀ q j : Nat, (False) ∨ J q j = J q j := fun _ _ => Or.inr rfl
  have A_0_1 : A 0 1 = some 23 := gc_bA_0_1 hb
  have B_0 := gz_hi (show 0 < 1000000 from by decide)
  have B_23 := gz_hi (show 23 < 1000000 from by decide)
  have R_23 := gz_hi (show ro 23 = 3 from gc_bR_23 hb)
  have S_0 : sh[0]? = some (false, 12, 17) := gc_bS_0 hb
  have S_23 : sh[23]? = some (false, 9, 10) := gc_bS_23 hb
  have hD : gv_D (gc_E12 ws0 tb 2 (yX12_feed, cX12_feed, 6, (some .int)) kX12_feed) := gq_of oX12_feed
  refine gc_ev12 (d := 2) (l := kX12_feed) (Po := fun r hₚ => (∃ (Iₚ : gr_I) (Jₚ : gr_J), hₚ = gc_h sh Iₚ Jₚ A ∧ gc_Inv ro Iₚ ∧ (∀ q j : Nat, ((q = 23 ∧ j = 1) ∨ (q = 24 ∧ (I 23 1 ≤ (j : Int)))) ∨ Iₚ q j = I q j) ∧ (∀ q j : Nat, (False) ∨ Jₚ q j = J q j) ∧ (∃ z : Int, r = some (.inl z) ∧ 0 ≤ z ∧ z ≤ 1000 ∧ (z = I 23 1 + 20) ∧ (Iₚ 23 1 = I 23 1 + 20)))) htb rfl (Nat.le_of_ble_eq_true rfl) ?_
  have f1 := gz_hi ((gc_b_3_1 hI (gz_sh R_23)))
  refine gv_run 1 true hD (pcₚ := 1) (lvₚ := [(0, .inr (.inr (some 0))), (1, .inl a1), (2, .inl a2), (3, .inl a3), (4, .inl a4), (5, .inl a5)]) (stₚ := [.inr (.inr (some 0))]) (hₚ := gc_h sh I J A) (C := (True ∧ True)) rfl ⟨trivial, trivial⟩ ?_
  refine gv_get hD rfl rfl S_0 ⟨by decide, (gz_sh B_0)⟩ (gc_hA S_0 rfl A_0_1) ?_
  show gv_X _ _ (4, [(0, .inr (.inr (some 0))), (1, .inl a1), (2, .inl a2), (3, .inl a3), (4, .inl a4), (5, .inl a5)], [.inr (.inr (some 23))], sh, gc_h sh I J A)
  refine gv_get hD rfl rfl S_23 ⟨by decide, (gz_sh B_23)⟩ (gc_hI S_23 rfl) ?_
  show gv_X _ _ (7, [(0, .inr (.inr (some 0))), (1, .inl a1), (2, .inl a2), (3, .inl a3), (4, .inl a4), (5, .inl a5)], [.inl (I 23 1)], sh, gc_h sh I J A)
  refine gv_run 3 true hD (pcₚ := 13) (lvₚ := [(0, .inr (.inr (some 0))), (1, .inl a1), (2, .inl a2), (3, .inl a3), (4, .inl a4), (5, .inl a5)]) (stₚ := [.inl 1000, .inl ((I 23 1) + 20)]) (hₚ := gc_h sh I J A) (C := (((True ∧ True) ∧ True) ∧ True)) rfl ⟨⟨⟨trivial, trivial⟩, trivial⟩, trivial⟩ ?_
  refine gv_icmp_le (t := 26) hD rfl rfl ⟨⟨by (/-0-/first | (have o1 := gz_sh f1; omega) | (simp only [gz_hd] at *; omega)), by (/-1-/first | omega | (simp only [gz_hd] at *; omega))⟩, ⟨by (/-2-/first | omega | (simp only [gz_hd] at *; omega)), by (/-3-/first | omega | (simp only [gz_hd] at *; omega))⟩⟩ (fun c3 => ?_) (fun c3 => ?_)
  · show gv_X _ _ (26, [(0, .inr (.inr (some 0))), (1, .inl a1), (2, .inl a2), (3, .inl a3), (4, .inl a4), (5, .inl a5)], [], sh, gc_h sh I J A)
    refine gv_run 1 true hD (pcₚ := 27) (lvₚ := [(0, .inr (.inr (some 0))), (1, .inl a1), (2, .inl a2), (3, .inl a3), (4, .inl a4), (5, .inl a5)]) (stₚ := [.inr (.inr (some 0))]) (hₚ := gc_h sh I J A) (C := (True ∧ True)) rfl ⟨trivial, trivial⟩ ?_
    refine gv_get hD rfl rfl S_0 ⟨by decide, (gz_sh B_0)⟩ (gc_hA S_0 rfl A_0_1) ?_
    show gv_X _ _ (30, [(0, .inr (.inr (some 0))), (1, .inl a1), (2, .inl a2), (3, .inl a3), (4, .inl a4), (5, .inl a5)], [.inr (.inr (some 23))], sh, gc_h sh I J A)
    refine gv_run 1 true hD (pcₚ := 31) (lvₚ := [(0, .inr (.inr (some 0))), (1, .inl a1), (2, .inl a2), (3, .inl a3), (4, .inl a4), (5, .inl a5)]) (stₚ := [.inl a1, .inr (.inr (some 23))]) (hₚ := gc_h sh I J A) (C := (True ∧ True)) rfl ⟨trivial, trivial⟩ ?_
    obtain ⟨r4, h4, E4, P4⟩ := d_X9_putFour_s (ws0 := ws0) (tb := tb) hws htb sh ro I J A hI 23 a1 (gc_b23 hb)   ⟨by (/-4-/first | omega | (simp only [gz_hd] at *; omega)), by (/-5-/first | omega | (simp only [gz_hd] at *; omega))⟩ (by (/-6-/first | omega | (simp only [gz_hd] at *; omega))) 
    obtain ⟨I5, J6, rfl, hI5, g4, k4, ⟨rfl, q4⟩⟩ := P4
    replace q4 := gz_hi q4
    have FI5 := gc_frc (W := fun q j => (q = 23 ∧ j = 1) ∨ (q = 24 ∧ (I 23 1 ≤ (j : Int)))) (V := fun q j => (q = 23 ∧ j = 1) ∨ (q = 24 ∧ (I 23 1 ≤ (j : Int)))) FI (fun q j h => (h.elim (fun h => (Or.inl h)) (fun h => (Or.inr h)))) g4
    obtain rfl : J = J6 := funext fun q => funext fun j => ((k4 q j).resolve_left id).symm
    refine gv_callV hD rfl (As := [.inl a1]) (st := []) rfl (gz_sh B_23) S_23 rfl (gc_lV12 hws rfl) (Nat.le_of_ble_eq_true rfl) (gz_Ev_mono (d := 2) (by decide) E4) ?_
    show gv_X _ _ (34, [(0, .inr (.inr (some 0))), (1, .inl a1), (2, .inl a2), (3, .inl a3), (4, .inl a4), (5, .inl a5)], [], sh, gc_h sh I5 J A)
    refine gv_run 1 true hD (pcₚ := 35) (lvₚ := [(0, .inr (.inr (some 0))), (1, .inl a1), (2, .inl a2), (3, .inl a3), (4, .inl a4), (5, .inl a5)]) (stₚ := [.inr (.inr (some 0))]) (hₚ := gc_h sh I5 J A) (C := (True ∧ True)) rfl ⟨trivial, trivial⟩ ?_
    refine gv_get hD rfl rfl S_0 ⟨by decide, (gz_sh B_0)⟩ (gc_hA S_0 rfl A_0_1) ?_
    show gv_X _ _ (38, [(0, .inr (.inr (some 0))), (1, .inl a1), (2, .inl a2), (3, .inl a3), (4, .inl a4), (5, .inl a5)], [.inr (.inr (some 23))], sh, gc_h sh I5 J A)
    refine gv_run 1 true hD (pcₚ := 39) (lvₚ := [(0, .inr (.inr (some 0))), (1, .inl a1), (2, .inl a2), (3, .inl a3), (4, .inl a4), (5, .inl a5)]) (stₚ := [.inl a2, .inr (.inr (some 23))]) (hₚ := gc_h sh I5 J A) (C := (True ∧ True)) rfl ⟨trivial, trivial⟩ ?_
    obtain ⟨r8, h8, E8, P8⟩ := d_X9_putFour_s (ws0 := ws0) (tb := tb) hws htb sh ro I5 J A hI5 23 a2 (gc_b23 hb)   ⟨by (/-7-/first | omega | (simp only [gz_hd] at *; omega)), by (/-8-/first | omega | (simp only [gz_hd] at *; omega))⟩ (by (/-9-/first | (have o1 := gz_sh q4; omega) | (simp only [gz_hd] at *; omega))) 
    obtain ⟨I9, J10, rfl, hI9, g8, k8, ⟨rfl, q8⟩⟩ := P8
    replace q8 := gz_hi q8
    have FI9 := gc_frc (W := fun q j => (q = 23 ∧ j = 1) ∨ (q = 24 ∧ (I 23 1 ≤ (j : Int)))) (V := fun q j => (q = 23 ∧ j = 1) ∨ (q = 24 ∧ (I5 23 1 ≤ (j : Int)))) FI5 (fun q j h => (h.elim (fun h => (Or.inl h)) (fun h => (Or.inr ⟨h.1, by have h9 := h.2; (/-10-/first | (have o1 := gz_sh q4; omega) | (simp only [gz_hd] at *; omega))⟩)))) g8
    obtain rfl : J = J10 := funext fun q => funext fun j => ((k8 q j).resolve_left id).symm
    refine gv_callV hD rfl (As := [.inl a2]) (st := []) rfl (gz_sh B_23) S_23 rfl (gc_lV12 hws rfl) (Nat.le_of_ble_eq_true rfl) (gz_Ev_mono (d := 2) (by decide) E8) ?_
    show gv_X _ _ (42, [(0, .inr (.inr (some 0))), (1, .inl a1), (2, .inl a2), (3, .inl a3), (4, .inl a4), (5, .inl a5)], [], sh, gc_h sh I9 J A)
    refine gv_run 1 true hD (pcₚ := 43) (lvₚ := [(0, .inr (.inr (some 0))), (1, .inl a1), (2, .inl a2), (3, .inl a3), (4, .inl a4), (5, .inl a5)]) (stₚ := [.inr (.inr (some 0))]) (hₚ := gc_h sh I9 J A) (C := (True ∧ True)) rfl ⟨trivial, trivial⟩ ?_
    refine gv_get hD rfl rfl S_0 ⟨by decide, (gz_sh B_0)⟩ (gc_hA S_0 rfl A_0_1) ?_
    show gv_X _ _ (46, [(0, .inr (.inr (some 0))), (1, .inl a1), (2, .inl a2), (3, .inl a3), (4, .inl a4), (5, .inl a5)], [.inr (.inr (some 23))], sh, gc_h sh I9 J A)
    refine gv_run 1 true hD (pcₚ := 47) (lvₚ := [(0, .inr (.inr (some 0))), (1, .inl a1), (2, .inl a2), (3, .inl a3), (4, .inl a4), (5, .inl a5)]) (stₚ := [.inl a3, .inr (.inr (some 23))]) (hₚ := gc_h sh I9 J A) (C := (True ∧ True)) rfl ⟨trivial, trivial⟩ ?_
    obtain ⟨r12, h12, E12, P12⟩ := d_X9_putFour_s (ws0 := ws0) (tb := tb) hws htb sh ro I9 J A hI9 23 a3 (gc_b23 hb)   ⟨by (/-11-/first | omega | (simp only [gz_hd] at *; omega)), by (/-12-/first | omega | (simp only [gz_hd] at *; omega))⟩ (by (/-13-/first | (have o1 := gz_sh q4; have o2 := gz_sh q8; omega) | (simp only [gz_hd] at *; omega))) 
    obtain ⟨I13, J14, rfl, hI13, g12, k12, ⟨rfl, q12⟩⟩ := P12
    replace q12 := gz_hi q12
    have FI13 := gc_frc (W := fun q j => (q = 23 ∧ j = 1) ∨ (q = 24 ∧ (I 23 1 ≤ (j : Int)))) (V := fun q j => (q = 23 ∧ j = 1) ∨ (q = 24 ∧ (I9 23 1 ≤ (j : Int)))) FI9 (fun q j h => (h.elim (fun h => (Or.inl h)) (fun h => (Or.inr ⟨h.1, by have h9 := h.2; (/-14-/first | (have o1 := gz_sh q4; have o2 := gz_sh q8; omega) | (simp only [gz_hd] at *; omega))⟩)))) g12
    obtain rfl : J = J14 := funext fun q => funext fun j => ((k12 q j).resolve_left id).symm
    refine gv_callV hD rfl (As := [.inl a3]) (st := []) rfl (gz_sh B_23) S_23 rfl (gc_lV12 hws rfl) (Nat.le_of_ble_eq_true rfl) (gz_Ev_mono (d := 2) (by decide) E12) ?_
    show gv_X _ _ (50, [(0, .inr (.inr (some 0))), (1, .inl a1), (2, .inl a2), (3, .inl a3), (4, .inl a4), (5, .inl a5)], [], sh, gc_h sh I13 J A)
    refine gv_run 1 true hD (pcₚ := 51) (lvₚ := [(0, .inr (.inr (some 0))), (1, .inl a1), (2, .inl a2), (3, .inl a3), (4, .inl a4), (5, .inl a5)]) (stₚ := [.inr (.inr (some 0))]) (hₚ := gc_h sh I13 J A) (C := (True ∧ True)) rfl ⟨trivial, trivial⟩ ?_
    refine gv_get hD rfl rfl S_0 ⟨by decide, (gz_sh B_0)⟩ (gc_hA S_0 rfl A_0_1) ?_
    show gv_X _ _ (54, [(0, .inr (.inr (some 0))), (1, .inl a1), (2, .inl a2), (3, .inl a3), (4, .inl a4), (5, .inl a5)], [.inr (.inr (some 23))], sh, gc_h sh I13 J A)
    refine gv_run 1 true hD (pcₚ := 56) (lvₚ := [(0, .inr (.inr (some 0))), (1, .inl a1), (2, .inl a2), (3, .inl a3), (4, .inl a4), (5, .inl a5)]) (stₚ := [.inl a4, .inr (.inr (some 23))]) (hₚ := gc_h sh I13 J A) (C := (True ∧ True)) rfl ⟨trivial, trivial⟩ ?_
    obtain ⟨r16, h16, E16, P16⟩ := d_X9_putFour_s (ws0 := ws0) (tb := tb) hws htb sh ro I13 J A hI13 23 a4 (gc_b23 hb)   ⟨by (/-15-/first | omega | (simp only [gz_hd] at *; omega)), by (/-16-/first | omega | (simp only [gz_hd] at *; omega))⟩ (by (/-17-/first | (have o1 := gz_sh q12; have o2 := gz_sh q4; have o3 := gz_sh q8; omega) | (simp only [gz_hd] at *; omega))) 
    obtain ⟨I17, J18, rfl, hI17, g16, k16, ⟨rfl, q16⟩⟩ := P16
    replace q16 := gz_hi q16
    have FI17 := gc_frc (W := fun q j => (q = 23 ∧ j = 1) ∨ (q = 24 ∧ (I 23 1 ≤ (j : Int)))) (V := fun q j => (q = 23 ∧ j = 1) ∨ (q = 24 ∧ (I13 23 1 ≤ (j : Int)))) FI13 (fun q j h => (h.elim (fun h => (Or.inl h)) (fun h => (Or.inr ⟨h.1, by have h9 := h.2; (/-18-/first | (have o1 := gz_sh q12; have o2 := gz_sh q4; have o3 := gz_sh q8; omega) | (simp only [gz_hd] at *; omega))⟩)))) g16
    obtain rfl : J = J18 := funext fun q => funext fun j => ((k16 q j).resolve_left id).symm
    refine gv_callV hD rfl (As := [.inl a4]) (st := []) rfl (gz_sh B_23) S_23 rfl (gc_lV12 hws rfl) (Nat.le_of_ble_eq_true rfl) (gz_Ev_mono (d := 2) (by decide) E16) ?_
    show gv_X _ _ (59, [(0, .inr (.inr (some 0))), (1, .inl a1), (2, .inl a2), (3, .inl a3), (4, .inl a4), (5, .inl a5)], [], sh, gc_h sh I17 J A)
    refine gv_run 1 true hD (pcₚ := 60) (lvₚ := [(0, .inr (.inr (some 0))), (1, .inl a1), (2, .inl a2), (3, .inl a3), (4, .inl a4), (5, .inl a5)]) (stₚ := [.inr (.inr (some 0))]) (hₚ := gc_h sh I17 J A) (C := (True ∧ True)) rfl ⟨trivial, trivial⟩ ?_
    refine gv_get hD rfl rfl S_0 ⟨by decide, (gz_sh B_0)⟩ (gc_hA S_0 rfl A_0_1) ?_
    show gv_X _ _ (63, [(0, .inr (.inr (some 0))), (1, .inl a1), (2, .inl a2), (3, .inl a3), (4, .inl a4), (5, .inl a5)], [.inr (.inr (some 23))], sh, gc_h sh I17 J A)
    refine gv_run 1 true hD (pcₚ := 65) (lvₚ := [(0, .inr (.inr (some 0))), (1, .inl a1), (2, .inl a2), (3, .inl a3), (4, .inl a4), (5, .inl a5)]) (stₚ := [.inl a5, .inr (.inr (some 23))]) (hₚ := gc_h sh I17 J A) (C := (True ∧ True)) rfl ⟨trivial, trivial⟩ ?_
    obtain ⟨r20, h20, E20, P20⟩ := d_X9_putFour_s (ws0 := ws0) (tb := tb) hws htb sh ro I17 J A hI17 23 a5 (gc_b23 hb)   ⟨by (/-19-/first | omega | (simp only [gz_hd] at *; omega)), by (/-20-/first | omega | (simp only [gz_hd] at *; omega))⟩ (by (/-21-/first | (have o1 := gz_sh q12; have o2 := gz_sh q16; have o3 := gz_sh q4; have o4 := gz_sh q8; omega) | (simp only [gz_hd] at *; omega))) 
    obtain ⟨I21, J22, rfl, hI21, g20, k20, ⟨rfl, q20⟩⟩ := P20
    replace q20 := gz_hi q20
    have FI21 := gc_frc (W := fun q j => (q = 23 ∧ j = 1) ∨ (q = 24 ∧ (I 23 1 ≤ (j : Int)))) (V := fun q j => (q = 23 ∧ j = 1) ∨ (q = 24 ∧ (I17 23 1 ≤ (j : Int)))) FI17 (fun q j h => (h.elim (fun h => (Or.inl h)) (fun h => (Or.inr ⟨h.1, by have h9 := h.2; (/-22-/first | (have o1 := gz_sh q12; have o2 := gz_sh q16; have o3 := gz_sh q4; have o4 := gz_sh q8; omega) | (simp only [gz_hd] at *; omega))⟩)))) g20
    obtain rfl : J = J22 := funext fun q => funext fun j => ((k20 q j).resolve_left id).symm
    refine gv_callV hD rfl (As := [.inl a5]) (st := []) rfl (gz_sh B_23) S_23 rfl (gc_lV12 hws rfl) (Nat.le_of_ble_eq_true rfl) (gz_Ev_mono (d := 2) (by decide) E20) ?_
    show gv_X _ _ (68, [(0, .inr (.inr (some 0))), (1, .inl a1), (2, .inl a2), (3, .inl a3), (4, .inl a4), (5, .inl a5)], [], sh, gc_h sh I21 J A)
    refine gv_run 1 true hD (pcₚ := 69) (lvₚ := [(0, .inr (.inr (some 0))), (1, .inl a1), (2, .inl a2), (3, .inl a3), (4, .inl a4), (5, .inl a5)]) (stₚ := [.inr (.inr (some 0))]) (hₚ := gc_h sh I21 J A) (C := (True ∧ True)) rfl ⟨trivial, trivial⟩ ?_
    refine gv_get hD rfl rfl S_0 ⟨by decide, (gz_sh B_0)⟩ (gc_hA S_0 rfl A_0_1) ?_
    show gv_X _ _ (72, [(0, .inr (.inr (some 0))), (1, .inl a1), (2, .inl a2), (3, .inl a3), (4, .inl a4), (5, .inl a5)], [.inr (.inr (some 23))], sh, gc_h sh I21 J A)
    refine gv_get hD rfl rfl S_23 ⟨by decide, (gz_sh B_23)⟩ (gc_hI S_23 rfl) ?_
    show gv_X _ _ (75, [(0, .inr (.inr (some 0))), (1, .inl a1), (2, .inl a2), (3, .inl a3), (4, .inl a4), (5, .inl a5)], [.inl (I21 23 1)], sh, gc_h sh I21 J A)
    exact gv_iret hD rfl ⟨I21, J, rfl, hI21, FI21, FJ, ⟨_, rfl, by (/-23-/first | (and_intros; (have o1 := gz_sh f1; have o2 := gz_sh q12; have o3 := gz_sh q16; have o4 := gz_sh q20; have o5 := gz_sh q4; have o6 := gz_sh q8; omega); (have o1 := gz_sh q12; have o2 := gz_sh q16; have o3 := gz_sh q20; have o4 := gz_sh q4; have o5 := gz_sh q8; omega); (have o1 := gz_sh q12; have o2 := gz_sh q16; have o3 := gz_sh q20; have o4 := gz_sh q4; have o5 := gz_sh q8; omega); (have o1 := gz_sh q12; have o2 := gz_sh q16; have o3 := gz_sh q20; have o4 := gz_sh q4; have o5 := gz_sh q8; omega)) | (simp only [gz_hd] at *; omega))⟩⟩
  · show gv_X _ _ (16, [(0, .inr (.inr (some 0))), (1, .inl a1), (2, .inl a2), (3, .inl a3), (4, .inl a4), (5, .inl a5)], [], sh, gc_h sh I J A)
    exfalso; (/-24-/first | (have o1 := gz_sh f1; omega) | (simp only [gz_hd] at *; omega))
set_option maxHeartbeats 8000000 in
set_option maxRecDepth 100000 in
theorem d_X12_end {ws0 : List Cond} {tb : String → gz_T} (hws : gc_Ws ws0) (htb : gc_tbs tb) (sh : gz_Sh) (ro : Nat → Nat) (I : gr_I) (J : gr_J) (A : gc_A) (hI : gc_Inv ro I) (a1 : Int) (hb : gc_Base sh ro A) (ha1 : 0 ≤ a1 ∧ a1 ≤ 1000) (x0 : a1 ≤ I 23 1) : ∃ r hₚ, gz_Ev ws0 tb 1 (yX12_end, cX12_end, 2, (some .int)) [.inr (.inr (some 0)), .inl a1] sh (gc_h sh I J A) r sh hₚ 0 0 ∧ (∃ (Iₚ : gr_I) (Jₚ : gr_J), hₚ = gc_h sh Iₚ Jₚ A ∧ gc_Inv ro Iₚ ∧ (∀ q j : Nat, ((q = 23 ∧ j = 1)) ∨ Iₚ q j = I q j) ∧ (∀ q j : Nat, (False) ∨ Jₚ q j = J q j) ∧ (∃ z : Int, r = some (.inl z) ∧ 0 ≤ z ∧ z ≤ 1000 ∧ (Iₚ 23 1 = a1))) := by
  have FI : ∀ q j : Nat, ((q = 23 ∧ j = 1)) ∨ I q j = I q j := fun _ _ => Or.inr rfl
  have FJ : ∀ q j : Nat, (False) ∨ J q j = J q j := fun _ _ => Or.inr rfl
  have A_0_1 : A 0 1 = some 23 := gc_bA_0_1 hb
  have B_0 := gz_hi (show 0 < 1000000 from by decide)
  have B_23 := gz_hi (show 23 < 1000000 from by decide)
  have R_23 := gz_hi (show ro 23 = 3 from gc_bR_23 hb)
  have S_0 : sh[0]? = some (false, 12, 17) := gc_bS_0 hb
  have S_23 : sh[23]? = some (false, 9, 10) := gc_bS_23 hb
  have hD : gv_D (gc_E12 ws0 tb 0 (yX12_end, cX12_end, 2, (some .int)) kX12_end) := gq_of oX12_end
  refine gc_ev12 (d := 0) (l := kX12_end) (Po := fun r hₚ => (∃ (Iₚ : gr_I) (Jₚ : gr_J), hₚ = gc_h sh Iₚ Jₚ A ∧ gc_Inv ro Iₚ ∧ (∀ q j : Nat, ((q = 23 ∧ j = 1)) ∨ Iₚ q j = I q j) ∧ (∀ q j : Nat, (False) ∨ Jₚ q j = J q j) ∧ (∃ z : Int, r = some (.inl z) ∧ 0 ≤ z ∧ z ≤ 1000 ∧ (Iₚ 23 1 = a1)))) htb rfl (Nat.le_of_ble_eq_true rfl) ?_
  have f1 := gz_hi ((gc_b_3_1 hI (gz_sh R_23)))
  refine gv_run 1 true hD (pcₚ := 1) (lvₚ := [(0, .inr (.inr (some 0))), (1, .inl a1)]) (stₚ := [.inl a1]) (hₚ := gc_h sh I J A) (C := (True ∧ True)) rfl ⟨trivial, trivial⟩ ?_
  refine gv_if_lt (t := 15) hD rfl rfl ⟨by (/-0-/first | omega | (simp only [gz_hd] at *; omega)), by (/-1-/first | omega | (simp only [gz_hd] at *; omega))⟩ (fun c2 => ?_) (fun c2 => ?_)
  · exfalso; (/-2-/first | omega | (simp only [gz_hd] at *; omega))
  · show gv_X _ _ (4, [(0, .inr (.inr (some 0))), (1, .inl a1)], [], sh, gc_h sh I J A)
    refine gv_run 2 true hD (pcₚ := 6) (lvₚ := [(0, .inr (.inr (some 0))), (1, .inl a1)]) (stₚ := [.inr (.inr (some 0)), .inl a1]) (hₚ := gc_h sh I J A) (C := ((True ∧ True) ∧ True)) rfl ⟨⟨trivial, trivial⟩, trivial⟩ ?_
    refine gv_get hD rfl rfl S_0 ⟨by decide, (gz_sh B_0)⟩ (gc_hA S_0 rfl A_0_1) ?_
    show gv_X _ _ (9, [(0, .inr (.inr (some 0))), (1, .inl a1)], [.inr (.inr (some 23)), .inl a1], sh, gc_h sh I J A)
    refine gv_get hD rfl rfl S_23 ⟨by decide, (gz_sh B_23)⟩ (gc_hI S_23 rfl) ?_
    show gv_X _ _ (12, [(0, .inr (.inr (some 0))), (1, .inl a1)], [.inl (I 23 1), .inl a1], sh, gc_h sh I J A)
    refine gv_icmp_le (t := 25) hD rfl rfl ⟨⟨by (/-3-/first | omega | (simp only [gz_hd] at *; omega)), by (/-4-/first | omega | (simp only [gz_hd] at *; omega))⟩, ⟨by (/-5-/first | (have o1 := gz_sh f1; omega) | (simp only [gz_hd] at *; omega)), by (/-6-/first | (have o1 := gz_sh f1; omega) | (simp only [gz_hd] at *; omega))⟩⟩ (fun c4 => ?_) (fun c4 => ?_)
    · show gv_X _ _ (25, [(0, .inr (.inr (some 0))), (1, .inl a1)], [], sh, gc_h sh I J A)
      refine gv_run 1 true hD (pcₚ := 26) (lvₚ := [(0, .inr (.inr (some 0))), (1, .inl a1)]) (stₚ := [.inr (.inr (some 0))]) (hₚ := gc_h sh I J A) (C := (True ∧ True)) rfl ⟨trivial, trivial⟩ ?_
      refine gv_get hD rfl rfl S_0 ⟨by decide, (gz_sh B_0)⟩ (gc_hA S_0 rfl A_0_1) ?_
      show gv_X _ _ (29, [(0, .inr (.inr (some 0))), (1, .inl a1)], [.inr (.inr (some 23))], sh, gc_h sh I J A)
      refine gv_run 1 true hD (pcₚ := 30) (lvₚ := [(0, .inr (.inr (some 0))), (1, .inl a1)]) (stₚ := [.inl a1, .inr (.inr (some 23))]) (hₚ := gc_h sh I J A) (C := (True ∧ True)) rfl ⟨trivial, trivial⟩ ?_
      refine gv_put hD rfl rfl S_23 ⟨by decide, (gz_sh B_23)⟩ rfl trivial ?_
      refine gc_st (k := 1) hI S_23 rfl (gz_sh R_23) (lo := 0) (hi := 1000) rfl rfl (by (/-7-/first | omega | (simp only [gz_hd] at *; omega))) (by (/-8-/first | omega | (simp only [gz_hd] at *; omega))) (fun I5 hI5 q6 p6 => ?_)
      have FI5 := gc_frs (W := fun q j => (q = 23 ∧ j = 1)) FI ⟨rfl, rfl⟩ p6
      show gv_X _ _ (33, [(0, .inr (.inr (some 0))), (1, .inl a1)], [], sh, gc_h sh I5 J A)
      refine gv_run 1 true hD (pcₚ := 34) (lvₚ := [(0, .inr (.inr (some 0))), (1, .inl a1)]) (stₚ := [.inl a1]) (hₚ := gc_h sh I5 J A) (C := (True ∧ True)) rfl ⟨trivial, trivial⟩ ?_
      exact gv_iret hD rfl ⟨I5, J, rfl, hI5, FI5, FJ, ⟨_, rfl, by (/-9-/first | (and_intros <;> omega) | (simp only [gz_hd] at *; omega))⟩⟩
    · show gv_X _ _ (15, [(0, .inr (.inr (some 0))), (1, .inl a1)], [], sh, gc_h sh I J A)
      exfalso; (/-10-/first | omega | (simp only [gz_hd] at *; omega))
set_option maxHeartbeats 8000000 in
set_option maxRecDepth 100000 in
theorem d_X12_rule {ws0 : List Cond} {tb : String → gz_T} (hws : gc_Ws ws0) (htb : gc_tbs tb) (sh : gz_Sh) (ro : Nat → Nat) (I : gr_I) (J : gr_J) (A : gc_A) (hI : gc_Inv ro I)  (hb : gc_Base sh ro A)   : ∃ r hₚ, gz_Ev ws0 tb 1 (yX12_rule, cX12_rule, 1, (some .int)) [.inr (.inr (some 0))] sh (gc_h sh I J A) r sh hₚ 0 0 ∧ (hₚ = gc_h sh I J A ∧ (∃ z : Int, r = some (.inl z) ∧ 0 ≤ z ∧ z ≤ 6)) := by
  have A_0_5 : A 0 5 = some 39 := gc_bA_0_5 hb
  have B_0 : 0 < 1000000 := by decide
  have B_39 : 39 < 1000000 := by decide
  have R_39 : ro 39 = 42 := gc_bR_39 hb
  have S_0 : sh[0]? = some (false, 12, 17) := gc_bS_0 hb
  have S_39 : sh[39]? = some (false, 6, 19) := gc_bS_39 hb
  have hD : gv_D (gc_E12 ws0 tb 0 (yX12_rule, cX12_rule, 1, (some .int)) kX12_rule) := gq_of oX12_rule
  refine gc_ev12 (d := 0) (l := kX12_rule) (Po := fun r hₚ => (hₚ = gc_h sh I J A ∧ (∃ z : Int, r = some (.inl z) ∧ 0 ≤ z ∧ z ≤ 6))) htb rfl (Nat.le_of_ble_eq_true rfl) ?_
  refine gv_run 1 true hD (pcₚ := 1) (lvₚ := [(0, .inr (.inr (some 0)))]) (stₚ := [.inr (.inr (some 0))]) (hₚ := gc_h sh I J A) (C := (True ∧ True)) rfl ⟨trivial, trivial⟩ ?_
  refine gv_get hD rfl rfl S_0 ⟨by decide, B_0⟩ (gc_hA S_0 rfl A_0_5) ?_
  show gv_X _ _ (4, [(0, .inr (.inr (some 0)))], [.inr (.inr (some 39))], sh, gc_h sh I J A)
  have f1 := (gc_b_42_3 hI R_39)
  refine gv_get hD rfl rfl S_39 ⟨by decide, B_39⟩ (gc_hI S_39 rfl) ?_
  show gv_X _ _ (7, [(0, .inr (.inr (some 0)))], [.inl (I 39 3)], sh, gc_h sh I J A)
  exact gv_iret hD rfl ⟨rfl, ⟨_, rfl, by omega⟩⟩
set_option maxHeartbeats 8000000 in
set_option maxRecDepth 100000 in
theorem d_X12_out {ws0 : List Cond} {tb : String → gz_T} (hws : gc_Ws ws0) (htb : gc_tbs tb) (sh : gz_Sh) (ro : Nat → Nat) (I : gr_I) (J : gr_J) (A : gc_A) (hI : gc_Inv ro I) (a1 : Int) (hb : gc_Base sh ro A) (ha1 : (-2147483648) ≤ a1 ∧ a1 ≤ 2147483647)  : ∃ r hₚ, gz_Ev ws0 tb 1 (yX12_out, cX12_out, 2, (some .int)) [.inr (.inr (some 0)), .inl a1] sh (gc_h sh I J A) r sh hₚ 0 0 ∧ (hₚ = gc_h sh I J A ∧ (∃ z : Int, r = some (.inl z) ∧ (-1) ≤ z ∧ z ≤ 255)) := by
  have A_0_2 : A 0 2 = some 27 := gc_bA_0_2 hb
  have A_27_0 : A 27 0 = some 28 := gc_bA_27_0 hb
  have B_0 := gz_hi (show 0 < 1000000 from by decide)
  have B_27 := gz_hi (show 27 < 1000000 from by decide)
  have B_28 := gz_hi (show 28 < 1000000 from by decide)
  have R_27 := gz_hi (show ro 27 = 3 from gc_bR_27 hb)
  have R_28 := gz_hi (show ro 28 = 1 from gc_bR_28 hb)
  have S_0 : sh[0]? = some (false, 12, 17) := gc_bS_0 hb
  have S_27 : sh[27]? = some (false, 9, 10) := gc_bS_27 hb
  have S_28 : sh[28]? = some (true, 0, 1000) := gc_bS_28 hb
  have hD : gv_D (gc_E12 ws0 tb 0 (yX12_out, cX12_out, 2, (some .int)) kX12_out) := gq_of oX12_out
  refine gc_ev12 (d := 0) (l := kX12_out) (Po := fun r hₚ => (hₚ = gc_h sh I J A ∧ (∃ z : Int, r = some (.inl z) ∧ (-1) ≤ z ∧ z ≤ 255))) htb rfl (Nat.le_of_ble_eq_true rfl) ?_
  have L32 : ∀ (s0_1 : Int), (((-1) ≤ s0_1 ∧ s0_1 ≤ 255)) → gv_X (gc_E12 ws0 tb 0 (yX12_out, cX12_out, 2, (some .int)) kX12_out) (gv_Q cX12_out (some .int) sh (fun r hₚ => (hₚ = gc_h sh I J A ∧ (∃ z : Int, r = some (.inl z) ∧ (-1) ≤ z ∧ z ≤ 255)))) (32, [], [.inl s0_1], sh, gc_h sh I J A) := by
    intro s0_1 m_1
    have hs0_1 := m_1
    exact gv_iret hD rfl ⟨rfl, ⟨_, rfl, by (/-0-/first | omega | (simp only [gz_hd] at *; omega))⟩⟩
  have L31 : gv_X (gc_E12 ws0 tb 0 (yX12_out, cX12_out, 2, (some .int)) kX12_out) (gv_Q cX12_out (some .int) sh (fun r hₚ => (hₚ = gc_h sh I J A ∧ (∃ z : Int, r = some (.inl z) ∧ (-1) ≤ z ∧ z ≤ 255)))) (31, [], [], sh, gc_h sh I J A) := by
    refine gv_run 1 true hD (pcₚ := 32) (lvₚ := []) (stₚ := [.inl (-1)]) (hₚ := gc_h sh I J A) (C := (True ∧ True)) rfl ⟨trivial, trivial⟩ ?_
    exact L32 (-1) (by (/-1-/first | (and_intros <;> omega) | (simp only [gz_hd] at *; omega)))
  refine gv_run 1 true hD (pcₚ := 1) (lvₚ := [(0, .inr (.inr (some 0))), (1, .inl a1)]) (stₚ := [.inl a1]) (hₚ := gc_h sh I J A) (C := (True ∧ True)) rfl ⟨trivial, trivial⟩ ?_
  refine gv_if_lt (t := 31) hD rfl rfl ⟨by (/-2-/first | omega | (simp only [gz_hd] at *; omega)), by (/-3-/first | omega | (simp only [gz_hd] at *; omega))⟩ (fun c3 => ?_) (fun c3 => ?_)
  · show gv_X _ _ (31, [(0, .inr (.inr (some 0))), (1, .inl a1)], [], sh, gc_h sh I J A)
    refine gv_pick [] rfl ?_
    exact L31 
  · show gv_X _ _ (4, [(0, .inr (.inr (some 0))), (1, .inl a1)], [], sh, gc_h sh I J A)
    refine gv_run 2 true hD (pcₚ := 6) (lvₚ := [(0, .inr (.inr (some 0))), (1, .inl a1)]) (stₚ := [.inr (.inr (some 0)), .inl a1]) (hₚ := gc_h sh I J A) (C := ((True ∧ True) ∧ True)) rfl ⟨⟨trivial, trivial⟩, trivial⟩ ?_
    refine gv_get hD rfl rfl S_0 ⟨by decide, (gz_sh B_0)⟩ (gc_hA S_0 rfl A_0_2) ?_
    show gv_X _ _ (9, [(0, .inr (.inr (some 0))), (1, .inl a1)], [.inr (.inr (some 27)), .inl a1], sh, gc_h sh I J A)
    have f4 := gz_hi ((gc_b_3_1 hI (gz_sh R_27)))
    refine gv_get hD rfl rfl S_27 ⟨by decide, (gz_sh B_27)⟩ (gc_hI S_27 rfl) ?_
    show gv_X _ _ (12, [(0, .inr (.inr (some 0))), (1, .inl a1)], [.inl (I 27 1), .inl a1], sh, gc_h sh I J A)
    refine gv_icmp_ge (t := 31) hD rfl rfl ⟨⟨by (/-4-/first | omega | (simp only [gz_hd] at *; omega)), by (/-5-/first | omega | (simp only [gz_hd] at *; omega))⟩, ⟨by (/-6-/first | (have o1 := gz_sh f4; omega) | (simp only [gz_hd] at *; omega)), by (/-7-/first | (have o1 := gz_sh f4; omega) | (simp only [gz_hd] at *; omega))⟩⟩ (fun c5 => ?_) (fun c5 => ?_)
    · show gv_X _ _ (31, [(0, .inr (.inr (some 0))), (1, .inl a1)], [], sh, gc_h sh I J A)
      refine gv_pick [] rfl ?_
      exact L31 
    · show gv_X _ _ (15, [(0, .inr (.inr (some 0))), (1, .inl a1)], [], sh, gc_h sh I J A)
      refine gv_run 1 true hD (pcₚ := 16) (lvₚ := [(0, .inr (.inr (some 0))), (1, .inl a1)]) (stₚ := [.inr (.inr (some 0))]) (hₚ := gc_h sh I J A) (C := (True ∧ True)) rfl ⟨trivial, trivial⟩ ?_
      refine gv_get hD rfl rfl S_0 ⟨by decide, (gz_sh B_0)⟩ (gc_hA S_0 rfl A_0_2) ?_
      show gv_X _ _ (19, [(0, .inr (.inr (some 0))), (1, .inl a1)], [.inr (.inr (some 27))], sh, gc_h sh I J A)
      refine gv_get hD rfl rfl S_27 ⟨by decide, (gz_sh B_27)⟩ (gc_hA S_27 rfl A_27_0) ?_
      show gv_X _ _ (22, [(0, .inr (.inr (some 0))), (1, .inl a1)], [.inr (.inr (some 28))], sh, gc_h sh I J A)
      refine gv_run 1 true hD (pcₚ := 23) (lvₚ := [(0, .inr (.inr (some 0))), (1, .inl a1)]) (stₚ := [.inl a1, .inr (.inr (some 28))]) (hₚ := gc_h sh I J A) (C := (True ∧ True)) rfl ⟨trivial, trivial⟩ ?_
      refine gv_bald hD rfl S_28 (Or.inl rfl) ⟨by decide, (gz_sh B_28)⟩ ⟨by (/-8-/first | omega | (simp only [gz_hd] at *; omega)), by (/-9-/first | (have o1 := gz_sh f4; omega) | (simp only [gz_hd] at *; omega))⟩ (gc_iI S_28 rfl) ?_
      show gv_X _ _ (24, [(0, .inr (.inr (some 0))), (1, .inl a1)], [.inl (I 28 (Int.toNat a1))], sh, gc_h sh I J A)
      have f7 := gz_hi (gw_and (x := ((I 28 (Int.toNat a1)))) (y := 255) ⟨by (/-10-/first | omega | (simp only [gz_hd] at *; omega)), by (/-11-/first | omega | (simp only [gz_hd] at *; omega))⟩)
      refine gv_run 3 true hD (pcₚ := 32) (lvₚ := [(0, .inr (.inr (some 0))), (1, .inl a1)]) (stₚ := [.inl ((Int32.ofInt ((I 28 (Int.toNat a1))) &&& Int32.ofInt 255).toInt)]) (hₚ := gc_h sh I J A) (C := (((True ∧ True) ∧ True) ∧ True)) rfl ⟨⟨⟨trivial, trivial⟩, trivial⟩, trivial⟩ ?_
      refine gv_pick [] rfl ?_
      exact L32 (((Int32.ofInt ((I 28 (Int.toNat a1))) &&& Int32.ofInt 255).toInt)) (by (/-12-/first | (and_intros; (have o1 := gz_sh f7; omega); (have o1 := gz_sh f7; omega)) | (simp only [gz_hd] at *; omega)))
set_option maxHeartbeats 8000000 in
set_option maxRecDepth 100000 in
theorem d_X12_analysis {ws0 : List Cond} {tb : String → gz_T} (hws : gc_Ws ws0) (htb : gc_tbs tb) (sh : gz_Sh) (ro : Nat → Nat) (I : gr_I) (J : gr_J) (A : gc_A) (hI : gc_Inv ro I) (a1 : Int) (a2 : Int) (hb : gc_Base sh ro A) (ha1 : (-2147483648) ≤ a1 ∧ a1 ≤ 2147483647) (ha2 : 0 ≤ a2 ∧ a2 ≤ 11) (x0 : gc_Ts sh ro A I) (x1 : I 100 2 = 0 ∨ I 100 1 < I 8 1) : ∃ r hₚ, gz_Ev ws0 tb 4 (yX12_analysis, cX12_analysis, 3, (some .int)) [.inr (.inr (some 0)), .inl a1, .inl a2] sh (gc_h sh I J A) r sh hₚ 0 0 ∧ (hₚ = gc_h sh I J A ∧ (∃ z : Int, r = some (.inl z) ∧ (-1) ≤ z ∧ z ≤ 20000)) := by
  have A_0_10 : A 0 10 = some 100 := gc_bA_0_10 hb
  have B_0 := gz_hi (show 0 < 1000000 from by decide)
  have B_100 := gz_hi (show 100 < 1000000 from by decide)
  have S_0 : sh[0]? = some (false, 12, 17) := gc_bS_0 hb
  have S_100 : sh[100]? = some (false, 1, 19) := gc_bS_100 hb
  have hD : gv_D (gc_E12 ws0 tb 3 (yX12_analysis, cX12_analysis, 3, (some .int)) kX12_analysis) := gq_of oX12_analysis
  refine gc_ev12 (d := 3) (l := kX12_analysis) (Po := fun r hₚ => (hₚ = gc_h sh I J A ∧ (∃ z : Int, r = some (.inl z) ∧ (-1) ≤ z ∧ z ≤ 20000))) htb rfl (Nat.le_of_ble_eq_true rfl) ?_
  refine gv_run 1 true hD (pcₚ := 1) (lvₚ := [(0, .inr (.inr (some 0))), (1, .inl a1), (2, .inl a2)]) (stₚ := [.inl a2]) (hₚ := gc_h sh I J A) (C := (True ∧ True)) rfl ⟨trivial, trivial⟩ ?_
  refine gv_if_lt (t := 10) hD rfl rfl ⟨by (/-0-/first | omega | (simp only [gz_hd] at *; omega)), by (/-1-/first | omega | (simp only [gz_hd] at *; omega))⟩ (fun c1 => ?_) (fun c1 => ?_)
  · exfalso; (/-2-/first | omega | (simp only [gz_hd] at *; omega))
  · show gv_X _ _ (4, [(0, .inr (.inr (some 0))), (1, .inl a1), (2, .inl a2)], [], sh, gc_h sh I J A)
    refine gv_run 2 true hD (pcₚ := 7) (lvₚ := [(0, .inr (.inr (some 0))), (1, .inl a1), (2, .inl a2)]) (stₚ := [.inl 11, .inl a2]) (hₚ := gc_h sh I J A) (C := ((True ∧ True) ∧ True)) rfl ⟨⟨trivial, trivial⟩, trivial⟩ ?_
    refine gv_icmp_le (t := 20) hD rfl rfl ⟨⟨by (/-3-/first | omega | (simp only [gz_hd] at *; omega)), by (/-4-/first | omega | (simp only [gz_hd] at *; omega))⟩, ⟨by (/-5-/first | omega | (simp only [gz_hd] at *; omega)), by (/-6-/first | omega | (simp only [gz_hd] at *; omega))⟩⟩ (fun c2 => ?_) (fun c2 => ?_)
    · show gv_X _ _ (20, [(0, .inr (.inr (some 0))), (1, .inl a1), (2, .inl a2)], [], sh, gc_h sh I J A)
      refine gv_run 1 true hD (pcₚ := 21) (lvₚ := [(0, .inr (.inr (some 0))), (1, .inl a1), (2, .inl a2)]) (stₚ := [.inr (.inr (some 0))]) (hₚ := gc_h sh I J A) (C := (True ∧ True)) rfl ⟨trivial, trivial⟩ ?_
      refine gv_get hD rfl rfl S_0 ⟨by decide, (gz_sh B_0)⟩ (gc_hA S_0 rfl A_0_10) ?_
      show gv_X _ _ (24, [(0, .inr (.inr (some 0))), (1, .inl a1), (2, .inl a2)], [.inr (.inr (some 100))], sh, gc_h sh I J A)
      refine gv_run 2 true hD (pcₚ := 26) (lvₚ := [(0, .inr (.inr (some 0))), (1, .inl a1), (2, .inl a2)]) (stₚ := [.inl a2, .inl a1, .inr (.inr (some 100))]) (hₚ := gc_h sh I J A) (C := ((True ∧ True) ∧ True)) rfl ⟨⟨trivial, trivial⟩, trivial⟩ ?_
      obtain ⟨r3, h3, E3, P3⟩ := d_X1_tellAnalysis (ws0 := ws0) (tb := tb) hws htb sh ro I J A hI  a1 a2 hb   ⟨by (/-7-/first | omega | (simp only [gz_hd] at *; omega)), by (/-8-/first | omega | (simp only [gz_hd] at *; omega))⟩ ⟨by (/-9-/first | omega | (simp only [gz_hd] at *; omega)), by (/-10-/first | omega | (simp only [gz_hd] at *; omega))⟩ x0 (by (/-11-/first | omega | (simp only [gz_hd] at *; omega))) 
      obtain ⟨rfl, ⟨z3, rfl, q3⟩⟩ := P3
      replace q3 := gz_hi q3
      refine gv_callV hD rfl (As := [.inl a1, .inl a2]) (st := []) rfl (gz_sh B_100) S_100 rfl (gc_lV12 hws rfl) (Nat.le_of_ble_eq_true rfl) (gz_Ev_mono (d := 3) (by decide) E3) ?_
      show gv_X _ _ (29, [(0, .inr (.inr (some 0))), (1, .inl a1), (2, .inl a2)], [.inl z3], sh, gc_h sh I J A)
      exact gv_iret hD rfl ⟨rfl, ⟨_, rfl, by (/-12-/first | (have o1 := gz_sh q3; omega) | (simp only [gz_hd] at *; omega))⟩⟩
    · exfalso; (/-13-/first | omega | (simp only [gz_hd] at *; omega))
set_option maxHeartbeats 8000000 in
set_option maxRecDepth 100000 in
theorem d_X12_guessed {ws0 : List Cond} {tb : String → gz_T} (hws : gc_Ws ws0) (htb : gc_tbs tb) (sh : gz_Sh) (ro : Nat → Nat) (I : gr_I) (J : gr_J) (A : gc_A) (hI : gc_Inv ro I) (a1 : Int) (a2 : Int) (hb : gc_Base sh ro A) (ha1 : (-2147483648) ≤ a1 ∧ a1 ≤ 2147483647) (ha2 : 0 ≤ a2 ∧ a2 ≤ 3)  : ∃ r hₚ, gz_Ev ws0 tb 2 (yX12_guessed, cX12_guessed, 3, (some .int)) [.inr (.inr (some 0)), .inl a1, .inl a2] sh (gc_h sh I J A) r sh hₚ 0 0 ∧ (hₚ = gc_h sh I J A ∧ (∃ z : Int, r = some (.inl z) ∧ (-1) ≤ z ∧ z ≤ 1536)) := by
  have A_0_10 : A 0 10 = some 100 := gc_bA_0_10 hb
  have B_0 := gz_hi (show 0 < 1000000 from by decide)
  have B_100 := gz_hi (show 100 < 1000000 from by decide)
  have S_0 : sh[0]? = some (false, 12, 17) := gc_bS_0 hb
  have S_100 : sh[100]? = some (false, 1, 19) := gc_bS_100 hb
  have hD : gv_D (gc_E12 ws0 tb 1 (yX12_guessed, cX12_guessed, 3, (some .int)) kX12_guessed) := gq_of oX12_guessed
  refine gc_ev12 (d := 1) (l := kX12_guessed) (Po := fun r hₚ => (hₚ = gc_h sh I J A ∧ (∃ z : Int, r = some (.inl z) ∧ (-1) ≤ z ∧ z ≤ 1536))) htb rfl (Nat.le_of_ble_eq_true rfl) ?_
  refine gv_run 1 true hD (pcₚ := 1) (lvₚ := [(0, .inr (.inr (some 0))), (1, .inl a1), (2, .inl a2)]) (stₚ := [.inl a2]) (hₚ := gc_h sh I J A) (C := (True ∧ True)) rfl ⟨trivial, trivial⟩ ?_
  refine gv_if_lt (t := 9) hD rfl rfl ⟨by (/-0-/first | omega | (simp only [gz_hd] at *; omega)), by (/-1-/first | omega | (simp only [gz_hd] at *; omega))⟩ (fun c1 => ?_) (fun c1 => ?_)
  · exfalso; (/-2-/first | omega | (simp only [gz_hd] at *; omega))
  · show gv_X _ _ (4, [(0, .inr (.inr (some 0))), (1, .inl a1), (2, .inl a2)], [], sh, gc_h sh I J A)
    refine gv_run 2 true hD (pcₚ := 6) (lvₚ := [(0, .inr (.inr (some 0))), (1, .inl a1), (2, .inl a2)]) (stₚ := [.inl 3, .inl a2]) (hₚ := gc_h sh I J A) (C := ((True ∧ True) ∧ True)) rfl ⟨⟨trivial, trivial⟩, trivial⟩ ?_
    refine gv_icmp_le (t := 19) hD rfl rfl ⟨⟨by (/-3-/first | omega | (simp only [gz_hd] at *; omega)), by (/-4-/first | omega | (simp only [gz_hd] at *; omega))⟩, ⟨by (/-5-/first | omega | (simp only [gz_hd] at *; omega)), by (/-6-/first | omega | (simp only [gz_hd] at *; omega))⟩⟩ (fun c2 => ?_) (fun c2 => ?_)
    · show gv_X _ _ (19, [(0, .inr (.inr (some 0))), (1, .inl a1), (2, .inl a2)], [], sh, gc_h sh I J A)
      refine gv_run 1 true hD (pcₚ := 20) (lvₚ := [(0, .inr (.inr (some 0))), (1, .inl a1), (2, .inl a2)]) (stₚ := [.inr (.inr (some 0))]) (hₚ := gc_h sh I J A) (C := (True ∧ True)) rfl ⟨trivial, trivial⟩ ?_
      refine gv_get hD rfl rfl S_0 ⟨by decide, (gz_sh B_0)⟩ (gc_hA S_0 rfl A_0_10) ?_
      show gv_X _ _ (23, [(0, .inr (.inr (some 0))), (1, .inl a1), (2, .inl a2)], [.inr (.inr (some 100))], sh, gc_h sh I J A)
      refine gv_run 2 true hD (pcₚ := 25) (lvₚ := [(0, .inr (.inr (some 0))), (1, .inl a1), (2, .inl a2)]) (stₚ := [.inl a2, .inl a1, .inr (.inr (some 100))]) (hₚ := gc_h sh I J A) (C := ((True ∧ True) ∧ True)) rfl ⟨⟨trivial, trivial⟩, trivial⟩ ?_
      obtain ⟨r3, h3, E3, P3⟩ := d_X1_tellGuess (ws0 := ws0) (tb := tb) hws htb sh ro I J A hI  a1 a2 hb   ⟨by (/-7-/first | omega | (simp only [gz_hd] at *; omega)), by (/-8-/first | omega | (simp only [gz_hd] at *; omega))⟩ ⟨by (/-9-/first | omega | (simp only [gz_hd] at *; omega)), by (/-10-/first | omega | (simp only [gz_hd] at *; omega))⟩  
      obtain ⟨rfl, ⟨z3, rfl, q3⟩⟩ := P3
      replace q3 := gz_hi q3
      refine gv_callV hD rfl (As := [.inl a1, .inl a2]) (st := []) rfl (gz_sh B_100) S_100 rfl (gc_lV12 hws rfl) (Nat.le_of_ble_eq_true rfl) (gz_Ev_mono (d := 1) (by decide) E3) ?_
      show gv_X _ _ (28, [(0, .inr (.inr (some 0))), (1, .inl a1), (2, .inl a2)], [.inl z3], sh, gc_h sh I J A)
      exact gv_iret hD rfl ⟨rfl, ⟨_, rfl, by (/-11-/first | (have o1 := gz_sh q3; omega) | (simp only [gz_hd] at *; omega))⟩⟩
    · exfalso; (/-12-/first | omega | (simp only [gz_hd] at *; omega))
set_option maxHeartbeats 8000000 in
set_option maxRecDepth 100000 in
theorem d_X12_hit {ws0 : List Cond} {tb : String → gz_T} (hws : gc_Ws ws0) (htb : gc_tbs tb) (sh : gz_Sh) (ro : Nat → Nat) (I : gr_I) (J : gr_J) (A : gc_A) (hI : gc_Inv ro I) (a1 : Int) (a2 : Int) (hb : gc_Base sh ro A) (ha1 : (-2147483648) ≤ a1 ∧ a1 ≤ 2147483647) (ha2 : 0 ≤ a2 ∧ a2 ≤ 1)  : ∃ r hₚ, gz_Ev ws0 tb 2 (yX12_hit, cX12_hit, 3, (some .int)) [.inr (.inr (some 0)), .inl a1, .inl a2] sh (gc_h sh I J A) r sh hₚ 0 0 ∧ (hₚ = gc_h sh I J A ∧ (∃ z : Int, r = some (.inl z) ∧ (-1) ≤ z ∧ z ≤ 99)) := by
  have A_0_10 : A 0 10 = some 100 := gc_bA_0_10 hb
  have B_0 := gz_hi (show 0 < 1000000 from by decide)
  have B_100 := gz_hi (show 100 < 1000000 from by decide)
  have S_0 : sh[0]? = some (false, 12, 17) := gc_bS_0 hb
  have S_100 : sh[100]? = some (false, 1, 19) := gc_bS_100 hb
  have hD : gv_D (gc_E12 ws0 tb 1 (yX12_hit, cX12_hit, 3, (some .int)) kX12_hit) := gq_of oX12_hit
  refine gc_ev12 (d := 1) (l := kX12_hit) (Po := fun r hₚ => (hₚ = gc_h sh I J A ∧ (∃ z : Int, r = some (.inl z) ∧ (-1) ≤ z ∧ z ≤ 99))) htb rfl (Nat.le_of_ble_eq_true rfl) ?_
  refine gv_run 1 true hD (pcₚ := 1) (lvₚ := [(0, .inr (.inr (some 0))), (1, .inl a1), (2, .inl a2)]) (stₚ := [.inl a2]) (hₚ := gc_h sh I J A) (C := (True ∧ True)) rfl ⟨trivial, trivial⟩ ?_
  refine gv_if_lt (t := 9) hD rfl rfl ⟨by (/-0-/first | omega | (simp only [gz_hd] at *; omega)), by (/-1-/first | omega | (simp only [gz_hd] at *; omega))⟩ (fun c1 => ?_) (fun c1 => ?_)
  · exfalso; (/-2-/first | omega | (simp only [gz_hd] at *; omega))
  · show gv_X _ _ (4, [(0, .inr (.inr (some 0))), (1, .inl a1), (2, .inl a2)], [], sh, gc_h sh I J A)
    refine gv_run 2 true hD (pcₚ := 6) (lvₚ := [(0, .inr (.inr (some 0))), (1, .inl a1), (2, .inl a2)]) (stₚ := [.inl 1, .inl a2]) (hₚ := gc_h sh I J A) (C := ((True ∧ True) ∧ True)) rfl ⟨⟨trivial, trivial⟩, trivial⟩ ?_
    refine gv_icmp_le (t := 19) hD rfl rfl ⟨⟨by (/-3-/first | omega | (simp only [gz_hd] at *; omega)), by (/-4-/first | omega | (simp only [gz_hd] at *; omega))⟩, ⟨by (/-5-/first | omega | (simp only [gz_hd] at *; omega)), by (/-6-/first | omega | (simp only [gz_hd] at *; omega))⟩⟩ (fun c2 => ?_) (fun c2 => ?_)
    · show gv_X _ _ (19, [(0, .inr (.inr (some 0))), (1, .inl a1), (2, .inl a2)], [], sh, gc_h sh I J A)
      refine gv_run 1 true hD (pcₚ := 20) (lvₚ := [(0, .inr (.inr (some 0))), (1, .inl a1), (2, .inl a2)]) (stₚ := [.inr (.inr (some 0))]) (hₚ := gc_h sh I J A) (C := (True ∧ True)) rfl ⟨trivial, trivial⟩ ?_
      refine gv_get hD rfl rfl S_0 ⟨by decide, (gz_sh B_0)⟩ (gc_hA S_0 rfl A_0_10) ?_
      show gv_X _ _ (23, [(0, .inr (.inr (some 0))), (1, .inl a1), (2, .inl a2)], [.inr (.inr (some 100))], sh, gc_h sh I J A)
      refine gv_run 2 true hD (pcₚ := 25) (lvₚ := [(0, .inr (.inr (some 0))), (1, .inl a1), (2, .inl a2)]) (stₚ := [.inl a2, .inl a1, .inr (.inr (some 100))]) (hₚ := gc_h sh I J A) (C := ((True ∧ True) ∧ True)) rfl ⟨⟨trivial, trivial⟩, trivial⟩ ?_
      obtain ⟨r3, h3, E3, P3⟩ := d_X1_tellHit (ws0 := ws0) (tb := tb) hws htb sh ro I J A hI  a1 a2 hb   ⟨by (/-7-/first | omega | (simp only [gz_hd] at *; omega)), by (/-8-/first | omega | (simp only [gz_hd] at *; omega))⟩ ⟨by (/-9-/first | omega | (simp only [gz_hd] at *; omega)), by (/-10-/first | omega | (simp only [gz_hd] at *; omega))⟩  
      obtain ⟨rfl, ⟨z3, rfl, q3⟩⟩ := P3
      replace q3 := gz_hi q3
      refine gv_callV hD rfl (As := [.inl a1, .inl a2]) (st := []) rfl (gz_sh B_100) S_100 rfl (gc_lV12 hws rfl) (Nat.le_of_ble_eq_true rfl) (gz_Ev_mono (d := 1) (by decide) E3) ?_
      show gv_X _ _ (28, [(0, .inr (.inr (some 0))), (1, .inl a1), (2, .inl a2)], [.inl z3], sh, gc_h sh I J A)
      exact gv_iret hD rfl ⟨rfl, ⟨_, rfl, by (/-11-/first | (have o1 := gz_sh q3; omega) | (simp only [gz_hd] at *; omega))⟩⟩
    · exfalso; (/-12-/first | omega | (simp only [gz_hd] at *; omega))
set_option maxHeartbeats 8000000 in
set_option maxRecDepth 100000 in
theorem d_X12_checkKind {ws0 : List Cond} {tb : String → gz_T} (hws : gc_Ws ws0) (htb : gc_tbs tb) (sh : gz_Sh) (ro : Nat → Nat) (I : gr_I) (J : gr_J) (A : gc_A) (hI : gc_Inv ro I) (a1 : Int) (hb : gc_Base sh ro A) (ha1 : 0 ≤ a1 ∧ a1 ≤ 31) (x0 : a1 < I 2 1) : ∃ r hₚ, gz_Ev ws0 tb 1 (yX12_checkKind, cX12_checkKind, 2, none) [.inr (.inr (some 0)), .inl a1] sh (gc_h sh I J A) r sh hₚ 0 0 ∧ (hₚ = gc_h sh I J A ∧ r = none) := by
  have A_0_0 : A 0 0 = some 1 := gc_bA_0_0 hb
  have A_1_0 : A 1 0 = some 2 := gc_bA_1_0 hb
  have B_0 := gz_hi (show 0 < 1000000 from by decide)
  have B_1 := gz_hi (show 1 < 1000000 from by decide)
  have B_2 := gz_hi (show 2 < 1000000 from by decide)
  have R_2 := gz_hi (show ro 2 = 9 from gc_bR_2 hb)
  have S_0 : sh[0]? = some (false, 12, 17) := gc_bS_0 hb
  have S_1 : sh[1]? = some (false, 8, 21) := gc_bS_1 hb
  have S_2 : sh[2]? = some (false, 4, 2) := gc_bS_2 hb
  have hD : gv_D (gc_E12 ws0 tb 0 (yX12_checkKind, cX12_checkKind, 2, none) kX12_checkKind) := gq_of oX12_checkKind
  refine gc_ev12 (d := 0) (l := kX12_checkKind) (Po := fun r hₚ => (hₚ = gc_h sh I J A ∧ r = none)) htb rfl (Nat.le_of_ble_eq_true rfl) ?_
  refine gv_run 1 true hD (pcₚ := 1) (lvₚ := [(0, .inr (.inr (some 0))), (1, .inl a1)]) (stₚ := [.inl a1]) (hₚ := gc_h sh I J A) (C := (True ∧ True)) rfl ⟨trivial, trivial⟩ ?_
  refine gv_if_lt (t := 18) hD rfl rfl ⟨by (/-0-/first | omega | (simp only [gz_hd] at *; omega)), by (/-1-/first | omega | (simp only [gz_hd] at *; omega))⟩ (fun c1 => ?_) (fun c1 => ?_)
  · exfalso; (/-2-/first | omega | (simp only [gz_hd] at *; omega))
  · show gv_X _ _ (4, [(0, .inr (.inr (some 0))), (1, .inl a1)], [], sh, gc_h sh I J A)
    refine gv_run 2 true hD (pcₚ := 6) (lvₚ := [(0, .inr (.inr (some 0))), (1, .inl a1)]) (stₚ := [.inr (.inr (some 0)), .inl a1]) (hₚ := gc_h sh I J A) (C := ((True ∧ True) ∧ True)) rfl ⟨⟨trivial, trivial⟩, trivial⟩ ?_
    refine gv_get hD rfl rfl S_0 ⟨by decide, (gz_sh B_0)⟩ (gc_hA S_0 rfl A_0_0) ?_
    show gv_X _ _ (9, [(0, .inr (.inr (some 0))), (1, .inl a1)], [.inr (.inr (some 1)), .inl a1], sh, gc_h sh I J A)
    refine gv_get hD rfl rfl S_1 ⟨by decide, (gz_sh B_1)⟩ (gc_hA S_1 rfl A_1_0) ?_
    show gv_X _ _ (12, [(0, .inr (.inr (some 0))), (1, .inl a1)], [.inr (.inr (some 2)), .inl a1], sh, gc_h sh I J A)
    have f2 := gz_hi ((gc_b_9_1 hI (gz_sh R_2)))
    refine gv_get hD rfl rfl S_2 ⟨by decide, (gz_sh B_2)⟩ (gc_hI S_2 rfl) ?_
    show gv_X _ _ (15, [(0, .inr (.inr (some 0))), (1, .inl a1)], [.inl (I 2 1), .inl a1], sh, gc_h sh I J A)
    refine gv_icmp_lt (t := 29) hD rfl rfl ⟨⟨by (/-3-/first | omega | (simp only [gz_hd] at *; omega)), by (/-4-/first | omega | (simp only [gz_hd] at *; omega))⟩, ⟨by (/-5-/first | (have o1 := gz_sh f2; omega) | (simp only [gz_hd] at *; omega)), by (/-6-/first | (have o1 := gz_sh f2; omega) | (simp only [gz_hd] at *; omega))⟩⟩ (fun c3 => ?_) (fun c3 => ?_)
    · show gv_X _ _ (29, [(0, .inr (.inr (some 0))), (1, .inl a1)], [], sh, gc_h sh I J A)
      exact gv_vret hD rfl ⟨rfl, rfl⟩
    · show gv_X _ _ (18, [(0, .inr (.inr (some 0))), (1, .inl a1)], [], sh, gc_h sh I J A)
      exfalso; (/-7-/first | omega | (simp only [gz_hd] at *; omega))
set_option maxHeartbeats 8000000 in
set_option maxRecDepth 100000 in
theorem d_X12_checkPlace {ws0 : List Cond} {tb : String → gz_T} (hws : gc_Ws ws0) (htb : gc_tbs tb) (sh : gz_Sh) (ro : Nat → Nat) (I : gr_I) (J : gr_J) (A : gc_A) (hI : gc_Inv ro I) (a1 : Int) (hb : gc_Base sh ro A) (ha1 : 0 ≤ a1 ∧ a1 ≤ 7)  : ∃ r hₚ, gz_Ev ws0 tb 1 (yX12_checkPlace, cX12_checkPlace, 1, none) [.inl a1] sh (gc_h sh I J A) r sh hₚ 0 0 ∧ (hₚ = gc_h sh I J A ∧ r = none) := by
  have hD : gv_D (gc_E12 ws0 tb 0 (yX12_checkPlace, cX12_checkPlace, 1, none) kX12_checkPlace) := gq_of oX12_checkPlace
  refine gc_ev12 (d := 0) (l := kX12_checkPlace) (Po := fun r hₚ => (hₚ = gc_h sh I J A ∧ r = none)) htb rfl (Nat.le_of_ble_eq_true rfl) ?_
  refine gv_run 1 true hD (pcₚ := 1) (lvₚ := [(0, .inl a1)]) (stₚ := [.inl a1]) (hₚ := gc_h sh I J A) (C := (True ∧ True)) rfl ⟨trivial, trivial⟩ ?_
  refine gv_if_lt (t := 10) hD rfl rfl ⟨by omega, by omega⟩ (fun c1 => ?_) (fun c1 => ?_)
  · exfalso; omega
  · show gv_X _ _ (4, [(0, .inl a1)], [], sh, gc_h sh I J A)
    refine gv_run 2 true hD (pcₚ := 7) (lvₚ := [(0, .inl a1)]) (stₚ := [.inl 8, .inl a1]) (hₚ := gc_h sh I J A) (C := ((True ∧ True) ∧ True)) rfl ⟨⟨trivial, trivial⟩, trivial⟩ ?_
    refine gv_icmp_lt (t := 21) hD rfl rfl ⟨⟨by omega, by omega⟩, ⟨by omega, by omega⟩⟩ (fun c2 => ?_) (fun c2 => ?_)
    · show gv_X _ _ (21, [(0, .inl a1)], [], sh, gc_h sh I J A)
      exact gv_vret hD rfl ⟨rfl, rfl⟩
    · exfalso; omega
