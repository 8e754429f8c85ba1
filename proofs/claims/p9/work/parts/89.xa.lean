set_option maxHeartbeats 8000000 in
set_option maxRecDepth 100000 in
theorem d_X9_put_s {ws0 : List Cond} {tb : String → gz_T} (hws : gc_Ws ws0) (htb : gc_tbs tb) (sh : gz_Sh) (ro : Nat → Nat) (I : gr_I) (J : gr_J) (A : gc_A) (hI : gc_Inv ro I) (p : Nat) (a1 : Int) (hp : gc_isText sh ro A p) (ha1 : (-2147483648) ≤ a1 ∧ a1 ≤ 2147483647)  : ∃ r hₚ, gz_Ev ws0 tb 1 (yX9_put, cX9_put, 2, none) [.inr (.inr (some p)), .inl a1] sh (gc_h sh I J A) r sh hₚ 0 0 ∧ (∃ (Iₚ : gr_I) (Jₚ : gr_J), hₚ = gc_h sh Iₚ Jₚ A ∧ gc_Inv ro Iₚ ∧ (∀ q j : Nat, ((q = p ∧ j = 1) ∨ (q = (p + 1) ∧ (I p 1 ≤ (j : Int)))) ∨ Iₚ q j = I q j) ∧ (∀ q j : Nat, (False) ∨ Jₚ q j = J q j) ∧ r = none ∧ (I p 1 = 1000 ∨ Iₚ p 1 = I p 1 + 1)) := by
  have FI : ∀ q j : Nat, ((q = p ∧ j = 1) ∨ (q = (p + 1) ∧ (I p 1 ≤ (j : Int)))) ∨ I q j = I q j := fun _ _ => Or.inr rfl
  have FJ : ∀ q j : Nat, (False) ∨ J q j = J q j := fun _ _ => Or.inr rfl
  obtain ⟨S_p, R_p, B_p, A_p_0, S_p_1, R_p_1, B_p_1, A_p_2, S_p_2, R_p_2, B_p_2, A_p_3, S_p_3, R_p_3, B_p_3⟩ := id hp
  replace R_p := gz_hi R_p
  replace B_p := gz_hi B_p
  replace R_p_1 := gz_hi R_p_1
  replace B_p_1 := gz_hi B_p_1
  replace R_p_2 := gz_hi R_p_2
  replace B_p_2 := gz_hi B_p_2
  replace R_p_3 := gz_hi R_p_3
  replace B_p_3 := gz_hi B_p_3
  have hD : gv_D (gc_E9 ws0 tb 0 (yX9_put, cX9_put, 2, none) kX9_put) := gq_of oX9_put
  refine gc_ev9 (d := 0) (l := kX9_put) (Po := fun r hₚ => (∃ (Iₚ : gr_I) (Jₚ : gr_J), hₚ = gc_h sh Iₚ Jₚ A ∧ gc_Inv ro Iₚ ∧ (∀ q j : Nat, ((q = p ∧ j = 1) ∨ (q = (p + 1) ∧ (I p 1 ≤ (j : Int)))) ∨ Iₚ q j = I q j) ∧ (∀ q j : Nat, (False) ∨ Jₚ q j = J q j) ∧ r = none ∧ (I p 1 = 1000 ∨ Iₚ p 1 = I p 1 + 1))) htb rfl (Nat.le_of_ble_eq_true rfl) ?_
  have N_p__p_1 := gz_hi (show ¬ (p = (p + 1)) from by (/-0-/first | omega | (simp only [gz_hd] at *; omega)))
  have f1 := gz_hi ((show 0 ≤ I p 1 ∧ I p 1 ≤ 1000 from gc_in2 hI (gz_sh R_p) rfl rfl rfl))
  have L28 : ∀ (I2 : gr_I) (J3 : gr_J) , gc_Inv ro I2 → (∀ q j : Nat, ((q = p ∧ j = 1) ∨ (q = (p + 1) ∧ (I p 1 ≤ (j : Int)))) ∨ I2 q j = I q j) → (∀ q j : Nat, (False) ∨ J3 q j = J q j) → ((I p 1 = 1000 ∨ I2 p 1 = I p 1 + 1)) → gv_X (gc_E9 ws0 tb 0 (yX9_put, cX9_put, 2, none) kX9_put) (gv_Q cX9_put none sh (fun r hₚ => (∃ (Iₚ : gr_I) (Jₚ : gr_J), hₚ = gc_h sh Iₚ Jₚ A ∧ gc_Inv ro Iₚ ∧ (∀ q j : Nat, ((q = p ∧ j = 1) ∨ (q = (p + 1) ∧ (I p 1 ≤ (j : Int)))) ∨ Iₚ q j = I q j) ∧ (∀ q j : Nat, (False) ∨ Jₚ q j = J q j) ∧ r = none ∧ (I p 1 = 1000 ∨ Iₚ p 1 = I p 1 + 1)))) (28, [], [], sh, gc_h sh I2 J3 A) := by
    intro I2 J3 hI2 FI2 FJ3 m_4
    have e0_4 := m_4
    exact gv_vret hD rfl ⟨I2, J3, rfl, hI2, FI2, FJ3, ⟨rfl, by (/-1-/first | omega | (simp only [gz_hd] at *; omega))⟩⟩
  refine gv_run 1 true hD (pcₚ := 1) (lvₚ := [(0, .inr (.inr (some p))), (1, .inl a1)]) (stₚ := [.inr (.inr (some p))]) (hₚ := gc_h sh I J A) (C := (True ∧ True)) rfl ⟨trivial, trivial⟩ ?_
  refine gv_get hD rfl rfl S_p ⟨by decide, (gz_sh B_p)⟩ (gc_hI S_p rfl) ?_
  show gv_X _ _ (4, [(0, .inr (.inr (some p))), (1, .inl a1)], [.inl (I p 1)], sh, gc_h sh I J A)
  refine gv_run 1 true hD (pcₚ := 7) (lvₚ := [(0, .inr (.inr (some p))), (1, .inl a1)]) (stₚ := [.inl 1000, .inl (I p 1)]) (hₚ := gc_h sh I J A) (C := (True ∧ True)) rfl ⟨trivial, trivial⟩ ?_
  refine gv_icmp_ge (t := 28) hD rfl rfl ⟨⟨by (/-2-/first | (have o1 := gz_sh f1; omega) | (simp only [gz_hd] at *; omega)), by (/-3-/first | (have o1 := gz_sh f1; omega) | (simp only [gz_hd] at *; omega))⟩, ⟨by (/-4-/first | omega | (simp only [gz_hd] at *; omega)), by (/-5-/first | omega | (simp only [gz_hd] at *; omega))⟩⟩ (fun c7 => ?_) (fun c7 => ?_)
  · show gv_X _ _ (28, [(0, .inr (.inr (some p))), (1, .inl a1)], [], sh, gc_h sh I J A)
    refine gv_pick [] rfl ?_
    exact L28 I J hI FI FJ (by (/-6-/first | (have o1 := gz_sh f1; omega) | (simp only [gz_hd] at *; omega)))
  · show gv_X _ _ (10, [(0, .inr (.inr (some p))), (1, .inl a1)], [], sh, gc_h sh I J A)
    refine gv_run 1 true hD (pcₚ := 11) (lvₚ := [(0, .inr (.inr (some p))), (1, .inl a1)]) (stₚ := [.inr (.inr (some p))]) (hₚ := gc_h sh I J A) (C := (True ∧ True)) rfl ⟨trivial, trivial⟩ ?_
    refine gv_get hD rfl rfl S_p ⟨by decide, (gz_sh B_p)⟩ (gc_hA S_p rfl A_p_0) ?_
    show gv_X _ _ (14, [(0, .inr (.inr (some p))), (1, .inl a1)], [.inr (.inr (some (p + 1)))], sh, gc_h sh I J A)
    refine gv_run 2 true hD (pcₚ := 16) (lvₚ := [(0, .inr (.inr (some p))), (1, .inl a1)]) (stₚ := [.inr (.inr (some p)), .inr (.inr (some p)), .inr (.inr (some (p + 1)))]) (hₚ := gc_h sh I J A) (C := ((True ∧ True) ∧ True)) rfl ⟨⟨trivial, trivial⟩, trivial⟩ ?_
    refine gv_get hD rfl rfl S_p ⟨by decide, (gz_sh B_p)⟩ (gc_hI S_p rfl) ?_
    show gv_X _ _ (19, [(0, .inr (.inr (some p))), (1, .inl a1)], [.inl (I p 1), .inr (.inr (some p)), .inr (.inr (some (p + 1)))], sh, gc_h sh I J A)
    refine gv_run 3 true hD (pcₚ := 22) (lvₚ := [(0, .inr (.inr (some p))), (1, .inl a1)]) (stₚ := [.inl ((I p 1) + 1), .inr (.inr (some p)), .inl (I p 1), .inr (.inr (some (p + 1)))]) (hₚ := gc_h sh I J A) (C := (((True ∧ True) ∧ True) ∧ True)) rfl ⟨⟨⟨trivial, trivial⟩, trivial⟩, trivial⟩ ?_
    refine gv_put hD rfl rfl S_p ⟨by decide, (gz_sh B_p)⟩ rfl trivial ?_
    refine gc_st (k := 1) hI S_p rfl (gz_sh R_p) (lo := 0) (hi := 1000) rfl rfl (by (/-7-/first | (have o1 := gz_sh f1; omega) | (simp only [gz_hd] at *; omega))) (by (/-8-/first | omega | (simp only [gz_hd] at *; omega))) (fun I9 hI9 q10 p10 => ?_)
    have FI9 := gc_frs (W := fun q j => (q = p ∧ j = 1) ∨ (q = (p + 1) ∧ (I p 1 ≤ (j : Int)))) FI (Or.inl ⟨rfl, rfl⟩) p10
    show gv_X _ _ (25, [(0, .inr (.inr (some p))), (1, .inl a1)], [.inl (I p 1), .inr (.inr (some (p + 1)))], sh, gc_h sh I9 J A)
    have f12 := gz_hi (gw_i2b (x := a1))
    refine gv_run 2 true hD (pcₚ := 27) (lvₚ := [(0, .inr (.inr (some p))), (1, .inl a1)]) (stₚ := [.inl ((Int32.ofInt a1).toInt8.toInt32.toInt), .inl (I p 1), .inr (.inr (some (p + 1)))]) (hₚ := gc_h sh I9 J A) (C := ((True ∧ True) ∧ True)) rfl ⟨⟨trivial, trivial⟩, trivial⟩ ?_
    have f13 := gz_hi (gc_nar (x := (((Int32.ofInt a1).toInt8.toInt32.toInt))) ⟨by (/-9-/first | (have o1 := gz_sh f12; omega) | (simp only [gz_hd] at *; omega)), by (/-10-/first | (have o1 := gz_sh f12; omega) | (simp only [gz_hd] at *; omega))⟩)
    refine gv_bast hD rfl S_p_1 ⟨by decide, (gz_sh B_p_1)⟩ ⟨by (/-11-/first | (have o1 := gz_sh f1; omega) | (simp only [gz_hd] at *; omega)), by (/-12-/first | omega | (simp only [gz_hd] at *; omega))⟩ ?_
    refine gc_st hI9 S_p_1 rfl (gz_sh R_p_1) (lo := (-128)) (hi := 127) rfl rfl (by (/-13-/first | (have o1 := gz_sh f12; have o2 := gz_sh f13; omega) | (simp only [gz_hd] at *; omega))) (by (/-14-/first | (have o1 := gz_sh f12; have o2 := gz_sh f13; omega) | (simp only [gz_hd] at *; omega))) (fun I14 hI14 q15 p15 => ?_)
    have FI14 := gc_frs (W := fun q j => (q = p ∧ j = 1) ∨ (q = (p + 1) ∧ (I p 1 ≤ (j : Int)))) FI9 (Or.inr ⟨rfl, by (/-15-/first | omega | (simp only [gz_hd] at *; omega))⟩) p15
    have t16 := gz_hi (p15 p 1 (fun h => absurd h.1 (gz_sh N_p__p_1)))
    show gv_X _ _ (28, [(0, .inr (.inr (some p))), (1, .inl a1)], [], sh, gc_h sh I14 J A)
    refine gv_pick [] rfl ?_
    exact L28 I14 J hI14 FI14 FJ (by (/-16-/first | (have o1 := gz_sh t16; omega) | (simp only [gz_hd] at *; omega)))
set_option maxHeartbeats 8000000 in
set_option maxRecDepth 100000 in
theorem d_X9_putFour_s {ws0 : List Cond} {tb : String → gz_T} (hws : gc_Ws ws0) (htb : gc_tbs tb) (sh : gz_Sh) (ro : Nat → Nat) (I : gr_I) (J : gr_J) (A : gc_A) (hI : gc_Inv ro I) (p : Nat) (a1 : Int) (hp : gc_isText sh ro A p) (ha1 : (-2147483648) ≤ a1 ∧ a1 ≤ 2147483647) (x0 : I p 1 ≤ 996) : ∃ r hₚ, gz_Ev ws0 tb 2 (yX9_putFour, cX9_putFour, 2, none) [.inr (.inr (some p)), .inl a1] sh (gc_h sh I J A) r sh hₚ 0 0 ∧ (∃ (Iₚ : gr_I) (Jₚ : gr_J), hₚ = gc_h sh Iₚ Jₚ A ∧ gc_Inv ro Iₚ ∧ (∀ q j : Nat, ((q = p ∧ j = 1) ∨ (q = (p + 1) ∧ (I p 1 ≤ (j : Int)))) ∨ Iₚ q j = I q j) ∧ (∀ q j : Nat, (False) ∨ Jₚ q j = J q j) ∧ r = none ∧ (Iₚ p 1 = I p 1 + 4)) := by
  have FI : ∀ q j : Nat, ((q = p ∧ j = 1) ∨ (q = (p + 1) ∧ (I p 1 ≤ (j : Int)))) ∨ I q j = I q j := fun _ _ => Or.inr rfl
  have FJ : ∀ q j : Nat, (False) ∨ J q j = J q j := fun _ _ => Or.inr rfl
  obtain ⟨S_p, R_p, B_p, A_p_0, S_p_1, R_p_1, B_p_1, A_p_2, S_p_2, R_p_2, B_p_2, A_p_3, S_p_3, R_p_3, B_p_3⟩ := id hp
  replace R_p := gz_hi R_p
  replace B_p := gz_hi B_p
  replace R_p_1 := gz_hi R_p_1
  replace B_p_1 := gz_hi B_p_1
  replace R_p_2 := gz_hi R_p_2
  replace B_p_2 := gz_hi B_p_2
  replace R_p_3 := gz_hi R_p_3
  replace B_p_3 := gz_hi B_p_3
  have hD : gv_D (gc_E9 ws0 tb 1 (yX9_putFour, cX9_putFour, 2, none) kX9_putFour) := gq_of oX9_putFour
  refine gc_ev9 (d := 1) (l := kX9_putFour) (Po := fun r hₚ => (∃ (Iₚ : gr_I) (Jₚ : gr_J), hₚ = gc_h sh Iₚ Jₚ A ∧ gc_Inv ro Iₚ ∧ (∀ q j : Nat, ((q = p ∧ j = 1) ∨ (q = (p + 1) ∧ (I p 1 ≤ (j : Int)))) ∨ Iₚ q j = I q j) ∧ (∀ q j : Nat, (False) ∨ Jₚ q j = J q j) ∧ r = none ∧ (Iₚ p 1 = I p 1 + 4))) htb rfl (Nat.le_of_ble_eq_true rfl) ?_
  have f1 := gz_hi ((show 0 ≤ I p 1 ∧ I p 1 ≤ 1000 from gc_in2 hI (gz_sh R_p) rfl rfl rfl))
  have f2 := gz_hi (gw_any (Int32.ofInt a1 >>> (Int32.ofInt 24 &&& 31)))
  refine gv_run 4 true hD (pcₚ := 5) (lvₚ := [(0, .inr (.inr (some p))), (1, .inl a1)]) (stₚ := [.inl ((Int32.ofInt a1 >>> (Int32.ofInt 24 &&& 31)).toInt), .inr (.inr (some p))]) (hₚ := gc_h sh I J A) (C := ((((True ∧ True) ∧ True) ∧ True) ∧ True)) rfl ⟨⟨⟨⟨trivial, trivial⟩, trivial⟩, trivial⟩, trivial⟩ ?_
  obtain ⟨r3, h3, E3, P3⟩ := d_X9_put_s (ws0 := ws0) (tb := tb) hws htb sh ro I J A hI p (((Int32.ofInt a1 >>> (Int32.ofInt 24 &&& 31)).toInt)) hp   ⟨by (/-0-/first | (have o1 := gz_sh f2; omega) | (simp only [gz_hd] at *; omega)), by (/-1-/first | (have o1 := gz_sh f2; omega) | (simp only [gz_hd] at *; omega))⟩  
  obtain ⟨I4, J5, rfl, hI4, g3, k3, ⟨rfl, q3⟩⟩ := P3
  replace q3 := gz_hi q3
  have FI4 := gc_frc (W := fun q j => (q = p ∧ j = 1) ∨ (q = (p + 1) ∧ (I p 1 ≤ (j : Int)))) (V := fun q j => (q = p ∧ j = 1) ∨ (q = (p + 1) ∧ (I p 1 ≤ (j : Int)))) FI (fun q j h => (h.elim (fun h => (Or.inl h)) (fun h => (Or.inr h)))) g3
  obtain rfl : J = J5 := funext fun q => funext fun j => ((k3 q j).resolve_left id).symm
  refine gv_callV hD rfl (As := [.inl ((Int32.ofInt a1 >>> (Int32.ofInt 24 &&& 31)).toInt)]) (st := []) rfl (gz_sh B_p) S_p rfl (gc_lV9 hws rfl) (Nat.le_of_ble_eq_true rfl) (gz_Ev_mono (d := 1) (by decide) E3) ?_
  show gv_X _ _ (8, [(0, .inr (.inr (some p))), (1, .inl a1)], [], sh, gc_h sh I4 J A)
  have f7 := gz_hi (gw_any (Int32.ofInt a1 >>> (Int32.ofInt 16 &&& 31)))
  refine gv_run 4 true hD (pcₚ := 13) (lvₚ := [(0, .inr (.inr (some p))), (1, .inl a1)]) (stₚ := [.inl ((Int32.ofInt a1 >>> (Int32.ofInt 16 &&& 31)).toInt), .inr (.inr (some p))]) (hₚ := gc_h sh I4 J A) (C := ((((True ∧ True) ∧ True) ∧ True) ∧ True)) rfl ⟨⟨⟨⟨trivial, trivial⟩, trivial⟩, trivial⟩, trivial⟩ ?_
  obtain ⟨r8, h8, E8, P8⟩ := d_X9_put_s (ws0 := ws0) (tb := tb) hws htb sh ro I4 J A hI4 p (((Int32.ofInt a1 >>> (Int32.ofInt 16 &&& 31)).toInt)) hp   ⟨by (/-2-/first | (have o1 := gz_sh f7; omega) | (simp only [gz_hd] at *; omega)), by (/-3-/first | (have o1 := gz_sh f7; omega) | (simp only [gz_hd] at *; omega))⟩  
  obtain ⟨I9, J10, rfl, hI9, g8, k8, ⟨rfl, q8⟩⟩ := P8
  replace q8 := gz_hi q8
  have FI9 := gc_frc (W := fun q j => (q = p ∧ j = 1) ∨ (q = (p + 1) ∧ (I p 1 ≤ (j : Int)))) (V := fun q j => (q = p ∧ j = 1) ∨ (q = (p + 1) ∧ (I4 p 1 ≤ (j : Int)))) FI4 (fun q j h => (h.elim (fun h => (Or.inl h)) (fun h => (Or.inr ⟨h.1, by have h9 := h.2; (/-4-/first | (have o1 := gz_sh q3; omega) | (simp only [gz_hd] at *; omega))⟩)))) g8
  have f11 := gz_hi ((show 0 ≤ I9 p 1 ∧ I9 p 1 ≤ 1000 from gc_in2 hI9 (gz_sh R_p) rfl rfl rfl))
  obtain rfl : J = J10 := funext fun q => funext fun j => ((k8 q j).resolve_left id).symm
  refine gv_callV hD rfl (As := [.inl ((Int32.ofInt a1 >>> (Int32.ofInt 16 &&& 31)).toInt)]) (st := []) rfl (gz_sh B_p) S_p rfl (gc_lV9 hws rfl) (Nat.le_of_ble_eq_true rfl) (gz_Ev_mono (d := 1) (by decide) E8) ?_
  show gv_X _ _ (16, [(0, .inr (.inr (some p))), (1, .inl a1)], [], sh, gc_h sh I9 J A)
  have f12 := gz_hi (gw_any (Int32.ofInt a1 >>> (Int32.ofInt 8 &&& 31)))
  refine gv_run 4 true hD (pcₚ := 21) (lvₚ := [(0, .inr (.inr (some p))), (1, .inl a1)]) (stₚ := [.inl ((Int32.ofInt a1 >>> (Int32.ofInt 8 &&& 31)).toInt), .inr (.inr (some p))]) (hₚ := gc_h sh I9 J A) (C := ((((True ∧ True) ∧ True) ∧ True) ∧ True)) rfl ⟨⟨⟨⟨trivial, trivial⟩, trivial⟩, trivial⟩, trivial⟩ ?_
  obtain ⟨r13, h13, E13, P13⟩ := d_X9_put_s (ws0 := ws0) (tb := tb) hws htb sh ro I9 J A hI9 p (((Int32.ofInt a1 >>> (Int32.ofInt 8 &&& 31)).toInt)) hp   ⟨by (/-5-/first | (have o1 := gz_sh f12; omega) | (simp only [gz_hd] at *; omega)), by (/-6-/first | (have o1 := gz_sh f12; omega) | (simp only [gz_hd] at *; omega))⟩  
  obtain ⟨I14, J15, rfl, hI14, g13, k13, ⟨rfl, q13⟩⟩ := P13
  replace q13 := gz_hi q13
  have FI14 := gc_frc (W := fun q j => (q = p ∧ j = 1) ∨ (q = (p + 1) ∧ (I p 1 ≤ (j : Int)))) (V := fun q j => (q = p ∧ j = 1) ∨ (q = (p + 1) ∧ (I9 p 1 ≤ (j : Int)))) FI9 (fun q j h => (h.elim (fun h => (Or.inl h)) (fun h => (Or.inr ⟨h.1, by have h9 := h.2; (/-7-/first | (have o1 := gz_sh q3; have o2 := gz_sh q8; omega) | (simp only [gz_hd] at *; omega))⟩)))) g13
  have f16 := gz_hi ((show 0 ≤ I14 p 1 ∧ I14 p 1 ≤ 1000 from gc_in2 hI14 (gz_sh R_p) rfl rfl rfl))
  obtain rfl : J = J15 := funext fun q => funext fun j => ((k13 q j).resolve_left id).symm
  refine gv_callV hD rfl (As := [.inl ((Int32.ofInt a1 >>> (Int32.ofInt 8 &&& 31)).toInt)]) (st := []) rfl (gz_sh B_p) S_p rfl (gc_lV9 hws rfl) (Nat.le_of_ble_eq_true rfl) (gz_Ev_mono (d := 1) (by decide) E13) ?_
  show gv_X _ _ (24, [(0, .inr (.inr (some p))), (1, .inl a1)], [], sh, gc_h sh I14 J A)
  refine gv_run 2 true hD (pcₚ := 26) (lvₚ := [(0, .inr (.inr (some p))), (1, .inl a1)]) (stₚ := [.inl a1, .inr (.inr (some p))]) (hₚ := gc_h sh I14 J A) (C := ((True ∧ True) ∧ True)) rfl ⟨⟨trivial, trivial⟩, trivial⟩ ?_
  obtain ⟨r17, h17, E17, P17⟩ := d_X9_put_s (ws0 := ws0) (tb := tb) hws htb sh ro I14 J A hI14 p a1 hp   ⟨by (/-8-/first | omega | (simp only [gz_hd] at *; omega)), by (/-9-/first | omega | (simp only [gz_hd] at *; omega))⟩  
  obtain ⟨I18, J19, rfl, hI18, g17, k17, ⟨rfl, q17⟩⟩ := P17
  replace q17 := gz_hi q17
  have FI18 := gc_frc (W := fun q j => (q = p ∧ j = 1) ∨ (q = (p + 1) ∧ (I p 1 ≤ (j : Int)))) (V := fun q j => (q = p ∧ j = 1) ∨ (q = (p + 1) ∧ (I14 p 1 ≤ (j : Int)))) FI14 (fun q j h => (h.elim (fun h => (Or.inl h)) (fun h => (Or.inr ⟨h.1, by have h9 := h.2; (/-10-/first | (have o1 := gz_sh f1; have o2 := gz_sh q13; have o3 := gz_sh q17; have o4 := gz_sh q3; have o5 := gz_sh q8; omega) | (simp only [gz_hd] at *; omega))⟩)))) g17
  have f20 := gz_hi ((show 0 ≤ I18 p 1 ∧ I18 p 1 ≤ 1000 from gc_in2 hI18 (gz_sh R_p) rfl rfl rfl))
  obtain rfl : J = J19 := funext fun q => funext fun j => ((k17 q j).resolve_left id).symm
  refine gv_callV hD rfl (As := [.inl a1]) (st := []) rfl (gz_sh B_p) S_p rfl (gc_lV9 hws rfl) (Nat.le_of_ble_eq_true rfl) (gz_Ev_mono (d := 1) (by decide) E17) ?_
  show gv_X _ _ (29, [(0, .inr (.inr (some p))), (1, .inl a1)], [], sh, gc_h sh I18 J A)
  exact gv_vret hD rfl ⟨I18, J, rfl, hI18, FI18, FJ, ⟨rfl, by (/-11-/first | (have o1 := gz_sh f1; have o2 := gz_sh f11; have o3 := gz_sh f16; have o4 := gz_sh f20; have o5 := gz_sh q13; have o6 := gz_sh q17; have o7 := gz_sh q3; have o8 := gz_sh q8; omega) | (simp only [gz_hd] at *; omega))⟩⟩
