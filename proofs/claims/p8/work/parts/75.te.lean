set_option maxHeartbeats 8000000 in
set_option maxRecDepth 100000 in
theorem d_X10_tellLeaf {ws0 : List Cond} {tb : String → gz_T} (hws : gc_Ws ws0) (htb : gc_tbs tb) (sh : gz_Sh) (ro : Nat → Nat) (I : gr_I) (J : gr_J) (A : gc_A) (hI : gc_Inv ro I) (a1 : Int) (a2 : Int) (a3 : Nat) (hb : gc_Base sh ro A) (h_a3 : gc_isText sh ro A a3) (G_a3 : a3 + 3 < 39 ∨ (100 ≤ a3 ∧ a3 < 140)) (ha1 : 0 ≤ a1 ∧ a1 ≤ 299) (ha2 : 0 ≤ a2 ∧ a2 ≤ 300)  : ∃ r h', gz_Ev ws0 tb 3 (yX10_tellLeaf, cX10_tellLeaf, 4, none) [.inr (.inr (some 86)), .inl a1, .inl a2, .inr (.inr (some a3))] sh (gc_h sh I J A) r sh h' 0 0 ∧ (∃ (I' : gr_I) (J' : gr_J), h' = gc_h sh I' J' A ∧ gc_Inv ro I' ∧ (∀ q j : Nat, ((q = a3 ∧ j = 1) ∨ q = (a3 + 1)) ∨ I' q j = I q j) ∧ (∀ q j : Nat, (False) ∨ J' q j = J q j) ∧ r = none) := by
  have FI : ∀ q j : Nat, ((q = a3 ∧ j = 1) ∨ q = (a3 + 1)) ∨ I q j = I q j := fun _ _ => Or.inr rfl
  have FJ : ∀ q j : Nat, (False) ∨ J q j = J q j := fun _ _ => Or.inr rfl
  have B_86 : 86 < 1000000 := by decide
  have B_87 : 87 < 1000000 := by decide
  have B_88 : 88 < 1000000 := by decide
  have B_89 : 89 < 1000000 := by decide
  have B_90 : 90 < 1000000 := by decide
  have R_86 : ro 86 = 74 := gc_bR hb (by decide) rfl
  have R_87 : ro 87 = 77 := gc_bR hb (by decide) rfl
  have R_88 : ro 88 = 0 := gc_bR hb (by decide) rfl
  have R_89 : ro 89 = 77 := gc_bR hb (by decide) rfl
  have R_90 : ro 90 = 0 := gc_bR hb (by decide) rfl
  have S_86 : sh[86]? = some (false, 10, 19) := gc_bS hb rfl
  have S_87 : sh[87]? = some (true, 1, 300) := gc_bS hb rfl
  have S_88 : sh[88]? = some (true, 2, 300) := gc_bS hb rfl
  have S_89 : sh[89]? = some (true, 1, 300) := gc_bS hb rfl
  have S_90 : sh[90]? = some (true, 2, 300) := gc_bS hb rfl
  obtain ⟨S_a3, R_a3, B_a3, A_a3_0, S_a3_1, R_a3_1, B_a3_1, A_a3_2, S_a3_2, R_a3_2, B_a3_2, A_a3_3, S_a3_3, R_a3_3, B_a3_3⟩ := id h_a3
  have hD : gv_D (gc_E10 ws0 tb 2 (yX10_tellLeaf, cX10_tellLeaf, 4, none) kX10_tellLeaf) := gq_of oX10_tellLeaf
  refine gc_ev10 (d := 2) (l := kX10_tellLeaf) (Po := fun r h' => (∃ (I' : gr_I) (J' : gr_J), h' = gc_h sh I' J' A ∧ gc_Inv ro I' ∧ (∀ q j : Nat, ((q = a3 ∧ j = 1) ∨ q = (a3 + 1)) ∨ I' q j = I q j) ∧ (∀ q j : Nat, (False) ∨ J' q j = J q j) ∧ r = none)) htb rfl (Nat.le_of_ble_eq_true rfl) ?_
  have L42 : ∀ (I1 : gr_I) (J2 : gr_J) , gc_Inv ro I1 → (∀ q j : Nat, ((q = a3 ∧ j = 1) ∨ q = (a3 + 1)) ∨ I1 q j = I q j) → (∀ q j : Nat, (False) ∨ J2 q j = J q j) → gv_X (gc_E10 ws0 tb 2 (yX10_tellLeaf, cX10_tellLeaf, 4, none) kX10_tellLeaf) (gv_Q cX10_tellLeaf none sh (fun r h' => (∃ (I' : gr_I) (J' : gr_J), h' = gc_h sh I' J' A ∧ gc_Inv ro I' ∧ (∀ q j : Nat, ((q = a3 ∧ j = 1) ∨ q = (a3 + 1)) ∨ I' q j = I q j) ∧ (∀ q j : Nat, (False) ∨ J' q j = J q j) ∧ r = none))) (42, [], [], sh, gc_h sh I1 J2 A) := by
    intro I1 J2 hI1 FI1 FJ2
    exact gv_vret hD rfl ⟨I1, J2, rfl, hI1, FI1, FJ2, rfl⟩
  refine gv_run 1 true hD (pc' := 1) (lv' := [(0, .inr (.inr (some 86))), (1, .inl a1), (2, .inl a2), (3, .inr (.inr (some a3)))]) (st' := [.inr (.inr (some 86))]) (h' := gc_h sh I J A) (C := (True ∧ True)) rfl ⟨trivial, trivial⟩ ?_
  have f5 := (show 0 ≤ I 86 2 ∧ I 86 2 ≤ 1 from gc_in hI R_86 rfl rfl)
  obtain ⟨f4_, hq_f4_, S_f4, R_f4, B_f4, D_f4⟩ := gc_sw (p := 86) (d := 1) (s := 2) (z := I 86 2) (show 0 ≤ I 86 2 ∧ I 86 2 ≤ 1 from gc_in hI R_86 rfl rfl) S_87 R_87 B_87 S_89 R_89 B_89
  refine gv_get hD rfl rfl S_86 ⟨by decide, B_86⟩ (gc_hS (n := 1001) S_86 rfl hq_f4_) ?_
  show gv_X _ _ (4, [(0, .inr (.inr (some 86))), (1, .inl a1), (2, .inl a2), (3, .inr (.inr (some a3)))], [.inr (.inr (some f4_))], sh, gc_h sh I J A)
  refine gv_run 1 true hD (pc' := 5) (lv' := [(0, .inr (.inr (some 86))), (1, .inl a1), (2, .inl a2), (3, .inr (.inr (some a3)))]) (st' := [.inl a1, .inr (.inr (some f4_))]) (h' := gc_h sh I J A) (C := (True ∧ True)) rfl ⟨trivial, trivial⟩ ?_
  have f6 := (show (-3) ≤ I f4_ (Int.toNat a1) ∧ I f4_ (Int.toNat a1) ≤ 1000000 from gc_in hI R_f4 rfl rfl)
  refine gv_iald hD rfl S_f4 rfl ⟨by decide, B_f4⟩ ⟨by exact gz_m 0 (by omega), by exact gz_m 1 (by omega)⟩ (gc_iI S_f4 rfl) ?_
  show gv_X _ _ (6, [(0, .inr (.inr (some 86))), (1, .inl a1), (2, .inl a2), (3, .inr (.inr (some a3)))], [.inl (I f4_ (Int.toNat a1))], sh, gc_h sh I J A)
  refine gv_run 1 true hD (pc' := 8) (lv' := [(0, .inr (.inr (some 86))), (1, .inl a1), (2, .inl a2), (3, .inr (.inr (some a3)))]) (st' := [.inl (-3), .inl (I f4_ (Int.toNat a1))]) (h' := gc_h sh I J A) (C := (True ∧ True)) rfl ⟨trivial, trivial⟩ ?_
  refine gv_icmp_ne (t := 24) hD rfl rfl ⟨⟨by exact gz_m 2 (by omega), by exact gz_m 3 (by omega)⟩, ⟨by exact gz_m 4 (by omega), by exact gz_m 5 (by omega)⟩⟩ (fun c7 => ?_) (fun c7 => ?_)
  · show gv_X _ _ (24, [(0, .inr (.inr (some 86))), (1, .inl a1), (2, .inl a2), (3, .inr (.inr (some a3)))], [], sh, gc_h sh I J A)
    refine gv_run 2 true hD (pc' := 27) (lv' := [(0, .inr (.inr (some 86))), (1, .inl a1), (2, .inl a2), (3, .inr (.inr (some a3)))]) (st' := [.inl 118, .inr (.inr (some a3))]) (h' := gc_h sh I J A) (C := ((True ∧ True) ∧ True)) rfl ⟨⟨trivial, trivial⟩, trivial⟩ ?_
    obtain ⟨r8, h8, E8, P8⟩ := d_X9_put (ws0 := ws0) (tb := tb) hws htb sh ro I J A hI a3 118 h_a3   ⟨by exact gz_m 6 (by omega), by exact gz_m 7 (by omega)⟩  
    obtain ⟨I9, J10, rfl, hI9, g8, k8, rfl⟩ := P8
    have FI9 := gc_frc (W := fun q j => (q = a3 ∧ j = 1) ∨ q = (a3 + 1)) (V := fun q j => (q = a3 ∧ j = 1) ∨ q = (a3 + 1)) FI (fun q j h => (h.elim (fun h => (Or.inl h)) (fun h => (Or.inr h)))) g8
    obtain rfl : J = J10 := funext fun q => funext fun j => ((k8 q j).resolve_left id).symm
    refine gv_callV hD rfl (As := [.inl 118]) (st := []) rfl B_a3 S_a3 rfl (gc_lV10 hws rfl) (Nat.le_of_ble_eq_true rfl) (gz_Ev_mono (d := 1) (by decide) E8) ?_
    show gv_X _ _ (30, [(0, .inr (.inr (some 86))), (1, .inl a1), (2, .inl a2), (3, .inr (.inr (some a3)))], [], sh, gc_h sh I9 J A)
    refine gv_run 3 true hD (pc' := 33) (lv' := [(0, .inr (.inr (some 86))), (1, .inl a1), (2, .inl a2), (3, .inr (.inr (some a3)))]) (st' := [.inr (.inr (some 86)), .inl a2, .inr (.inr (some a3))]) (h' := gc_h sh I9 J A) (C := (((True ∧ True) ∧ True) ∧ True)) rfl ⟨⟨⟨trivial, trivial⟩, trivial⟩, trivial⟩ ?_
    have f12 := (show 0 ≤ I9 86 2 ∧ I9 86 2 ≤ 1 from gc_in hI9 R_86 rfl rfl)
    obtain ⟨f11_, hq_f11_, S_f11, R_f11, B_f11, D_f11⟩ := gc_sw (p := 86) (d := 1) (s := 2) (z := I9 86 2) (show 0 ≤ I9 86 2 ∧ I9 86 2 ≤ 1 from gc_in hI9 R_86 rfl rfl) S_87 R_87 B_87 S_89 R_89 B_89
    refine gv_get hD rfl rfl S_86 ⟨by decide, B_86⟩ (gc_hS (n := 1001) S_86 rfl hq_f11_) ?_
    show gv_X _ _ (36, [(0, .inr (.inr (some 86))), (1, .inl a1), (2, .inl a2), (3, .inr (.inr (some a3)))], [.inr (.inr (some f11_)), .inl a2, .inr (.inr (some a3))], sh, gc_h sh I9 J A)
    refine gv_run 1 true hD (pc' := 37) (lv' := [(0, .inr (.inr (some 86))), (1, .inl a1), (2, .inl a2), (3, .inr (.inr (some a3)))]) (st' := [.inl a1, .inr (.inr (some f11_)), .inl a2, .inr (.inr (some a3))]) (h' := gc_h sh I9 J A) (C := (True ∧ True)) rfl ⟨trivial, trivial⟩ ?_
    have f13 := (show (-3) ≤ I9 f11_ (Int.toNat a1) ∧ I9 f11_ (Int.toNat a1) ≤ 1000000 from gc_in hI9 R_f11 rfl rfl)
    refine gv_iald hD rfl S_f11 rfl ⟨by decide, B_f11⟩ ⟨by exact gz_m 8 (by omega), by exact gz_m 9 (by omega)⟩ (gc_iI S_f11 rfl) ?_
    show gv_X _ _ (38, [(0, .inr (.inr (some 86))), (1, .inl a1), (2, .inl a2), (3, .inr (.inr (some a3)))], [.inl (I9 f11_ (Int.toNat a1)), .inl a2, .inr (.inr (some a3))], sh, gc_h sh I9 J A)
    refine gv_run 1 true hD (pc' := 39) (lv' := [(0, .inr (.inr (some 86))), (1, .inl a1), (2, .inl a2), (3, .inr (.inr (some a3)))]) (st' := [.inl (a2 - (I9 f11_ (Int.toNat a1))), .inr (.inr (some a3))]) (h' := gc_h sh I9 J A) (C := (True ∧ True)) rfl ⟨trivial, trivial⟩ ?_
    obtain ⟨r14, h14, E14, P14⟩ := d_X9_putNumber (ws0 := ws0) (tb := tb) hws htb sh ro I9 J A hI9 a3 ((a2 - (I9 f11_ (Int.toNat a1)))) h_a3   ⟨by exact gz_m 10 (by omega), by exact gz_m 11 (by omega)⟩  
    obtain ⟨I15, J16, rfl, hI15, g14, k14, rfl⟩ := P14
    have FI15 := gc_frc (W := fun q j => (q = a3 ∧ j = 1) ∨ q = (a3 + 1)) (V := fun q j => (q = a3 ∧ j = 1) ∨ q = (a3 + 1)) FI9 (fun q j h => (h.elim (fun h => (Or.inl h)) (fun h => (Or.inr h)))) g14
    obtain rfl : J = J16 := funext fun q => funext fun j => ((k14 q j).resolve_left id).symm
    refine gv_callV hD rfl (As := [.inl (a2 - (I9 f11_ (Int.toNat a1)))]) (st := []) rfl B_a3 S_a3 rfl (gc_lV10 hws rfl) (Nat.le_of_ble_eq_true rfl) (gz_Ev_mono (d := 2) (by decide) E14) ?_
    show gv_X _ _ (42, [(0, .inr (.inr (some 86))), (1, .inl a1), (2, .inl a2), (3, .inr (.inr (some a3)))], [], sh, gc_h sh I15 J A)
    refine gv_pick [] rfl ?_
    exact L42 I15 J hI15 FI15 FJ
  · show gv_X _ _ (11, [(0, .inr (.inr (some 86))), (1, .inl a1), (2, .inl a2), (3, .inr (.inr (some a3)))], [], sh, gc_h sh I J A)
    refine gv_run 2 true hD (pc' := 13) (lv' := [(0, .inr (.inr (some 86))), (1, .inl a1), (2, .inl a2), (3, .inr (.inr (some a3)))]) (st' := [.inr (.inr (some 86)), .inr (.inr (some a3))]) (h' := gc_h sh I J A) (C := ((True ∧ True) ∧ True)) rfl ⟨⟨trivial, trivial⟩, trivial⟩ ?_
    have f18 := (show 0 ≤ I 86 3 ∧ I 86 3 ≤ 1 from gc_in hI R_86 rfl rfl)
    obtain ⟨f17_, hq_f17_, S_f17, R_f17, B_f17, D_f17⟩ := gc_sw (p := 86) (d := 2) (s := 2) (z := I 86 3) (show 0 ≤ I 86 3 ∧ I 86 3 ≤ 1 from gc_in hI R_86 rfl rfl) S_88 R_88 B_88 S_90 R_90 B_90
    refine gv_get hD rfl rfl S_86 ⟨by decide, B_86⟩ (gc_hS (n := 1002) S_86 rfl hq_f17_) ?_
    show gv_X _ _ (16, [(0, .inr (.inr (some 86))), (1, .inl a1), (2, .inl a2), (3, .inr (.inr (some a3)))], [.inr (.inr (some f17_)), .inr (.inr (some a3))], sh, gc_h sh I J A)
    refine gv_run 1 true hD (pc' := 17) (lv' := [(0, .inr (.inr (some 86))), (1, .inl a1), (2, .inl a2), (3, .inr (.inr (some a3)))]) (st' := [.inl a1, .inr (.inr (some f17_)), .inr (.inr (some a3))]) (h' := gc_h sh I J A) (C := (True ∧ True)) rfl ⟨trivial, trivial⟩ ?_
    refine gv_lald hD rfl S_f17 rfl ⟨by decide, B_f17⟩ ⟨by exact gz_m 12 (by omega), by exact gz_m 13 (by omega)⟩ (gc_jJ S_f17 rfl) ?_
    show gv_X _ _ (18, [(0, .inr (.inr (some 86))), (1, .inl a1), (2, .inl a2), (3, .inr (.inr (some a3)))], [.inr (.inl (J f17_ (Int.toNat a1))), .inr (.inr (some a3))], sh, gc_h sh I J A)
    obtain ⟨r19, h19, E19, P19⟩ := d_X9_putName (ws0 := ws0) (tb := tb) hws htb sh ro I J A hI a3 ((J f17_ (Int.toNat a1))) h_a3     
    obtain ⟨I20, J21, rfl, hI20, g19, k19, rfl⟩ := P19
    have FI20 := gc_frc (W := fun q j => (q = a3 ∧ j = 1) ∨ q = (a3 + 1)) (V := fun q j => (q = a3 ∧ j = 1) ∨ q = (a3 + 1)) FI (fun q j h => (h.elim (fun h => (Or.inl h)) (fun h => (Or.inr h)))) g19
    obtain rfl : J = J21 := funext fun q => funext fun j => ((k19 q j).resolve_left id).symm
    refine gv_callV hD rfl (As := [.inr (.inl (J f17_ (Int.toNat a1)))]) (st := []) rfl B_a3 S_a3 rfl (gc_lV10 hws rfl) (Nat.le_of_ble_eq_true rfl) (gz_Ev_mono (d := 2) (by decide) E19) ?_
    show gv_X _ _ (21, [(0, .inr (.inr (some 86))), (1, .inl a1), (2, .inl a2), (3, .inr (.inr (some a3)))], [], sh, gc_h sh I20 J A)
    refine gv_run 1 true hD (pc' := 42) (lv' := [(0, .inr (.inr (some 86))), (1, .inl a1), (2, .inl a2), (3, .inr (.inr (some a3)))]) (st' := []) (h' := gc_h sh I20 J A) (C := (True ∧ True)) rfl ⟨trivial, trivial⟩ ?_
    refine gv_pick [] rfl ?_
    exact L42 I20 J hI20 FI20 FJ
set_option maxHeartbeats 8000000 in
set_option maxRecDepth 100000 in
theorem d_X10_tell {ws0 : List Cond} {tb : String → gz_T} (hws : gc_Ws ws0) (htb : gc_tbs tb) (sh : gz_Sh) (ro : Nat → Nat) (I : gr_I) (J : gr_J) (A : gc_A) (hI : gc_Inv ro I) (a1 : Nat) (hb : gc_Base sh ro A) (h_a1 : gc_isText sh ro A a1) (G_a1 : a1 + 3 < 39 ∨ (100 ≤ a1 ∧ a1 < 140))   : ∃ r h', gz_Ev ws0 tb 4 (yX10_tell, cX10_tell, 6, none) [.inr (.inr (some 86)), .inr (.inr (some a1))] sh (gc_h sh I J A) r sh h' 0 0 ∧ (∃ (I' : gr_I) (J' : gr_J), h' = gc_h sh I' J' A ∧ gc_Inv ro I' ∧ (∀ q j : Nat, ((q = a1 ∧ j = 1) ∨ q = (a1 + 1) ∨ q = 92 ∨ q = 93) ∨ I' q j = I q j) ∧ (∀ q j : Nat, (False) ∨ J' q j = J q j) ∧ r = none) := by
  have FI : ∀ q j : Nat, ((q = a1 ∧ j = 1) ∨ q = (a1 + 1) ∨ q = 92 ∨ q = 93) ∨ I q j = I q j := fun _ _ => Or.inr rfl
  have FJ : ∀ q j : Nat, (False) ∨ J q j = J q j := fun _ _ => Or.inr rfl
  have A_86_7 : A 86 7 = some 92 := gc_bA hb rfl
  have A_86_8 : A 86 8 = some 93 := gc_bA hb rfl
  have B_86 : 86 < 1000000 := by decide
  have B_87 : 87 < 1000000 := by decide
  have B_89 : 89 < 1000000 := by decide
  have B_92 : 92 < 1000000 := by decide
  have B_93 : 93 < 1000000 := by decide
  have R_86 : ro 86 = 74 := gc_bR hb (by decide) rfl
  have R_87 : ro 87 = 77 := gc_bR hb (by decide) rfl
  have R_89 : ro 89 = 77 := gc_bR hb (by decide) rfl
  have R_92 : ro 92 = 60 := gc_bR hb (by decide) rfl
  have R_93 : ro 93 = 60 := gc_bR hb (by decide) rfl
  have S_86 : sh[86]? = some (false, 10, 19) := gc_bS hb rfl
  have S_87 : sh[87]? = some (true, 1, 300) := gc_bS hb rfl
  have S_89 : sh[89]? = some (true, 1, 300) := gc_bS hb rfl
  have S_92 : sh[92]? = some (true, 1, 300) := gc_bS hb rfl
  have S_93 : sh[93]? = some (true, 1, 300) := gc_bS hb rfl
  obtain ⟨S_a1, R_a1, B_a1, A_a1_0, S_a1_1, R_a1_1, B_a1_1, A_a1_2, S_a1_2, R_a1_2, B_a1_2, A_a1_3, S_a1_3, R_a1_3, B_a1_3⟩ := id h_a1
  have hD : gv_D (gc_E10 ws0 tb 3 (yX10_tell, cX10_tell, 6, none) kX10_tell) := gq_of oX10_tell
  refine gc_ev10 (d := 3) (l := kX10_tell) (Po := fun r h' => (∃ (I' : gr_I) (J' : gr_J), h' = gc_h sh I' J' A ∧ gc_Inv ro I' ∧ (∀ q j : Nat, ((q = a1 ∧ j = 1) ∨ q = (a1 + 1) ∨ q = 92 ∨ q = 93) ∨ I' q j = I q j) ∧ (∀ q j : Nat, (False) ∨ J' q j = J q j) ∧ r = none)) htb rfl (Nat.le_of_ble_eq_true rfl) ?_
  have N_86__a1 : ¬ (86 = a1) := by exact gz_m 0 (by omega)
  have N_86__a1_1 : ¬ (86 = (a1 + 1)) := by exact gz_m 1 (by omega)
  have f1 := (show 0 ≤ I 86 1 ∧ I 86 1 ≤ 300 from gc_in hI R_86 rfl rfl)
  have f2 := (show 0 ≤ I 86 2 ∧ I 86 2 ≤ 1 from gc_in hI R_86 rfl rfl)
  have L7 : ∀ (n9 : Nat) (I3 : gr_I) (J4 : gr_J) (v2_5 : Int) (v3_5 : Int) (v4_5 : Int), (301 - v4_5).toNat < n9 → gc_Inv ro I3 → (∀ q j : Nat, ((q = a1 ∧ j = 1) ∨ q = (a1 + 1) ∨ q = 92 ∨ q = 93) ∨ I3 q j = I q j) → (∀ q j : Nat, (False) ∨ J4 q j = J q j) → ((0 ≤ v2_5 ∧ v2_5 ≤ 300) ∧ (0 ≤ v3_5 ∧ v3_5 ≤ 300) ∧ (0 ≤ v4_5 ∧ v4_5 ≤ 300) ∧ (v2_5 ≤ v4_5) ∧ (v3_5 ≤ v4_5) ∧ (v4_5 ≤ I 86 1) ∧ (I3 86 1 = I 86 1)) → (gc_ge 92 I3 v3_5) → (gc_rg 93 I3 v3_5 0 v4_5) → gv_X (gc_E10 ws0 tb 3 (yX10_tell, cX10_tell, 6, none) kX10_tell) (gv_Q cX10_tell none sh (fun r h' => (∃ (I' : gr_I) (J' : gr_J), h' = gc_h sh I' J' A ∧ gc_Inv ro I' ∧ (∀ q j : Nat, ((q = a1 ∧ j = 1) ∨ q = (a1 + 1) ∨ q = 92 ∨ q = 93) ∨ I' q j = I q j) ∧ (∀ q j : Nat, (False) ∨ J' q j = J q j) ∧ r = none))) (7, [(0, .inr (.inr (some 86))), (1, .inr (.inr (some a1))), (2, .inl v2_5), (3, .inl v3_5), (4, .inl v4_5)], [], sh, gc_h sh I3 J4 A) := by
    intro n9
    induction n9 with
    | zero => intro I3 J4 v2_5 v3_5 v4_5 hn; exact gz_m 2 (by omega)
    | succ n9 ih7 =>
      intro I3 J4 v2_5 v3_5 v4_5 hn hI3 FI3 FJ4 m_5 e0_5 e1_5
      obtain ⟨hv2_5, hv3_5, hv4_5, e2_5, e3_5, e4_5, e5_5⟩ := m_5
      have f6 := (show 0 ≤ I3 86 1 ∧ I3 86 1 ≤ 300 from gc_in hI3 R_86 rfl rfl)
      have f7 := (show 0 ≤ I3 86 2 ∧ I3 86 2 ≤ 1 from gc_in hI3 R_86 rfl rfl)
      have L19 : ∀ (n9 : Nat) (v4_8 : Int) (v5_8 : Int), (300 - v4_8).toNat < n9 → ((0 ≤ v2_5 ∧ v2_5 ≤ 300) ∧ (0 ≤ v3_5 ∧ v3_5 ≤ 300) ∧ (0 ≤ v4_8 ∧ v4_8 ≤ 299) ∧ (0 ≤ v5_8 ∧ v5_8 ≤ 300) ∧ (v2_5 ≤ v4_8) ∧ (v3_5 + v5_8 ≤ v4_8) ∧ (v4_8 < I 86 1) ∧ (v4_5 ≤ v4_8) ∧ (I3 86 1 = I 86 1)) → (gc_ge 92 I3 v3_5) → (gc_rg 93 I3 v3_5 0 v4_8) → gv_X (gc_E10 ws0 tb 3 (yX10_tell, cX10_tell, 6, none) kX10_tell) (gv_Q cX10_tell none sh (fun r h' => (∃ (I' : gr_I) (J' : gr_J), h' = gc_h sh I' J' A ∧ gc_Inv ro I' ∧ (∀ q j : Nat, ((q = a1 ∧ j = 1) ∨ q = (a1 + 1) ∨ q = 92 ∨ q = 93) ∨ I' q j = I q j) ∧ (∀ q j : Nat, (False) ∨ J' q j = J q j) ∧ r = none))) (19, [(0, .inr (.inr (some 86))), (1, .inr (.inr (some a1))), (2, .inl v2_5), (3, .inl v3_5), (4, .inl v4_8), (5, .inl v5_8)], [], sh, gc_h sh I3 J4 A) := by
        intro n9
        induction n9 with
        | zero => intro v4_8 v5_8 hn; exact gz_m 3 (by omega)
        | succ n9 ih19 =>
          intro v4_8 v5_8 hn m_8 e0_8 e1_8
          obtain ⟨hv2_5_8, hv3_5_8, hv4_8, hv5_8, e2_8, e3_8, e4_8, e5_8, e6_8⟩ := m_8
          have f9 := (show 0 ≤ I3 86 1 ∧ I3 86 1 ≤ 300 from gc_in hI3 R_86 rfl rfl)
          have f10 := (show 0 ≤ I3 86 2 ∧ I3 86 2 ≤ 1 from gc_in hI3 R_86 rfl rfl)
          have L50 : ((0 ≤ v2_5 ∧ v2_5 ≤ 300) ∧ (0 ≤ v3_5 ∧ v3_5 ≤ 300) ∧ (0 ≤ v4_8 ∧ v4_8 ≤ 299) ∧ (0 ≤ v5_8 ∧ v5_8 ≤ 300) ∧ (v2_5 ≤ v4_8) ∧ (v3_5 + v5_8 ≤ v4_8) ∧ (v4_8 < I 86 1) ∧ (v4_5 ≤ v4_8) ∧ (I3 86 1 = I 86 1)) → (gc_ge 92 I3 v3_5) → (gc_rg 93 I3 v3_5 0 v4_8) → gv_X (gc_E10 ws0 tb 3 (yX10_tell, cX10_tell, 6, none) kX10_tell) (gv_Q cX10_tell none sh (fun r h' => (∃ (I' : gr_I) (J' : gr_J), h' = gc_h sh I' J' A ∧ gc_Inv ro I' ∧ (∀ q j : Nat, ((q = a1 ∧ j = 1) ∨ q = (a1 + 1) ∨ q = 92 ∨ q = 93) ∨ I' q j = I q j) ∧ (∀ q j : Nat, (False) ∨ J' q j = J q j) ∧ r = none))) (50, [(0, .inr (.inr (some 86))), (1, .inr (.inr (some a1))), (2, .inl v2_5), (3, .inl v3_5), (4, .inl v4_8), (5, .inl v5_8)], [], sh, gc_h sh I3 J4 A) := by
            intro m_11 e0_11 e1_11
            obtain ⟨hv2_5_11, hv3_5_11, hv4_8_11, hv5_8_11, e2_11, e3_11, e4_11, e5_11, e6_11⟩ := m_11
            have f12 := (show 0 ≤ I3 86 1 ∧ I3 86 1 ≤ 300 from gc_in hI3 R_86 rfl rfl)
            have f13 := (show 0 ≤ I3 86 2 ∧ I3 86 2 ≤ 1 from gc_in hI3 R_86 rfl rfl)
            have L137 : ∀ (n9 : Nat) (I14 : gr_I) (J15 : gr_J) (v3_16 : Int) (v4_16 : Int), (v3_16 - (-1)).toNat < n9 → gc_Inv ro I14 → (∀ q j : Nat, ((q = a1 ∧ j = 1) ∨ q = (a1 + 1) ∨ q = 92 ∨ q = 93) ∨ I14 q j = I q j) → (∀ q j : Nat, (False) ∨ J15 q j = J q j) → ((0 ≤ v2_5 ∧ v2_5 ≤ 300) ∧ (0 ≤ v3_16 ∧ v3_16 ≤ 300) ∧ (1 ≤ v4_16 ∧ v4_16 ≤ 300) ∧ (v2_5 ≤ v4_16) ∧ (v3_16 ≤ v4_16) ∧ (v4_16 ≤ I 86 1) ∧ (v4_5 < v4_16) ∧ (I14 86 1 = I 86 1)) → (gc_ge 92 I14 v3_16) → (gc_rg 93 I14 v3_16 0 v4_16) → gv_X (gc_E10 ws0 tb 3 (yX10_tell, cX10_tell, 6, none) kX10_tell) (gv_Q cX10_tell none sh (fun r h' => (∃ (I' : gr_I) (J' : gr_J), h' = gc_h sh I' J' A ∧ gc_Inv ro I' ∧ (∀ q j : Nat, ((q = a1 ∧ j = 1) ∨ q = (a1 + 1) ∨ q = 92 ∨ q = 93) ∨ I' q j = I q j) ∧ (∀ q j : Nat, (False) ∨ J' q j = J q j) ∧ r = none))) (137, [(0, .inr (.inr (some 86))), (1, .inr (.inr (some a1))), (2, .inl v2_5), (3, .inl v3_16), (4, .inl v4_16)], [], sh, gc_h sh I14 J15 A) := by
              intro n9
              induction n9 with
              | zero => intro I14 J15 v3_16 v4_16 hn; exact gz_m 4 (by omega)
              | succ n9 ih137 =>
                intro I14 J15 v3_16 v4_16 hn hI14 FI14 FJ15 m_16 e0_16 e1_16
                clear hv2_5_11 hv3_5_11 hv4_8_11 hv5_8_11 e2_11 e3_11 e4_11 e5_11 e6_11 f12 f13 hv2_5_8 hv3_5_8 hv4_8 hv5_8 e2_8 e3_8 e4_8 e5_8 e6_8 f9 f10 hv2_5 hv3_5 hv4_5 e2_5 e3_5 e4_5 e5_5 f6 f7
                obtain ⟨hv2_5_16, hv3_16, hv4_16, e2_16, e3_16, e4_16, e5_16, e6_16⟩ := m_16
                have f17 := (show 0 ≤ I14 86 1 ∧ I14 86 1 ≤ 300 from gc_in hI14 R_86 rfl rfl)
                have f18 := (show 0 ≤ I14 86 2 ∧ I14 86 2 ≤ 1 from gc_in hI14 R_86 rfl rfl)
                have L165 : ((0 ≤ v2_5 ∧ v2_5 ≤ 300) ∧ (0 ≤ v3_16 ∧ v3_16 ≤ 300) ∧ (1 ≤ v4_16 ∧ v4_16 ≤ 300) ∧ (v2_5 ≤ v4_16) ∧ (v3_16 ≤ v4_16) ∧ (v4_16 ≤ I 86 1) ∧ (v3_16 ≤ 0 ∨ ¬ I14 92 (Int.toNat (v3_16 - 1)) = 1) ∧ (v4_5 < v4_16) ∧ (I14 86 1 = I 86 1)) → (gc_ge 92 I14 v3_16) → (gc_rg 93 I14 v3_16 0 v4_16) → gv_X (gc_E10 ws0 tb 3 (yX10_tell, cX10_tell, 6, none) kX10_tell) (gv_Q cX10_tell none sh (fun r h' => (∃ (I' : gr_I) (J' : gr_J), h' = gc_h sh I' J' A ∧ gc_Inv ro I' ∧ (∀ q j : Nat, ((q = a1 ∧ j = 1) ∨ q = (a1 + 1) ∨ q = 92 ∨ q = 93) ∨ I' q j = I q j) ∧ (∀ q j : Nat, (False) ∨ J' q j = J q j) ∧ r = none))) (165, [(0, .inr (.inr (some 86))), (1, .inr (.inr (some a1))), (2, .inl v2_5), (3, .inl v3_16), (4, .inl v4_16)], [], sh, gc_h sh I14 J15 A) := by
                  intro m_19 e0_19 e1_19
                  obtain ⟨hv2_5_19, hv3_16_19, hv4_16_19, e2_19, e3_19, e4_19, e5_19, e6_19, e7_19⟩ := m_19
                  have f20 := (show 0 ≤ I14 86 1 ∧ I14 86 1 ≤ 300 from gc_in hI14 R_86 rfl rfl)
                  have f21 := (show 0 ≤ I14 86 2 ∧ I14 86 2 ≤ 1 from gc_in hI14 R_86 rfl rfl)
                  have L196 : ∀ (I22 : gr_I) (J23 : gr_J) (v2_24 : Int), gc_Inv ro I22 → (∀ q j : Nat, ((q = a1 ∧ j = 1) ∨ q = (a1 + 1) ∨ q = 92 ∨ q = 93) ∨ I22 q j = I q j) → (∀ q j : Nat, (False) ∨ J23 q j = J q j) → ((0 ≤ v2_24 ∧ v2_24 ≤ 300) ∧ (0 ≤ v3_16 ∧ v3_16 ≤ 300) ∧ (1 ≤ v4_16 ∧ v4_16 ≤ 300) ∧ (v2_24 ≤ v4_16) ∧ (v3_16 ≤ v4_16) ∧ (v4_16 ≤ I 86 1) ∧ (v4_5 < v4_16) ∧ (I22 86 1 = I 86 1)) → (gc_ge 92 I22 v3_16) → (gc_rg 93 I22 v3_16 0 v4_16) → gv_X (gc_E10 ws0 tb 3 (yX10_tell, cX10_tell, 6, none) kX10_tell) (gv_Q cX10_tell none sh (fun r h' => (∃ (I' : gr_I) (J' : gr_J), h' = gc_h sh I' J' A ∧ gc_Inv ro I' ∧ (∀ q j : Nat, ((q = a1 ∧ j = 1) ∨ q = (a1 + 1) ∨ q = 92 ∨ q = 93) ∨ I' q j = I q j) ∧ (∀ q j : Nat, (False) ∨ J' q j = J q j) ∧ r = none))) (196, [(0, .inr (.inr (some 86))), (1, .inr (.inr (some a1))), (2, .inl v2_24), (3, .inl v3_16), (4, .inl v4_16)], [], sh, gc_h sh I22 J23 A) := by
                    intro I22 J23 v2_24 hI22 FI22 FJ23 m_24 e0_24 e1_24
                    clear hv2_5_19 hv3_16_19 hv4_16_19 e2_19 e3_19 e4_19 e5_19 e6_19 e7_19 f20 f21 hv2_5_16 hv3_16 hv4_16 e2_16 e3_16 e4_16 e5_16 e6_16 f17 f18
                    obtain ⟨hv2_24, hv3_16_24, hv4_16_24, e2_24, e3_24, e4_24, e5_24, e6_24⟩ := m_24
                    have f25 := (show 0 ≤ I22 86 1 ∧ I22 86 1 ≤ 300 from gc_in hI22 R_86 rfl rfl)
                    have f26 := (show 0 ≤ I22 86 2 ∧ I22 86 2 ≤ 1 from gc_in hI22 R_86 rfl rfl)
                    refine gv_run 1 true hD (pc' := 7) (lv' := [(0, .inr (.inr (some 86))), (1, .inr (.inr (some a1))), (2, .inl v2_24), (3, .inl v3_16), (4, .inl v4_16)]) (st' := []) (h' := gc_h sh I22 J23 A) (C := (True ∧ True)) rfl ⟨trivial, trivial⟩ ?_
                    exact ih7 I22 J23 v2_24 v3_16 v4_16 (by exact gz_m 5 (by omega)) hI22 FI22 FJ23 (by exact gz_m 6 (by omega)) e0_24 (gc_rg_hi e1_24 (by exact gz_m 7 (by omega)))
                  refine gv_run 1 true hD (pc' := 166) (lv' := [(0, .inr (.inr (some 86))), (1, .inr (.inr (some a1))), (2, .inl v2_5), (3, .inl v3_16), (4, .inl v4_16)]) (st' := [.inl v3_16]) (h' := gc_h sh I14 J15 A) (C := (True ∧ True)) rfl ⟨trivial, trivial⟩ ?_
                  refine gv_if_le (t := 196) hD rfl rfl ⟨by exact gz_m 8 (by omega), by exact gz_m 9 (by omega)⟩ (fun c27 => ?_) (fun c27 => ?_)
                  · show gv_X _ _ (196, [(0, .inr (.inr (some 86))), (1, .inr (.inr (some a1))), (2, .inl v2_5), (3, .inl v3_16), (4, .inl v4_16)], [], sh, gc_h sh I14 J15 A)
                    exact L196 I14 J15 v2_5 hI14 FI14 FJ15 (by exact gz_m 10 (by omega)) e0_19 (gc_rg_hi e1_19 (by exact gz_m 11 (by omega)))
                  · show gv_X _ _ (169, [(0, .inr (.inr (some 86))), (1, .inr (.inr (some a1))), (2, .inl v2_5), (3, .inl v3_16), (4, .inl v4_16)], [], sh, gc_h sh I14 J15 A)
                    refine gv_run 2 true hD (pc' := 172) (lv' := [(0, .inr (.inr (some 86))), (1, .inr (.inr (some a1))), (2, .inl v2_5), (3, .inl v3_16), (4, .inl v4_16)]) (st' := [.inl 44, .inr (.inr (some a1))]) (h' := gc_h sh I14 J15 A) (C := ((True ∧ True) ∧ True)) rfl ⟨⟨trivial, trivial⟩, trivial⟩ ?_
                    obtain ⟨r28, h28, E28, P28⟩ := d_X9_put (ws0 := ws0) (tb := tb) hws htb sh ro I14 J15 A hI14 a1 44 h_a1   ⟨by exact gz_m 12 (by omega), by exact gz_m 13 (by omega)⟩  
                    obtain ⟨I29, J30, rfl, hI29, g28, k28, rfl⟩ := P28
                    have FI29 := gc_frc (W := fun q j => (q = a1 ∧ j = 1) ∨ q = (a1 + 1) ∨ q = 92 ∨ q = 93) (V := fun q j => (q = a1 ∧ j = 1) ∨ q = (a1 + 1)) FI14 (fun q j h => (h.elim (fun h => (Or.inl h)) (fun h => (Or.inr (Or.inl h))))) g28
                    have t31 := (g28 86 1).resolve_left (fun h => h.elim (fun h => absurd h.1 N_86__a1) (fun h => absurd h N_86__a1_1))
                    have t32 := (g28 86 2).resolve_left (fun h => h.elim (fun h => absurd h.2 (by decide)) (fun h => absurd h N_86__a1_1))
                    obtain rfl : J15 = J30 := funext fun q => funext fun j => ((k28 q j).resolve_left id).symm
                    refine gv_callV hD rfl (As := [.inl 44]) (st := []) rfl B_a1 S_a1 rfl (gc_lV10 hws rfl) (Nat.le_of_ble_eq_true rfl) (gz_Ev_mono (d := 1) (by decide) E28) ?_
                    show gv_X _ _ (175, [(0, .inr (.inr (some 86))), (1, .inr (.inr (some a1))), (2, .inl v2_5), (3, .inl v3_16), (4, .inl v4_16)], [], sh, gc_h sh I29 J15 A)
                    have t33 := (e0_19 (v3_16 - 1) (by exact gz_m 14 (by omega)) (by exact gz_m 15 (by omega)))
                    have t34 := ((g28 92 (Int.toNat (v3_16 - 1))).resolve_left (by exact gz_m 16 (by omega)))
                    refine gv_run 1 true hD (pc' := 176) (lv' := [(0, .inr (.inr (some 86))), (1, .inr (.inr (some a1))), (2, .inl v2_5), (3, .inl v3_16), (4, .inl v4_16)]) (st' := [.inr (.inr (some 86))]) (h' := gc_h sh I29 J15 A) (C := (True ∧ True)) rfl ⟨trivial, trivial⟩ ?_
                    refine gv_get hD rfl rfl S_86 ⟨by decide, B_86⟩ (gc_hA S_86 rfl A_86_7) ?_
                    show gv_X _ _ (179, [(0, .inr (.inr (some 86))), (1, .inr (.inr (some a1))), (2, .inl v2_5), (3, .inl v3_16), (4, .inl v4_16)], [.inr (.inr (some 92))], sh, gc_h sh I29 J15 A)
                    refine gv_run 4 true hD (pc' := 183) (lv' := [(0, .inr (.inr (some 86))), (1, .inr (.inr (some a1))), (2, .inl v2_5), (3, .inl v3_16), (4, .inl v4_16)]) (st' := [.inl (v3_16 - 1), .inr (.inr (some 92)), .inl (v3_16 - 1), .inr (.inr (some 92))]) (h' := gc_h sh I29 J15 A) (C := ((((True ∧ True) ∧ True) ∧ True) ∧ True)) rfl ⟨⟨⟨⟨trivial, trivial⟩, trivial⟩, trivial⟩, trivial⟩ ?_
                    have f35 := (show 0 ≤ I29 92 (Int.toNat (v3_16 - 1)) ∧ I29 92 (Int.toNat (v3_16 - 1)) ≤ 400 from gc_in hI29 R_92 rfl rfl)
                    refine gv_iald hD rfl S_92 rfl ⟨by decide, B_92⟩ ⟨by exact gz_m 17 (by omega), by exact gz_m 18 (by omega)⟩ (gc_iI S_92 rfl) ?_
                    show gv_X _ _ (184, [(0, .inr (.inr (some 86))), (1, .inr (.inr (some a1))), (2, .inl v2_5), (3, .inl v3_16), (4, .inl v4_16)], [.inl (I29 92 (Int.toNat (v3_16 - 1))), .inl (v3_16 - 1), .inr (.inr (some 92))], sh, gc_h sh I29 J15 A)
                    refine gv_run 2 true hD (pc' := 186) (lv' := [(0, .inr (.inr (some 86))), (1, .inr (.inr (some a1))), (2, .inl v2_5), (3, .inl v3_16), (4, .inl v4_16)]) (st' := [.inl ((I29 92 (Int.toNat (v3_16 - 1))) - 1), .inl (v3_16 - 1), .inr (.inr (some 92))]) (h' := gc_h sh I29 J15 A) (C := ((True ∧ True) ∧ True)) rfl ⟨⟨trivial, trivial⟩, trivial⟩ ?_
                    refine gv_iast hD rfl S_92 ⟨by decide, B_92⟩ ⟨by exact gz_m 19 (by omega), by exact gz_m 20 (by omega)⟩ ?_
                    refine gc_st hI29 S_92 rfl R_92 (lo := 0) (hi := 400) rfl rfl (by exact gz_m 21 (by omega)) (by exact gz_m 22 (by omega)) (fun I36 hI36 q37 p37 => ?_)
                    have FI36 := gc_frs (W := fun q j => (q = a1 ∧ j = 1) ∨ q = (a1 + 1) ∨ q = 92 ∨ q = 93) FI29 (Or.inr (Or.inr (Or.inl rfl))) p37
                    have t38 := p37 86 1 (fun h => absurd h.1 (by decide))
                    have t39 := p37 86 2 (fun h => absurd h.1 (by decide))
                    show gv_X _ _ (187, [(0, .inr (.inr (some 86))), (1, .inr (.inr (some a1))), (2, .inl v2_5), (3, .inl v3_16), (4, .inl v4_16)], [], sh, gc_h sh I36 J15 A)
                    have t40 := (show 0 ≤ I36 93 (Int.toNat (v3_16 - 1)) ∧ I36 93 (Int.toNat (v3_16 - 1)) ≤ v4_16 from (gc_rg_fr (gc_rg_fr e1_19 (fun k => (g28 93 k).resolve_left (by exact gz_m 23 (by omega)))) (fun k => p37 93 k (fun h => absurd h.1 (by exact gz_m 24 (by omega))))) (v3_16 - 1) (by exact gz_m 25 (by omega)) (by exact gz_m 26 (by omega)))
                    refine gv_run 1 true hD (pc' := 188) (lv' := [(0, .inr (.inr (some 86))), (1, .inr (.inr (some a1))), (2, .inl v2_5), (3, .inl v3_16), (4, .inl v4_16)]) (st' := [.inr (.inr (some 86))]) (h' := gc_h sh I36 J15 A) (C := (True ∧ True)) rfl ⟨trivial, trivial⟩ ?_
                    refine gv_get hD rfl rfl S_86 ⟨by decide, B_86⟩ (gc_hA S_86 rfl A_86_8) ?_
                    show gv_X _ _ (191, [(0, .inr (.inr (some 86))), (1, .inr (.inr (some a1))), (2, .inl v2_5), (3, .inl v3_16), (4, .inl v4_16)], [.inr (.inr (some 93))], sh, gc_h sh I36 J15 A)
                    refine gv_run 3 true hD (pc' := 194) (lv' := [(0, .inr (.inr (some 86))), (1, .inr (.inr (some a1))), (2, .inl v2_5), (3, .inl v3_16), (4, .inl v4_16)]) (st' := [.inl (v3_16 - 1), .inr (.inr (some 93))]) (h' := gc_h sh I36 J15 A) (C := (((True ∧ True) ∧ True) ∧ True)) rfl ⟨⟨⟨trivial, trivial⟩, trivial⟩, trivial⟩ ?_
                    have f41 := (show 0 ≤ I36 93 (Int.toNat (v3_16 - 1)) ∧ I36 93 (Int.toNat (v3_16 - 1)) ≤ 400 from gc_in hI36 R_93 rfl rfl)
                    refine gv_iald hD rfl S_93 rfl ⟨by decide, B_93⟩ ⟨by exact gz_m 27 (by omega), by exact gz_m 28 (by omega)⟩ (gc_iI S_93 rfl) ?_
                    show gv_X _ _ (195, [(0, .inr (.inr (some 86))), (1, .inr (.inr (some a1))), (2, .inl v2_5), (3, .inl v3_16), (4, .inl v4_16)], [.inl (I36 93 (Int.toNat (v3_16 - 1)))], sh, gc_h sh I36 J15 A)
                    refine gv_run 1 true hD (pc' := 196) (lv' := [(2, .inl (I36 93 (Int.toNat (v3_16 - 1)))), (0, .inr (.inr (some 86))), (1, .inr (.inr (some a1))), (3, .inl v3_16), (4, .inl v4_16)]) (st' := []) (h' := gc_h sh I36 J15 A) (C := (True ∧ True)) rfl ⟨trivial, trivial⟩ ?_
                    refine gv_pick [1, 2, 0, 3, 4] rfl ?_
                    exact L196 I36 J15 ((I36 93 (Int.toNat (v3_16 - 1)))) hI36 FI36 FJ15 (by exact gz_m 29 (by omega)) (gc_ge_set (gc_ge_fr e0_19 (fun k => (g28 92 k).resolve_left (by exact gz_m 30 (by omega)))) (by exact gz_m 31 (by omega)) p37 (by exact gz_m 32 (by omega))) (gc_rg_hi (gc_rg_fr (gc_rg_fr e1_19 (fun k => (g28 93 k).resolve_left (by exact gz_m 33 (by omega)))) (fun k => p37 93 k (fun h => absurd h.1 (by exact gz_m 34 (by omega))))) (by exact gz_m 35 (by omega)))
                refine gv_run 1 true hD (pc' := 138) (lv' := [(0, .inr (.inr (some 86))), (1, .inr (.inr (some a1))), (2, .inl v2_5), (3, .inl v3_16), (4, .inl v4_16)]) (st' := [.inl v3_16]) (h' := gc_h sh I14 J15 A) (C := (True ∧ True)) rfl ⟨trivial, trivial⟩ ?_
                refine gv_if_le (t := 165) hD rfl rfl ⟨by exact gz_m 36 (by omega), by exact gz_m 37 (by omega)⟩ (fun c42 => ?_) (fun c42 => ?_)
                · show gv_X _ _ (165, [(0, .inr (.inr (some 86))), (1, .inr (.inr (some a1))), (2, .inl v2_5), (3, .inl v3_16), (4, .inl v4_16)], [], sh, gc_h sh I14 J15 A)
                  exact L165 (by exact gz_m 38 (by omega)) e0_16 (gc_rg_hi e1_16 (by exact gz_m 39 (by omega)))
                · show gv_X _ _ (141, [(0, .inr (.inr (some 86))), (1, .inr (.inr (some a1))), (2, .inl v2_5), (3, .inl v3_16), (4, .inl v4_16)], [], sh, gc_h sh I14 J15 A)
                  have t43 := e0_16 (v3_16 - 1) (by exact gz_m 40 (by omega)) (by exact gz_m 41 (by omega))
                  refine gv_run 1 true hD (pc' := 142) (lv' := [(0, .inr (.inr (some 86))), (1, .inr (.inr (some a1))), (2, .inl v2_5), (3, .inl v3_16), (4, .inl v4_16)]) (st' := [.inr (.inr (some 86))]) (h' := gc_h sh I14 J15 A) (C := (True ∧ True)) rfl ⟨trivial, trivial⟩ ?_
                  refine gv_get hD rfl rfl S_86 ⟨by decide, B_86⟩ (gc_hA S_86 rfl A_86_7) ?_
                  show gv_X _ _ (145, [(0, .inr (.inr (some 86))), (1, .inr (.inr (some a1))), (2, .inl v2_5), (3, .inl v3_16), (4, .inl v4_16)], [.inr (.inr (some 92))], sh, gc_h sh I14 J15 A)
                  refine gv_run 3 true hD (pc' := 148) (lv' := [(0, .inr (.inr (some 86))), (1, .inr (.inr (some a1))), (2, .inl v2_5), (3, .inl v3_16), (4, .inl v4_16)]) (st' := [.inl (v3_16 - 1), .inr (.inr (some 92))]) (h' := gc_h sh I14 J15 A) (C := (((True ∧ True) ∧ True) ∧ True)) rfl ⟨⟨⟨trivial, trivial⟩, trivial⟩, trivial⟩ ?_
                  have f44 := (show 0 ≤ I14 92 (Int.toNat (v3_16 - 1)) ∧ I14 92 (Int.toNat (v3_16 - 1)) ≤ 400 from gc_in hI14 R_92 rfl rfl)
                  refine gv_iald hD rfl S_92 rfl ⟨by decide, B_92⟩ ⟨by exact gz_m 42 (by omega), by exact gz_m 43 (by omega)⟩ (gc_iI S_92 rfl) ?_
                  show gv_X _ _ (149, [(0, .inr (.inr (some 86))), (1, .inr (.inr (some a1))), (2, .inl v2_5), (3, .inl v3_16), (4, .inl v4_16)], [.inl (I14 92 (Int.toNat (v3_16 - 1)))], sh, gc_h sh I14 J15 A)
                  refine gv_run 1 true hD (pc' := 150) (lv' := [(0, .inr (.inr (some 86))), (1, .inr (.inr (some a1))), (2, .inl v2_5), (3, .inl v3_16), (4, .inl v4_16)]) (st' := [.inl 1, .inl (I14 92 (Int.toNat (v3_16 - 1)))]) (h' := gc_h sh I14 J15 A) (C := (True ∧ True)) rfl ⟨trivial, trivial⟩ ?_
                  refine gv_icmp_ne (t := 165) hD rfl rfl ⟨⟨by exact gz_m 44 (by omega), by exact gz_m 45 (by omega)⟩, ⟨by exact gz_m 46 (by omega), by exact gz_m 47 (by omega)⟩⟩ (fun c45 => ?_) (fun c45 => ?_)
                  · show gv_X _ _ (165, [(0, .inr (.inr (some 86))), (1, .inr (.inr (some a1))), (2, .inl v2_5), (3, .inl v3_16), (4, .inl v4_16)], [], sh, gc_h sh I14 J15 A)
                    exact L165 (by exact gz_m 48 (by omega)) e0_16 (gc_rg_hi e1_16 (by exact gz_m 49 (by omega)))
                  · show gv_X _ _ (153, [(0, .inr (.inr (some 86))), (1, .inr (.inr (some a1))), (2, .inl v2_5), (3, .inl v3_16), (4, .inl v4_16)], [], sh, gc_h sh I14 J15 A)
                    refine gv_run 2 true hD (pc' := 156) (lv' := [(0, .inr (.inr (some 86))), (1, .inr (.inr (some a1))), (2, .inl v2_5), (3, .inl v3_16), (4, .inl v4_16)]) (st' := [.inl 41, .inr (.inr (some a1))]) (h' := gc_h sh I14 J15 A) (C := ((True ∧ True) ∧ True)) rfl ⟨⟨trivial, trivial⟩, trivial⟩ ?_
                    obtain ⟨r46, h46, E46, P46⟩ := d_X9_put (ws0 := ws0) (tb := tb) hws htb sh ro I14 J15 A hI14 a1 41 h_a1   ⟨by exact gz_m 50 (by omega), by exact gz_m 51 (by omega)⟩  
                    obtain ⟨I47, J48, rfl, hI47, g46, k46, rfl⟩ := P46
                    have FI47 := gc_frc (W := fun q j => (q = a1 ∧ j = 1) ∨ q = (a1 + 1) ∨ q = 92 ∨ q = 93) (V := fun q j => (q = a1 ∧ j = 1) ∨ q = (a1 + 1)) FI14 (fun q j h => (h.elim (fun h => (Or.inl h)) (fun h => (Or.inr (Or.inl h))))) g46
                    have t49 := (g46 86 1).resolve_left (fun h => h.elim (fun h => absurd h.1 N_86__a1) (fun h => absurd h N_86__a1_1))
                    have t50 := (g46 86 2).resolve_left (fun h => h.elim (fun h => absurd h.2 (by decide)) (fun h => absurd h N_86__a1_1))
                    obtain rfl : J15 = J48 := funext fun q => funext fun j => ((k46 q j).resolve_left id).symm
                    refine gv_callV hD rfl (As := [.inl 41]) (st := []) rfl B_a1 S_a1 rfl (gc_lV10 hws rfl) (Nat.le_of_ble_eq_true rfl) (gz_Ev_mono (d := 1) (by decide) E46) ?_
                    show gv_X _ _ (159, [(0, .inr (.inr (some 86))), (1, .inr (.inr (some a1))), (2, .inl v2_5), (3, .inl v3_16), (4, .inl v4_16)], [], sh, gc_h sh I47 J15 A)
                    refine gv_run 2 true hD (pc' := 137) (lv' := [(3, .inl (v3_16 + (-1))), (0, .inr (.inr (some 86))), (1, .inr (.inr (some a1))), (2, .inl v2_5), (4, .inl v4_16)]) (st' := []) (h' := gc_h sh I47 J15 A) (C := ((True ∧ True) ∧ True)) rfl ⟨⟨trivial, trivial⟩, trivial⟩ ?_
                    refine gv_pick [1, 2, 3, 0, 4] rfl ?_
                    exact ih137 I47 J15 ((v3_16 + (-1))) v4_16 (by exact gz_m 52 (by omega)) hI47 FI47 FJ15 (by exact gz_m 53 (by omega)) (gc_ge_pop (gc_ge_fr e0_16 (fun k => (g46 92 k).resolve_left (by exact gz_m 54 (by omega))))) (gc_rg_hi (gc_rg_m (gc_rg_fr e1_16 (fun k => (g46 93 k).resolve_left (by exact gz_m 55 (by omega)))) (by exact gz_m 56 (by omega))) (by exact gz_m 57 (by omega)))
            refine gv_run 1 true hD (pc' := 51) (lv' := [(0, .inr (.inr (some 86))), (1, .inr (.inr (some a1))), (2, .inl v2_5), (3, .inl v3_5), (4, .inl v4_8), (5, .inl v5_8)]) (st' := [.inr (.inr (some 86))]) (h' := gc_h sh I3 J4 A) (C := (True ∧ True)) rfl ⟨trivial, trivial⟩ ?_
            have f52 := (show 0 ≤ I3 86 2 ∧ I3 86 2 ≤ 1 from gc_in hI3 R_86 rfl rfl)
            obtain ⟨f51_, hq_f51_, S_f51, R_f51, B_f51, D_f51⟩ := gc_sw (p := 86) (d := 1) (s := 2) (z := I3 86 2) (show 0 ≤ I3 86 2 ∧ I3 86 2 ≤ 1 from gc_in hI3 R_86 rfl rfl) S_87 R_87 B_87 S_89 R_89 B_89
            refine gv_get hD rfl rfl S_86 ⟨by decide, B_86⟩ (gc_hS (n := 1001) S_86 rfl hq_f51_) ?_
            show gv_X _ _ (54, [(0, .inr (.inr (some 86))), (1, .inr (.inr (some a1))), (2, .inl v2_5), (3, .inl v3_5), (4, .inl v4_8), (5, .inl v5_8)], [.inr (.inr (some f51_))], sh, gc_h sh I3 J4 A)
            refine gv_run 1 true hD (pc' := 56) (lv' := [(0, .inr (.inr (some 86))), (1, .inr (.inr (some a1))), (2, .inl v2_5), (3, .inl v3_5), (4, .inl v4_8), (5, .inl v5_8)]) (st' := [.inl v4_8, .inr (.inr (some f51_))]) (h' := gc_h sh I3 J4 A) (C := (True ∧ True)) rfl ⟨trivial, trivial⟩ ?_
            have f53 := (show (-3) ≤ I3 f51_ (Int.toNat v4_8) ∧ I3 f51_ (Int.toNat v4_8) ≤ 1000000 from gc_in hI3 R_f51 rfl rfl)
            refine gv_iald hD rfl S_f51 rfl ⟨by decide, B_f51⟩ ⟨by exact gz_m 58 (by omega), by exact gz_m 59 (by omega)⟩ (gc_iI S_f51 rfl) ?_
            show gv_X _ _ (57, [(0, .inr (.inr (some 86))), (1, .inr (.inr (some a1))), (2, .inl v2_5), (3, .inl v3_5), (4, .inl v4_8), (5, .inl v5_8)], [.inl (I3 f51_ (Int.toNat v4_8))], sh, gc_h sh I3 J4 A)
            refine gv_run 1 true hD (pc' := 59) (lv' := [(0, .inr (.inr (some 86))), (1, .inr (.inr (some a1))), (2, .inl v2_5), (3, .inl v3_5), (4, .inl v4_8), (5, .inl v5_8)]) (st' := [.inl (-2), .inl (I3 f51_ (Int.toNat v4_8))]) (h' := gc_h sh I3 J4 A) (C := (True ∧ True)) rfl ⟨trivial, trivial⟩ ?_
            refine gv_icmp_ne (t := 94) hD rfl rfl ⟨⟨by exact gz_m 60 (by omega), by exact gz_m 61 (by omega)⟩, ⟨by exact gz_m 62 (by omega), by exact gz_m 63 (by omega)⟩⟩ (fun c54 => ?_) (fun c54 => ?_)
            · show gv_X _ _ (94, [(0, .inr (.inr (some 86))), (1, .inr (.inr (some a1))), (2, .inl v2_5), (3, .inl v3_5), (4, .inl v4_8), (5, .inl v5_8)], [], sh, gc_h sh I3 J4 A)
              refine gv_run 4 true hD (pc' := 99) (lv' := [(0, .inr (.inr (some 86))), (1, .inr (.inr (some a1))), (2, .inl v2_5), (3, .inl v3_5), (4, .inl v4_8), (5, .inl v5_8)]) (st' := [.inr (.inr (some a1)), .inl v2_5, .inl v4_8, .inr (.inr (some 86))]) (h' := gc_h sh I3 J4 A) (C := ((((True ∧ True) ∧ True) ∧ True) ∧ True)) rfl ⟨⟨⟨⟨trivial, trivial⟩, trivial⟩, trivial⟩, trivial⟩ ?_
              obtain ⟨r55, h55, E55, P55⟩ := d_X10_tellLeaf (ws0 := ws0) (tb := tb) hws htb sh ro I3 J4 A hI3  v4_8 v2_5 a1 hb h_a1 G_a1  ⟨by exact gz_m 64 (by omega), by exact gz_m 65 (by omega)⟩ ⟨by exact gz_m 66 (by omega), by exact gz_m 67 (by omega)⟩  
              obtain ⟨I56, J57, rfl, hI56, g55, k55, rfl⟩ := P55
              have FI56 := gc_frc (W := fun q j => (q = a1 ∧ j = 1) ∨ q = (a1 + 1) ∨ q = 92 ∨ q = 93) (V := fun q j => (q = a1 ∧ j = 1) ∨ q = (a1 + 1)) FI3 (fun q j h => (h.elim (fun h => (Or.inl h)) (fun h => (Or.inr (Or.inl h))))) g55
              have t58 := (g55 86 1).resolve_left (fun h => h.elim (fun h => absurd h.1 N_86__a1) (fun h => absurd h N_86__a1_1))
              have t59 := (g55 86 2).resolve_left (fun h => h.elim (fun h => absurd h.2 (by decide)) (fun h => absurd h N_86__a1_1))
              obtain rfl : J4 = J57 := funext fun q => funext fun j => ((k55 q j).resolve_left id).symm
              refine gv_callV hD rfl (As := [.inl v4_8, .inl v2_5, .inr (.inr (some a1))]) (st := []) rfl B_86 S_86 rfl (gc_lV10 hws rfl) (Nat.le_of_ble_eq_true rfl) (gz_Ev_mono (d := 3) (by decide) E55) ?_
              show gv_X _ _ (102, [(0, .inr (.inr (some 86))), (1, .inr (.inr (some a1))), (2, .inl v2_5), (3, .inl v3_5), (4, .inl v4_8), (5, .inl v5_8)], [], sh, gc_h sh I56 J4 A)
              refine gv_run 2 true hD (pc' := 107) (lv' := [(4, .inl (v4_8 + 1)), (0, .inr (.inr (some 86))), (1, .inr (.inr (some a1))), (2, .inl v2_5), (3, .inl v3_5), (5, .inl v5_8)]) (st' := [.inl v5_8]) (h' := gc_h sh I56 J4 A) (C := ((True ∧ True) ∧ True)) rfl ⟨⟨trivial, trivial⟩, trivial⟩ ?_
              refine gv_if_le (t := 137) hD rfl rfl ⟨by exact gz_m 68 (by omega), by exact gz_m 69 (by omega)⟩ (fun c60 => ?_) (fun c60 => ?_)
              · show gv_X _ _ (137, [(4, .inl (v4_8 + 1)), (0, .inr (.inr (some 86))), (1, .inr (.inr (some a1))), (2, .inl v2_5), (3, .inl v3_5), (5, .inl v5_8)], [], sh, gc_h sh I56 J4 A)
                refine gv_pick [1, 2, 3, 4, 0] rfl ?_
                exact L137 _ I56 J4 v3_5 (v4_8 + 1) (Nat.lt_succ_self _) hI56 FI56 FJ4 (by exact gz_m 70 (by omega)) (gc_ge_fr e0_11 (fun k => (g55 92 k).resolve_left (by exact gz_m 71 (by omega)))) (gc_rg_hi (gc_rg_fr e1_11 (fun k => (g55 93 k).resolve_left (by exact gz_m 72 (by omega)))) (by exact gz_m 73 (by omega)))
              · show gv_X _ _ (110, [(4, .inl (v4_8 + 1)), (0, .inr (.inr (some 86))), (1, .inr (.inr (some a1))), (2, .inl v2_5), (3, .inl v3_5), (5, .inl v5_8)], [], sh, gc_h sh I56 J4 A)
                refine gv_run 2 true hD (pc' := 113) (lv' := [(4, .inl (v4_8 + 1)), (0, .inr (.inr (some 86))), (1, .inr (.inr (some a1))), (2, .inl v2_5), (3, .inl v3_5), (5, .inl v5_8)]) (st' := [.inl 40, .inr (.inr (some a1))]) (h' := gc_h sh I56 J4 A) (C := ((True ∧ True) ∧ True)) rfl ⟨⟨trivial, trivial⟩, trivial⟩ ?_
                obtain ⟨r61, h61, E61, P61⟩ := d_X9_put (ws0 := ws0) (tb := tb) hws htb sh ro I56 J4 A hI56 a1 40 h_a1   ⟨by exact gz_m 74 (by omega), by exact gz_m 75 (by omega)⟩  
                obtain ⟨I62, J63, rfl, hI62, g61, k61, rfl⟩ := P61
                have FI62 := gc_frc (W := fun q j => (q = a1 ∧ j = 1) ∨ q = (a1 + 1) ∨ q = 92 ∨ q = 93) (V := fun q j => (q = a1 ∧ j = 1) ∨ q = (a1 + 1)) FI56 (fun q j h => (h.elim (fun h => (Or.inl h)) (fun h => (Or.inr (Or.inl h))))) g61
                have t64 := (g61 86 1).resolve_left (fun h => h.elim (fun h => absurd h.1 N_86__a1) (fun h => absurd h N_86__a1_1))
                have t65 := (g61 86 2).resolve_left (fun h => h.elim (fun h => absurd h.2 (by decide)) (fun h => absurd h N_86__a1_1))
                obtain rfl : J4 = J63 := funext fun q => funext fun j => ((k61 q j).resolve_left id).symm
                refine gv_callV hD rfl (As := [.inl 40]) (st := []) rfl B_a1 S_a1 rfl (gc_lV10 hws rfl) (Nat.le_of_ble_eq_true rfl) (gz_Ev_mono (d := 1) (by decide) E61) ?_
                show gv_X _ _ (116, [(4, .inl (v4_8 + 1)), (0, .inr (.inr (some 86))), (1, .inr (.inr (some a1))), (2, .inl v2_5), (3, .inl v3_5), (5, .inl v5_8)], [], sh, gc_h sh I62 J4 A)
                refine gv_run 1 true hD (pc' := 117) (lv' := [(4, .inl (v4_8 + 1)), (0, .inr (.inr (some 86))), (1, .inr (.inr (some a1))), (2, .inl v2_5), (3, .inl v3_5), (5, .inl v5_8)]) (st' := [.inr (.inr (some 86))]) (h' := gc_h sh I62 J4 A) (C := (True ∧ True)) rfl ⟨trivial, trivial⟩ ?_
                refine gv_get hD rfl rfl S_86 ⟨by decide, B_86⟩ (gc_hA S_86 rfl A_86_7) ?_
                show gv_X _ _ (120, [(4, .inl (v4_8 + 1)), (0, .inr (.inr (some 86))), (1, .inr (.inr (some a1))), (2, .inl v2_5), (3, .inl v3_5), (5, .inl v5_8)], [.inr (.inr (some 92))], sh, gc_h sh I62 J4 A)
                refine gv_run 2 true hD (pc' := 123) (lv' := [(4, .inl (v4_8 + 1)), (0, .inr (.inr (some 86))), (1, .inr (.inr (some a1))), (2, .inl v2_5), (3, .inl v3_5), (5, .inl v5_8)]) (st' := [.inl v5_8, .inl v3_5, .inr (.inr (some 92))]) (h' := gc_h sh I62 J4 A) (C := ((True ∧ True) ∧ True)) rfl ⟨⟨trivial, trivial⟩, trivial⟩ ?_
                refine gv_iast hD rfl S_92 ⟨by decide, B_92⟩ ⟨by exact gz_m 76 (by omega), by exact gz_m 77 (by omega)⟩ ?_
                refine gc_st hI62 S_92 rfl R_92 (lo := 0) (hi := 400) rfl rfl (by exact gz_m 78 (by omega)) (by exact gz_m 79 (by omega)) (fun I66 hI66 q67 p67 => ?_)
                have FI66 := gc_frs (W := fun q j => (q = a1 ∧ j = 1) ∨ q = (a1 + 1) ∨ q = 92 ∨ q = 93) FI62 (Or.inr (Or.inr (Or.inl rfl))) p67
                have t68 := p67 86 1 (fun h => absurd h.1 (by decide))
                have t69 := p67 86 2 (fun h => absurd h.1 (by decide))
                show gv_X _ _ (124, [(4, .inl (v4_8 + 1)), (0, .inr (.inr (some 86))), (1, .inr (.inr (some a1))), (2, .inl v2_5), (3, .inl v3_5), (5, .inl v5_8)], [], sh, gc_h sh I66 J4 A)
                refine gv_run 1 true hD (pc' := 125) (lv' := [(4, .inl (v4_8 + 1)), (0, .inr (.inr (some 86))), (1, .inr (.inr (some a1))), (2, .inl v2_5), (3, .inl v3_5), (5, .inl v5_8)]) (st' := [.inr (.inr (some 86))]) (h' := gc_h sh I66 J4 A) (C := (True ∧ True)) rfl ⟨trivial, trivial⟩ ?_
                refine gv_get hD rfl rfl S_86 ⟨by decide, B_86⟩ (gc_hA S_86 rfl A_86_8) ?_
                show gv_X _ _ (128, [(4, .inl (v4_8 + 1)), (0, .inr (.inr (some 86))), (1, .inr (.inr (some a1))), (2, .inl v2_5), (3, .inl v3_5), (5, .inl v5_8)], [.inr (.inr (some 93))], sh, gc_h sh I66 J4 A)
                refine gv_run 3 true hD (pc' := 133) (lv' := [(3, .inl (v3_5 + 1)), (4, .inl (v4_8 + 1)), (0, .inr (.inr (some 86))), (1, .inr (.inr (some a1))), (2, .inl v2_5), (5, .inl v5_8)]) (st' := [.inl v2_5, .inl v3_5, .inr (.inr (some 93))]) (h' := gc_h sh I66 J4 A) (C := (((True ∧ True) ∧ True) ∧ True)) rfl ⟨⟨⟨trivial, trivial⟩, trivial⟩, trivial⟩ ?_
                refine gv_iast hD rfl S_93 ⟨by decide, B_93⟩ ⟨by exact gz_m 80 (by omega), by exact gz_m 81 (by omega)⟩ ?_
                refine gc_st hI66 S_93 rfl R_93 (lo := 0) (hi := 400) rfl rfl (by exact gz_m 82 (by omega)) (by exact gz_m 83 (by omega)) (fun I70 hI70 q71 p71 => ?_)
                have FI70 := gc_frs (W := fun q j => (q = a1 ∧ j = 1) ∨ q = (a1 + 1) ∨ q = 92 ∨ q = 93) FI66 (Or.inr (Or.inr (Or.inr rfl))) p71
                have t72 := p71 86 1 (fun h => absurd h.1 (by decide))
                have t73 := p71 86 2 (fun h => absurd h.1 (by decide))
                show gv_X _ _ (134, [(3, .inl (v3_5 + 1)), (4, .inl (v4_8 + 1)), (0, .inr (.inr (some 86))), (1, .inr (.inr (some a1))), (2, .inl v2_5), (5, .inl v5_8)], [], sh, gc_h sh I70 J4 A)
                refine gv_run 1 true hD (pc' := 7) (lv' := [(3, .inl (v3_5 + 1)), (4, .inl (v4_8 + 1)), (0, .inr (.inr (some 86))), (1, .inr (.inr (some a1))), (2, .inl v2_5), (5, .inl v5_8)]) (st' := []) (h' := gc_h sh I70 J4 A) (C := (True ∧ True)) rfl ⟨trivial, trivial⟩ ?_
                refine gv_pick [2, 3, 4, 0, 1] rfl ?_
                exact ih7 I70 J4 v2_5 (v3_5 + 1) (v4_8 + 1) (by exact gz_m 84 (by omega)) hI70 FI70 FJ4 (by exact gz_m 85 (by omega)) (gc_ge_fr (gc_ge_push (gc_ge_fr (gc_ge_fr e0_11 (fun k => (g55 92 k).resolve_left (by exact gz_m 86 (by omega)))) (fun k => (g61 92 k).resolve_left (by exact gz_m 87 (by omega)))) (by exact gz_m 88 (by omega)) p67 (by exact gz_m 89 (by omega))) (fun k => p71 92 k (fun h => absurd h.1 (by exact gz_m 90 (by omega))))) (gc_rg_hi (gc_rg_push (gc_rg_hi (gc_rg_fr (gc_rg_fr (gc_rg_fr e1_11 (fun k => (g55 93 k).resolve_left (by exact gz_m 91 (by omega)))) (fun k => (g61 93 k).resolve_left (by exact gz_m 92 (by omega)))) (fun k => p67 93 k (fun h => absurd h.1 (by exact gz_m 93 (by omega))))) (show _ ≤ (v4_8 + 1) from by exact gz_m 94 (by omega))) (by exact gz_m 95 (by omega)) p71 (by exact gz_m 96 (by omega))) (by exact gz_m 97 (by omega)))
            · show gv_X _ _ (62, [(0, .inr (.inr (some 86))), (1, .inr (.inr (some a1))), (2, .inl v2_5), (3, .inl v3_5), (4, .inl v4_8), (5, .inl v5_8)], [], sh, gc_h sh I3 J4 A)
              refine gv_run 3 true hD (pc' := 68) (lv' := [(2, .inl (v2_5 + 1)), (0, .inr (.inr (some 86))), (1, .inr (.inr (some a1))), (3, .inl v3_5), (4, .inl v4_8), (5, .inl v5_8)]) (st' := [.inl 92, .inr (.inr (some a1))]) (h' := gc_h sh I3 J4 A) (C := (((True ∧ True) ∧ True) ∧ True)) rfl ⟨⟨⟨trivial, trivial⟩, trivial⟩, trivial⟩ ?_
              obtain ⟨r74, h74, E74, P74⟩ := d_X9_put (ws0 := ws0) (tb := tb) hws htb sh ro I3 J4 A hI3 a1 92 h_a1   ⟨by exact gz_m 98 (by omega), by exact gz_m 99 (by omega)⟩  
              obtain ⟨I75, J76, rfl, hI75, g74, k74, rfl⟩ := P74
              have FI75 := gc_frc (W := fun q j => (q = a1 ∧ j = 1) ∨ q = (a1 + 1) ∨ q = 92 ∨ q = 93) (V := fun q j => (q = a1 ∧ j = 1) ∨ q = (a1 + 1)) FI3 (fun q j h => (h.elim (fun h => (Or.inl h)) (fun h => (Or.inr (Or.inl h))))) g74
              have t77 := (g74 86 1).resolve_left (fun h => h.elim (fun h => absurd h.1 N_86__a1) (fun h => absurd h N_86__a1_1))
              have t78 := (g74 86 2).resolve_left (fun h => h.elim (fun h => absurd h.2 (by decide)) (fun h => absurd h N_86__a1_1))
              obtain rfl : J4 = J76 := funext fun q => funext fun j => ((k74 q j).resolve_left id).symm
              refine gv_callV hD rfl (As := [.inl 92]) (st := []) rfl B_a1 S_a1 rfl (gc_lV10 hws rfl) (Nat.le_of_ble_eq_true rfl) (gz_Ev_mono (d := 1) (by decide) E74) ?_
              show gv_X _ _ (71, [(2, .inl (v2_5 + 1)), (0, .inr (.inr (some 86))), (1, .inr (.inr (some a1))), (3, .inl v3_5), (4, .inl v4_8), (5, .inl v5_8)], [], sh, gc_h sh I75 J4 A)
              refine gv_run 2 true hD (pc' := 74) (lv' := [(2, .inl (v2_5 + 1)), (0, .inr (.inr (some 86))), (1, .inr (.inr (some a1))), (3, .inl v3_5), (4, .inl v4_8), (5, .inl v5_8)]) (st' := [.inl 118, .inr (.inr (some a1))]) (h' := gc_h sh I75 J4 A) (C := ((True ∧ True) ∧ True)) rfl ⟨⟨trivial, trivial⟩, trivial⟩ ?_
              obtain ⟨r79, h79, E79, P79⟩ := d_X9_put (ws0 := ws0) (tb := tb) hws htb sh ro I75 J4 A hI75 a1 118 h_a1   ⟨by exact gz_m 100 (by omega), by exact gz_m 101 (by omega)⟩  
              obtain ⟨I80, J81, rfl, hI80, g79, k79, rfl⟩ := P79
              have FI80 := gc_frc (W := fun q j => (q = a1 ∧ j = 1) ∨ q = (a1 + 1) ∨ q = 92 ∨ q = 93) (V := fun q j => (q = a1 ∧ j = 1) ∨ q = (a1 + 1)) FI75 (fun q j h => (h.elim (fun h => (Or.inl h)) (fun h => (Or.inr (Or.inl h))))) g79
              have t82 := (g79 86 1).resolve_left (fun h => h.elim (fun h => absurd h.1 N_86__a1) (fun h => absurd h N_86__a1_1))
              have t83 := (g79 86 2).resolve_left (fun h => h.elim (fun h => absurd h.2 (by decide)) (fun h => absurd h N_86__a1_1))
              obtain rfl : J4 = J81 := funext fun q => funext fun j => ((k79 q j).resolve_left id).symm
              refine gv_callV hD rfl (As := [.inl 118]) (st := []) rfl B_a1 S_a1 rfl (gc_lV10 hws rfl) (Nat.le_of_ble_eq_true rfl) (gz_Ev_mono (d := 1) (by decide) E79) ?_
              show gv_X _ _ (77, [(2, .inl (v2_5 + 1)), (0, .inr (.inr (some 86))), (1, .inr (.inr (some a1))), (3, .inl v3_5), (4, .inl v4_8), (5, .inl v5_8)], [], sh, gc_h sh I80 J4 A)
              refine gv_run 2 true hD (pc' := 79) (lv' := [(2, .inl (v2_5 + 1)), (0, .inr (.inr (some 86))), (1, .inr (.inr (some a1))), (3, .inl v3_5), (4, .inl v4_8), (5, .inl v5_8)]) (st' := [.inl (v2_5 + 1), .inr (.inr (some a1))]) (h' := gc_h sh I80 J4 A) (C := ((True ∧ True) ∧ True)) rfl ⟨⟨trivial, trivial⟩, trivial⟩ ?_
              obtain ⟨r84, h84, E84, P84⟩ := d_X9_putNumber (ws0 := ws0) (tb := tb) hws htb sh ro I80 J4 A hI80 a1 (v2_5 + 1) h_a1   ⟨by exact gz_m 102 (by omega), by exact gz_m 103 (by omega)⟩  
              obtain ⟨I85, J86, rfl, hI85, g84, k84, rfl⟩ := P84
              have FI85 := gc_frc (W := fun q j => (q = a1 ∧ j = 1) ∨ q = (a1 + 1) ∨ q = 92 ∨ q = 93) (V := fun q j => (q = a1 ∧ j = 1) ∨ q = (a1 + 1)) FI80 (fun q j h => (h.elim (fun h => (Or.inl h)) (fun h => (Or.inr (Or.inl h))))) g84
              have t87 := (g84 86 1).resolve_left (fun h => h.elim (fun h => absurd h.1 N_86__a1) (fun h => absurd h N_86__a1_1))
              have t88 := (g84 86 2).resolve_left (fun h => h.elim (fun h => absurd h.2 (by decide)) (fun h => absurd h N_86__a1_1))
              obtain rfl : J4 = J86 := funext fun q => funext fun j => ((k84 q j).resolve_left id).symm
              refine gv_callV hD rfl (As := [.inl (v2_5 + 1)]) (st := []) rfl B_a1 S_a1 rfl (gc_lV10 hws rfl) (Nat.le_of_ble_eq_true rfl) (gz_Ev_mono (d := 2) (by decide) E84) ?_
              show gv_X _ _ (82, [(2, .inl (v2_5 + 1)), (0, .inr (.inr (some 86))), (1, .inr (.inr (some a1))), (3, .inl v3_5), (4, .inl v4_8), (5, .inl v5_8)], [], sh, gc_h sh I85 J4 A)
              refine gv_run 2 true hD (pc' := 85) (lv' := [(2, .inl (v2_5 + 1)), (0, .inr (.inr (some 86))), (1, .inr (.inr (some a1))), (3, .inl v3_5), (4, .inl v4_8), (5, .inl v5_8)]) (st' := [.inl 46, .inr (.inr (some a1))]) (h' := gc_h sh I85 J4 A) (C := ((True ∧ True) ∧ True)) rfl ⟨⟨trivial, trivial⟩, trivial⟩ ?_
              obtain ⟨r89, h89, E89, P89⟩ := d_X9_put (ws0 := ws0) (tb := tb) hws htb sh ro I85 J4 A hI85 a1 46 h_a1   ⟨by exact gz_m 104 (by omega), by exact gz_m 105 (by omega)⟩  
              obtain ⟨I90, J91, rfl, hI90, g89, k89, rfl⟩ := P89
              have FI90 := gc_frc (W := fun q j => (q = a1 ∧ j = 1) ∨ q = (a1 + 1) ∨ q = 92 ∨ q = 93) (V := fun q j => (q = a1 ∧ j = 1) ∨ q = (a1 + 1)) FI85 (fun q j h => (h.elim (fun h => (Or.inl h)) (fun h => (Or.inr (Or.inl h))))) g89
              have t92 := (g89 86 1).resolve_left (fun h => h.elim (fun h => absurd h.1 N_86__a1) (fun h => absurd h N_86__a1_1))
              have t93 := (g89 86 2).resolve_left (fun h => h.elim (fun h => absurd h.2 (by decide)) (fun h => absurd h N_86__a1_1))
              obtain rfl : J4 = J91 := funext fun q => funext fun j => ((k89 q j).resolve_left id).symm
              refine gv_callV hD rfl (As := [.inl 46]) (st := []) rfl B_a1 S_a1 rfl (gc_lV10 hws rfl) (Nat.le_of_ble_eq_true rfl) (gz_Ev_mono (d := 1) (by decide) E89) ?_
              show gv_X _ _ (88, [(2, .inl (v2_5 + 1)), (0, .inr (.inr (some 86))), (1, .inr (.inr (some a1))), (3, .inl v3_5), (4, .inl v4_8), (5, .inl v5_8)], [], sh, gc_h sh I90 J4 A)
              refine gv_run 2 true hD (pc' := 7) (lv' := [(4, .inl (v4_8 + 1)), (2, .inl (v2_5 + 1)), (0, .inr (.inr (some 86))), (1, .inr (.inr (some a1))), (3, .inl v3_5), (5, .inl v5_8)]) (st' := []) (h' := gc_h sh I90 J4 A) (C := ((True ∧ True) ∧ True)) rfl ⟨⟨trivial, trivial⟩, trivial⟩ ?_
              refine gv_pick [2, 3, 1, 4, 0] rfl ?_
              exact ih7 I90 J4 (v2_5 + 1) v3_5 (v4_8 + 1) (by exact gz_m 106 (by omega)) hI90 FI90 FJ4 (by exact gz_m 107 (by omega)) (gc_ge_fr (gc_ge_fr (gc_ge_fr (gc_ge_fr e0_11 (fun k => (g74 92 k).resolve_left (by exact gz_m 108 (by omega)))) (fun k => (g79 92 k).resolve_left (by exact gz_m 109 (by omega)))) (fun k => (g84 92 k).resolve_left (by exact gz_m 110 (by omega)))) (fun k => (g89 92 k).resolve_left (by exact gz_m 111 (by omega)))) (gc_rg_hi (gc_rg_fr (gc_rg_fr (gc_rg_fr (gc_rg_fr e1_11 (fun k => (g74 93 k).resolve_left (by exact gz_m 112 (by omega)))) (fun k => (g79 93 k).resolve_left (by exact gz_m 113 (by omega)))) (fun k => (g84 93 k).resolve_left (by exact gz_m 114 (by omega)))) (fun k => (g89 93 k).resolve_left (by exact gz_m 115 (by omega)))) (by exact gz_m 116 (by omega)))
          refine gv_run 2 true hD (pc' := 22) (lv' := [(0, .inr (.inr (some 86))), (1, .inr (.inr (some a1))), (2, .inl v2_5), (3, .inl v3_5), (4, .inl v4_8), (5, .inl v5_8)]) (st' := [.inr (.inr (some 86)), .inl v4_8]) (h' := gc_h sh I3 J4 A) (C := ((True ∧ True) ∧ True)) rfl ⟨⟨trivial, trivial⟩, trivial⟩ ?_
          have f94 := (show 0 ≤ I3 86 1 ∧ I3 86 1 ≤ 300 from gc_in hI3 R_86 rfl rfl)
          refine gv_get hD rfl rfl S_86 ⟨by decide, B_86⟩ (gc_hI S_86 rfl) ?_
          show gv_X _ _ (25, [(0, .inr (.inr (some 86))), (1, .inr (.inr (some a1))), (2, .inl v2_5), (3, .inl v3_5), (4, .inl v4_8), (5, .inl v5_8)], [.inl (I3 86 1), .inl v4_8], sh, gc_h sh I3 J4 A)
          refine gv_run 2 true hD (pc' := 27) (lv' := [(0, .inr (.inr (some 86))), (1, .inr (.inr (some a1))), (2, .inl v2_5), (3, .inl v3_5), (4, .inl v4_8), (5, .inl v5_8)]) (st' := [.inl ((I3 86 1) - 1), .inl v4_8]) (h' := gc_h sh I3 J4 A) (C := ((True ∧ True) ∧ True)) rfl ⟨⟨trivial, trivial⟩, trivial⟩ ?_
          refine gv_icmp_ge (t := 50) hD rfl rfl ⟨⟨by exact gz_m 117 (by omega), by exact gz_m 118 (by omega)⟩, ⟨by exact gz_m 119 (by omega), by exact gz_m 120 (by omega)⟩⟩ (fun c95 => ?_) (fun c95 => ?_)
          · show gv_X _ _ (50, [(0, .inr (.inr (some 86))), (1, .inr (.inr (some a1))), (2, .inl v2_5), (3, .inl v3_5), (4, .inl v4_8), (5, .inl v5_8)], [], sh, gc_h sh I3 J4 A)
            exact L50 (by exact gz_m 121 (by omega)) e0_8 (gc_rg_hi e1_8 (by exact gz_m 122 (by omega)))
          · show gv_X _ _ (30, [(0, .inr (.inr (some 86))), (1, .inr (.inr (some a1))), (2, .inl v2_5), (3, .inl v3_5), (4, .inl v4_8), (5, .inl v5_8)], [], sh, gc_h sh I3 J4 A)
            refine gv_run 1 true hD (pc' := 31) (lv' := [(0, .inr (.inr (some 86))), (1, .inr (.inr (some a1))), (2, .inl v2_5), (3, .inl v3_5), (4, .inl v4_8), (5, .inl v5_8)]) (st' := [.inr (.inr (some 86))]) (h' := gc_h sh I3 J4 A) (C := (True ∧ True)) rfl ⟨trivial, trivial⟩ ?_
            have f97 := (show 0 ≤ I3 86 2 ∧ I3 86 2 ≤ 1 from gc_in hI3 R_86 rfl rfl)
            obtain ⟨f96_, hq_f96_, S_f96, R_f96, B_f96, D_f96⟩ := gc_sw (p := 86) (d := 1) (s := 2) (z := I3 86 2) (show 0 ≤ I3 86 2 ∧ I3 86 2 ≤ 1 from gc_in hI3 R_86 rfl rfl) S_87 R_87 B_87 S_89 R_89 B_89
            refine gv_get hD rfl rfl S_86 ⟨by decide, B_86⟩ (gc_hS (n := 1001) S_86 rfl hq_f96_) ?_
            show gv_X _ _ (34, [(0, .inr (.inr (some 86))), (1, .inr (.inr (some a1))), (2, .inl v2_5), (3, .inl v3_5), (4, .inl v4_8), (5, .inl v5_8)], [.inr (.inr (some f96_))], sh, gc_h sh I3 J4 A)
            refine gv_run 1 true hD (pc' := 36) (lv' := [(0, .inr (.inr (some 86))), (1, .inr (.inr (some a1))), (2, .inl v2_5), (3, .inl v3_5), (4, .inl v4_8), (5, .inl v5_8)]) (st' := [.inl v4_8, .inr (.inr (some f96_))]) (h' := gc_h sh I3 J4 A) (C := (True ∧ True)) rfl ⟨trivial, trivial⟩ ?_
            have f98 := (show (-3) ≤ I3 f96_ (Int.toNat v4_8) ∧ I3 f96_ (Int.toNat v4_8) ≤ 1000000 from gc_in hI3 R_f96 rfl rfl)
            refine gv_iald hD rfl S_f96 rfl ⟨by decide, B_f96⟩ ⟨by exact gz_m 123 (by omega), by exact gz_m 124 (by omega)⟩ (gc_iI S_f96 rfl) ?_
            show gv_X _ _ (37, [(0, .inr (.inr (some 86))), (1, .inr (.inr (some a1))), (2, .inl v2_5), (3, .inl v3_5), (4, .inl v4_8), (5, .inl v5_8)], [.inl (I3 f96_ (Int.toNat v4_8))], sh, gc_h sh I3 J4 A)
            refine gv_run 1 true hD (pc' := 38) (lv' := [(0, .inr (.inr (some 86))), (1, .inr (.inr (some a1))), (2, .inl v2_5), (3, .inl v3_5), (4, .inl v4_8), (5, .inl v5_8)]) (st' := [.inl (-1), .inl (I3 f96_ (Int.toNat v4_8))]) (h' := gc_h sh I3 J4 A) (C := (True ∧ True)) rfl ⟨trivial, trivial⟩ ?_
            refine gv_icmp_ne (t := 50) hD rfl rfl ⟨⟨by exact gz_m 125 (by omega), by exact gz_m 126 (by omega)⟩, ⟨by exact gz_m 127 (by omega), by exact gz_m 128 (by omega)⟩⟩ (fun c99 => ?_) (fun c99 => ?_)
            · show gv_X _ _ (50, [(0, .inr (.inr (some 86))), (1, .inr (.inr (some a1))), (2, .inl v2_5), (3, .inl v3_5), (4, .inl v4_8), (5, .inl v5_8)], [], sh, gc_h sh I3 J4 A)
              exact L50 (by exact gz_m 129 (by omega)) e0_8 (gc_rg_hi e1_8 (by exact gz_m 130 (by omega)))
            · show gv_X _ _ (41, [(0, .inr (.inr (some 86))), (1, .inr (.inr (some a1))), (2, .inl v2_5), (3, .inl v3_5), (4, .inl v4_8), (5, .inl v5_8)], [], sh, gc_h sh I3 J4 A)
              refine gv_run 3 true hD (pc' := 19) (lv' := [(4, .inl (v4_8 + 1)), (5, .inl (v5_8 + 1)), (0, .inr (.inr (some 86))), (1, .inr (.inr (some a1))), (2, .inl v2_5), (3, .inl v3_5)]) (st' := []) (h' := gc_h sh I3 J4 A) (C := (((True ∧ True) ∧ True) ∧ True)) rfl ⟨⟨⟨trivial, trivial⟩, trivial⟩, trivial⟩ ?_
              refine gv_pick [2, 3, 4, 5, 0, 1] rfl ?_
              exact ih19 (v4_8 + 1) (v5_8 + 1) (by exact gz_m 131 (by omega)) (by exact gz_m 132 (by omega)) e0_8 (gc_rg_hi e1_8 (by exact gz_m 133 (by omega)))
      refine gv_run 2 true hD (pc' := 10) (lv' := [(0, .inr (.inr (some 86))), (1, .inr (.inr (some a1))), (2, .inl v2_5), (3, .inl v3_5), (4, .inl v4_5)]) (st' := [.inr (.inr (some 86)), .inl v4_5]) (h' := gc_h sh I3 J4 A) (C := ((True ∧ True) ∧ True)) rfl ⟨⟨trivial, trivial⟩, trivial⟩ ?_
      have f100 := (show 0 ≤ I3 86 1 ∧ I3 86 1 ≤ 300 from gc_in hI3 R_86 rfl rfl)
      refine gv_get hD rfl rfl S_86 ⟨by decide, B_86⟩ (gc_hI S_86 rfl) ?_
      show gv_X _ _ (13, [(0, .inr (.inr (some 86))), (1, .inr (.inr (some a1))), (2, .inl v2_5), (3, .inl v3_5), (4, .inl v4_5)], [.inl (I3 86 1), .inl v4_5], sh, gc_h sh I3 J4 A)
      refine gv_icmp_ge (t := 199) hD rfl rfl ⟨⟨by exact gz_m 134 (by omega), by exact gz_m 135 (by omega)⟩, ⟨by exact gz_m 136 (by omega), by exact gz_m 137 (by omega)⟩⟩ (fun c101 => ?_) (fun c101 => ?_)
      · show gv_X _ _ (199, [(0, .inr (.inr (some 86))), (1, .inr (.inr (some a1))), (2, .inl v2_5), (3, .inl v3_5), (4, .inl v4_5)], [], sh, gc_h sh I3 J4 A)
        exact gv_vret hD rfl ⟨I3, J4, rfl, hI3, FI3, FJ4, rfl⟩
      · show gv_X _ _ (16, [(0, .inr (.inr (some 86))), (1, .inr (.inr (some a1))), (2, .inl v2_5), (3, .inl v3_5), (4, .inl v4_5)], [], sh, gc_h sh I3 J4 A)
        refine gv_run 2 true hD (pc' := 19) (lv' := [(5, .inl 0), (0, .inr (.inr (some 86))), (1, .inr (.inr (some a1))), (2, .inl v2_5), (3, .inl v3_5), (4, .inl v4_5)]) (st' := []) (h' := gc_h sh I3 J4 A) (C := ((True ∧ True) ∧ True)) rfl ⟨⟨trivial, trivial⟩, trivial⟩ ?_
        refine gv_pick [1, 2, 3, 4, 5, 0] rfl ?_
        exact L19 _ v4_5 0 (Nat.lt_succ_self _) (by exact gz_m 138 (by omega)) e0_5 (gc_rg_hi e1_5 (by exact gz_m 139 (by omega)))
  refine gv_run 6 true hD (pc' := 7) (lv' := [(4, .inl 0), (3, .inl 0), (2, .inl 0), (0, .inr (.inr (some 86))), (1, .inr (.inr (some a1)))]) (st' := []) (h' := gc_h sh I J A) (C := ((((((True ∧ True) ∧ True) ∧ True) ∧ True) ∧ True) ∧ True)) rfl ⟨⟨⟨⟨⟨⟨trivial, trivial⟩, trivial⟩, trivial⟩, trivial⟩, trivial⟩, trivial⟩ ?_
  refine gv_pick [3, 4, 2, 1, 0] rfl ?_
  exact L7 _ I J 0 0 0 (Nat.lt_succ_self _) hI FI FJ (by exact gz_m 140 (by omega)) (fun k a b => by exact gz_m 141 (by omega)) (fun k a b => by exact gz_m 142 (by omega))
