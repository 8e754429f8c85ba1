set_option maxHeartbeats 4000000 in
set_option maxRecDepth 100000 in
theorem d_X6_readPart {ws0 : List Cond} {tb : String → gz_T} (hws : gc_Ws ws0) (htb : gc_tbs tb) (sh : gz_Sh) (ro : Nat → Nat) (I : gr_I) (J : gr_J) (A : gc_A) (hI : gc_Inv ro I)  (hb : gc_Base sh ro A)  (x0 : I 23 5 ≤ I 23 6) (x1 : I 23 7 = 5 ∨ I 23 6 ≤ I 23 1) (x2 : I 23 5 ≤ I 23 1) (x3 : I 23 7 = 4 ∨ (I 23 5 < I 23 6 ∧ I 23 5 < I 23 1)) (x4 : I 23 7 = 3 → 2 ≤ I 23 6 - I 23 5 ∧ I 23 6 - I 23 5 ≤ 14) (x5 : I 1 17 + I 23 1 ≤ 1280 + I 23 5) (KLT_I : gc_LT I) : ∃ r h', gz_Ev ws0 tb 3 (yX6_readPart, cX6_readPart, 1, (some .boolean)) [.inr (.inr (some 39))] sh (gc_h sh I J A) r sh h' 0 0 ∧ (∃ (I' : gr_I) (J' : gr_J), h' = gc_h sh I' J' A ∧ gc_Inv ro I' ∧ (∀ q j : Nat, ((q = 39 ∧ j = 3) ∨ (q = 39 ∧ j = 4) ∨ (q = 23 ∧ j = 5) ∨ (q = 23 ∧ j = 6) ∨ (q = 23 ∧ j = 7) ∨ (q = 23 ∧ j = 8) ∨ (q = 1 ∧ j = 17) ∨ (q = 1 ∧ j = 18) ∨ q = 20) ∨ I' q j = I q j) ∧ (∀ q j : Nat, ((q = 23 ∧ j = 9)) ∨ J' q j = J q j) ∧ gc_LT I' ∧ (∃ z : Int, r = some (.inl z) ∧ 0 ≤ z ∧ z ≤ 1 ∧ (I' 23 5 ≤ I' 23 6) ∧ (I' 23 7 = 5 ∨ I' 23 6 ≤ I' 23 1) ∧ (I' 23 5 ≤ I' 23 1) ∧ (I' 23 7 = 4 ∨ (I' 23 5 < I' 23 6 ∧ I' 23 5 < I' 23 1)) ∧ (I' 23 7 = 3 → 2 ≤ I' 23 6 - I' 23 5 ∧ I' 23 6 - I' 23 5 ≤ 14) ∧ (I' 23 1 = I 23 1) ∧ (I 23 5 ≤ I' 23 5) ∧ (I' 1 17 + I' 23 1 ≤ 1280 + I' 23 5) ∧ (I 1 17 ≤ I' 1 17))) := by
  have FI : ∀ q j : Nat, ((q = 39 ∧ j = 3) ∨ (q = 39 ∧ j = 4) ∨ (q = 23 ∧ j = 5) ∨ (q = 23 ∧ j = 6) ∨ (q = 23 ∧ j = 7) ∨ (q = 23 ∧ j = 8) ∨ (q = 1 ∧ j = 17) ∨ (q = 1 ∧ j = 18) ∨ q = 20) ∨ I q j = I q j := fun _ _ => Or.inr rfl
  have FJ : ∀ q j : Nat, ((q = 23 ∧ j = 9)) ∨ J q j = J q j := fun _ _ => Or.inr rfl
  have A_39_0 : A 39 0 = some 1 := gc_bA hb rfl
  have A_39_1 : A 39 1 = some 23 := gc_bA hb rfl
  have B_1 : 1 < 1000000 := by decide
  have B_23 : 23 < 1000000 := by decide
  have B_39 : 39 < 1000000 := by decide
  have R_1 : ro 1 = 22 := gc_bR hb (by decide) rfl
  have R_23 : ro 23 = 3 := gc_bR hb (by decide) rfl
  have S_1 : sh[1]? = some (false, 8, 21) := gc_bS hb rfl
  have S_23 : sh[23]? = some (false, 9, 10) := gc_bS hb rfl
  have S_39 : sh[39]? = some (false, 6, 19) := gc_bS hb rfl
  have hD : gv_D (gc_E6 ws0 tb 2 (yX6_readPart, cX6_readPart, 1, (some .boolean)) kX6_readPart) := gq_ok oX6_readPart
  refine gc_ev6 (d := 2) (l := kX6_readPart) (Po := fun r h' => (∃ (I' : gr_I) (J' : gr_J), h' = gc_h sh I' J' A ∧ gc_Inv ro I' ∧ (∀ q j : Nat, ((q = 39 ∧ j = 3) ∨ (q = 39 ∧ j = 4) ∨ (q = 23 ∧ j = 5) ∨ (q = 23 ∧ j = 6) ∨ (q = 23 ∧ j = 7) ∨ (q = 23 ∧ j = 8) ∨ (q = 1 ∧ j = 17) ∨ (q = 1 ∧ j = 18) ∨ q = 20) ∨ I' q j = I q j) ∧ (∀ q j : Nat, ((q = 23 ∧ j = 9)) ∨ J' q j = J q j) ∧ gc_LT I' ∧ (∃ z : Int, r = some (.inl z) ∧ 0 ≤ z ∧ z ≤ 1 ∧ (I' 23 5 ≤ I' 23 6) ∧ (I' 23 7 = 5 ∨ I' 23 6 ≤ I' 23 1) ∧ (I' 23 5 ≤ I' 23 1) ∧ (I' 23 7 = 4 ∨ (I' 23 5 < I' 23 6 ∧ I' 23 5 < I' 23 1)) ∧ (I' 23 7 = 3 → 2 ≤ I' 23 6 - I' 23 5 ∧ I' 23 6 - I' 23 5 ≤ 14) ∧ (I' 23 1 = I 23 1) ∧ (I 23 5 ≤ I' 23 5) ∧ (I' 1 17 + I' 23 1 ≤ 1280 + I' 23 5) ∧ (I 1 17 ≤ I' 1 17)))) htb rfl (Nat.le_of_ble_eq_true rfl) ?_
  have f1 := (show 0 ≤ I 23 1 ∧ I 23 1 ≤ 1000 from gc_in hI R_23 rfl rfl)
  have f2 := (show 0 ≤ I 23 5 ∧ I 23 5 ≤ 1000 from gc_in hI R_23 rfl rfl)
  have f3 := (show 0 ≤ I 23 6 ∧ I 23 6 ≤ 1001 from gc_in hI R_23 rfl rfl)
  have f4 := (show 0 ≤ I 23 7 ∧ I 23 7 ≤ 125 from gc_in hI R_23 rfl rfl)
  have f5 := (show 0 ≤ I 1 17 ∧ I 1 17 ≤ 12000 from gc_in hI R_1 rfl rfl)
  have f6 := (show 0 ≤ I 23 8 ∧ I 23 8 ≤ 999999 from gc_in hI R_23 rfl rfl)
  have L78 : ∀ (I7 : gr_I) (J8 : gr_J) , gc_Inv ro I7 → (∀ q j : Nat, ((q = 39 ∧ j = 3) ∨ (q = 39 ∧ j = 4) ∨ (q = 23 ∧ j = 5) ∨ (q = 23 ∧ j = 6) ∨ (q = 23 ∧ j = 7) ∨ (q = 23 ∧ j = 8) ∨ (q = 1 ∧ j = 17) ∨ (q = 1 ∧ j = 18) ∨ q = 20) ∨ I7 q j = I q j) → (∀ q j : Nat, ((q = 23 ∧ j = 9)) ∨ J8 q j = J q j) → gc_LT I7 → ((I 23 7 = 2 ∨ I 23 7 = 3) ∧ (I7 23 7 = I 23 7) ∧ (I7 23 6 = I 23 6) ∧ (I7 23 5 = I 23 5) ∧ (I7 1 17 ≤ I 1 17 + I 23 6 - I 23 5) ∧ (I7 23 5 ≤ I7 23 6) ∧ (I7 23 7 = 5 ∨ I7 23 6 ≤ I7 23 1) ∧ (I7 23 5 ≤ I7 23 1) ∧ (I7 23 7 = 4 ∨ (I7 23 5 < I7 23 6 ∧ I7 23 5 < I7 23 1)) ∧ (I7 23 7 = 3 → 2 ≤ I7 23 6 - I7 23 5 ∧ I7 23 6 - I7 23 5 ≤ 14) ∧ (I7 23 1 = I 23 1) ∧ (I 23 5 ≤ I7 23 5) ∧ (I 1 17 ≤ I7 1 17)) → gv_X (gc_E6 ws0 tb 2 (yX6_readPart, cX6_readPart, 1, (some .boolean)) kX6_readPart) (gv_Q cX6_readPart (some .boolean) sh (fun r h' => (∃ (I' : gr_I) (J' : gr_J), h' = gc_h sh I' J' A ∧ gc_Inv ro I' ∧ (∀ q j : Nat, ((q = 39 ∧ j = 3) ∨ (q = 39 ∧ j = 4) ∨ (q = 23 ∧ j = 5) ∨ (q = 23 ∧ j = 6) ∨ (q = 23 ∧ j = 7) ∨ (q = 23 ∧ j = 8) ∨ (q = 1 ∧ j = 17) ∨ (q = 1 ∧ j = 18) ∨ q = 20) ∨ I' q j = I q j) ∧ (∀ q j : Nat, ((q = 23 ∧ j = 9)) ∨ J' q j = J q j) ∧ gc_LT I' ∧ (∃ z : Int, r = some (.inl z) ∧ 0 ≤ z ∧ z ≤ 1 ∧ (I' 23 5 ≤ I' 23 6) ∧ (I' 23 7 = 5 ∨ I' 23 6 ≤ I' 23 1) ∧ (I' 23 5 ≤ I' 23 1) ∧ (I' 23 7 = 4 ∨ (I' 23 5 < I' 23 6 ∧ I' 23 5 < I' 23 1)) ∧ (I' 23 7 = 3 → 2 ≤ I' 23 6 - I' 23 5 ∧ I' 23 6 - I' 23 5 ≤ 14) ∧ (I' 23 1 = I 23 1) ∧ (I 23 5 ≤ I' 23 5) ∧ (I' 1 17 + I' 23 1 ≤ 1280 + I' 23 5) ∧ (I 1 17 ≤ I' 1 17))))) (78, [(0, .inr (.inr (some 39)))], [], sh, gc_h sh I7 J8 A) := by
    intro I7 J8 hI7 FI7 FJ8 KLT_I7 m_9
    clear x0 x1 x2 x3 x4
    obtain ⟨e0_9, e1_9, e2_9, e3_9, e4_9, e5_9, e6_9, e7_9, e8_9, e9_9, e10_9, e11_9, e12_9⟩ := m_9
    have f10 := (show 0 ≤ I7 23 1 ∧ I7 23 1 ≤ 1000 from gc_in hI7 R_23 rfl rfl)
    have f11 := (show 0 ≤ I7 23 5 ∧ I7 23 5 ≤ 1000 from gc_in hI7 R_23 rfl rfl)
    have f12 := (show 0 ≤ I7 23 6 ∧ I7 23 6 ≤ 1001 from gc_in hI7 R_23 rfl rfl)
    have f13 := (show 0 ≤ I7 23 7 ∧ I7 23 7 ≤ 125 from gc_in hI7 R_23 rfl rfl)
    have f14 := (show 0 ≤ I7 1 17 ∧ I7 1 17 ≤ 12000 from gc_in hI7 R_1 rfl rfl)
    have f15 := (show 0 ≤ I7 23 8 ∧ I7 23 8 ≤ 999999 from gc_in hI7 R_23 rfl rfl)
    refine gv_run 1 true hD (pc' := 79) (lv' := [(0, .inr (.inr (some 39)))]) (st' := [.inr (.inr (some 39))]) (h' := gc_h sh I7 J8 A) (C := (True ∧ True)) rfl ⟨trivial, trivial⟩ ?_
    refine gv_get hD rfl rfl S_39 ⟨by decide, B_39⟩ (gc_hA S_39 rfl A_39_1) ?_
    show gv_X _ _ (82, [(0, .inr (.inr (some 39)))], [.inr (.inr (some 23))], sh, gc_h sh I7 J8 A)
    obtain ⟨r16, h16, E16, P16⟩ := d_X9_advance (ws0 := ws0) (tb := tb) hws htb sh ro I7 J8 A hI7 23  (gc_b23 hb)    (by omega) 
    obtain ⟨I17, J18, rfl, hI17, g16, k16, ⟨rfl, q16⟩⟩ := P16
    have FI17 := gc_frc (W := fun q j => (q = 39 ∧ j = 3) ∨ (q = 39 ∧ j = 4) ∨ (q = 23 ∧ j = 5) ∨ (q = 23 ∧ j = 6) ∨ (q = 23 ∧ j = 7) ∨ (q = 23 ∧ j = 8) ∨ (q = 1 ∧ j = 17) ∨ (q = 1 ∧ j = 18) ∨ q = 20) (V := fun q j => (q = 23 ∧ j = 5) ∨ (q = 23 ∧ j = 6) ∨ (q = 23 ∧ j = 7) ∨ (q = 23 ∧ j = 8)) FI7 (fun q j h => (h.elim (fun h => (Or.inr (Or.inr (Or.inl h)))) (fun h => (h.elim (fun h => (Or.inr (Or.inr (Or.inr (Or.inl h))))) (fun h => (h.elim (fun h => (Or.inr (Or.inr (Or.inr (Or.inr (Or.inl h)))))) (fun h => (Or.inr (Or.inr (Or.inr (Or.inr (Or.inr (Or.inl h))))))))))))) g16
    have FJ18 := gc_frc (W := fun q j => (q = 23 ∧ j = 9)) (V := fun q j => (q = 23 ∧ j = 9)) FJ8 (fun q j h => h) k16
    have t19 := (g16 23 1).resolve_left (by omega)
    have t20 := (g16 1 17).resolve_left (by omega)
    have f21 := (show 0 ≤ I17 23 1 ∧ I17 23 1 ≤ 1000 from gc_in hI17 R_23 rfl rfl)
    have f22 := (show 0 ≤ I17 23 5 ∧ I17 23 5 ≤ 1000 from gc_in hI17 R_23 rfl rfl)
    have f23 := (show 0 ≤ I17 23 6 ∧ I17 23 6 ≤ 1001 from gc_in hI17 R_23 rfl rfl)
    have f24 := (show 0 ≤ I17 23 7 ∧ I17 23 7 ≤ 125 from gc_in hI17 R_23 rfl rfl)
    have f25 := (show 0 ≤ I17 1 17 ∧ I17 1 17 ≤ 12000 from gc_in hI17 R_1 rfl rfl)
    have f26 := (show 0 ≤ I17 23 8 ∧ I17 23 8 ≤ 999999 from gc_in hI17 R_23 rfl rfl)
    have KLT_I17 : gc_LT I17 := q16.2.2.2.2.2.2.2
    refine gv_callV hD rfl (As := []) (st := []) rfl B_23 S_23 rfl (gc_lV6 hws rfl) (Nat.le_of_ble_eq_true rfl) (gz_Ev_mono (d := 2) (by decide) E16) ?_
    show gv_X _ _ (85, [(0, .inr (.inr (some 39)))], [], sh, gc_h sh I17 J18 A)
    refine gv_run 1 true hD (pc' := 86) (lv' := [(0, .inr (.inr (some 39)))]) (st' := [.inl 1]) (h' := gc_h sh I17 J18 A) (C := (True ∧ True)) rfl ⟨trivial, trivial⟩ ?_
    exact gv_zret hD rfl (by omega) ⟨I17, J18, rfl, hI17, FI17, FJ18, KLT_I17, ⟨_, rfl, by omega⟩⟩
  have L51 : ∀ (I27 : gr_I) (J28 : gr_J) , gc_Inv ro I27 → (∀ q j : Nat, ((q = 39 ∧ j = 3) ∨ (q = 39 ∧ j = 4) ∨ (q = 23 ∧ j = 5) ∨ (q = 23 ∧ j = 6) ∨ (q = 23 ∧ j = 7) ∨ (q = 23 ∧ j = 8) ∨ (q = 1 ∧ j = 17) ∨ (q = 1 ∧ j = 18) ∨ q = 20) ∨ I27 q j = I q j) → (∀ q j : Nat, ((q = 23 ∧ j = 9)) ∨ J28 q j = J q j) → gc_LT I27 → ((I27 23 5 ≤ I27 23 6) ∧ (I27 23 7 = 5 ∨ I27 23 6 ≤ I27 23 1) ∧ (I27 23 5 ≤ I27 23 1) ∧ (I27 23 7 = 4 ∨ (I27 23 5 < I27 23 6 ∧ I27 23 5 < I27 23 1)) ∧ (I27 23 7 = 3 → 2 ≤ I27 23 6 - I27 23 5 ∧ I27 23 6 - I27 23 5 ≤ 14) ∧ (I27 23 1 = I 23 1) ∧ (I 23 5 ≤ I27 23 5) ∧ (I27 1 17 + I27 23 1 ≤ 1280 + I27 23 5) ∧ (I 1 17 ≤ I27 1 17)) → gv_X (gc_E6 ws0 tb 2 (yX6_readPart, cX6_readPart, 1, (some .boolean)) kX6_readPart) (gv_Q cX6_readPart (some .boolean) sh (fun r h' => (∃ (I' : gr_I) (J' : gr_J), h' = gc_h sh I' J' A ∧ gc_Inv ro I' ∧ (∀ q j : Nat, ((q = 39 ∧ j = 3) ∨ (q = 39 ∧ j = 4) ∨ (q = 23 ∧ j = 5) ∨ (q = 23 ∧ j = 6) ∨ (q = 23 ∧ j = 7) ∨ (q = 23 ∧ j = 8) ∨ (q = 1 ∧ j = 17) ∨ (q = 1 ∧ j = 18) ∨ q = 20) ∨ I' q j = I q j) ∧ (∀ q j : Nat, ((q = 23 ∧ j = 9)) ∨ J' q j = J q j) ∧ gc_LT I' ∧ (∃ z : Int, r = some (.inl z) ∧ 0 ≤ z ∧ z ≤ 1 ∧ (I' 23 5 ≤ I' 23 6) ∧ (I' 23 7 = 5 ∨ I' 23 6 ≤ I' 23 1) ∧ (I' 23 5 ≤ I' 23 1) ∧ (I' 23 7 = 4 ∨ (I' 23 5 < I' 23 6 ∧ I' 23 5 < I' 23 1)) ∧ (I' 23 7 = 3 → 2 ≤ I' 23 6 - I' 23 5 ∧ I' 23 6 - I' 23 5 ≤ 14) ∧ (I' 23 1 = I 23 1) ∧ (I 23 5 ≤ I' 23 5) ∧ (I' 1 17 + I' 23 1 ≤ 1280 + I' 23 5) ∧ (I 1 17 ≤ I' 1 17))))) (51, [(0, .inr (.inr (some 39)))], [], sh, gc_h sh I27 J28 A) := by
    intro I27 J28 hI27 FI27 FJ28 KLT_I27 m_29
    clear x0 x1 x2 x3 x4
    obtain ⟨e0_29, e1_29, e2_29, e3_29, e4_29, e5_29, e6_29, e7_29, e8_29⟩ := m_29
    have f30 := (show 0 ≤ I27 23 1 ∧ I27 23 1 ≤ 1000 from gc_in hI27 R_23 rfl rfl)
    have f31 := (show 0 ≤ I27 23 5 ∧ I27 23 5 ≤ 1000 from gc_in hI27 R_23 rfl rfl)
    have f32 := (show 0 ≤ I27 23 6 ∧ I27 23 6 ≤ 1001 from gc_in hI27 R_23 rfl rfl)
    have f33 := (show 0 ≤ I27 23 7 ∧ I27 23 7 ≤ 125 from gc_in hI27 R_23 rfl rfl)
    have f34 := (show 0 ≤ I27 1 17 ∧ I27 1 17 ≤ 12000 from gc_in hI27 R_1 rfl rfl)
    have f35 := (show 0 ≤ I27 23 8 ∧ I27 23 8 ≤ 999999 from gc_in hI27 R_23 rfl rfl)
    refine gv_run 3 true hD (pc' := 54) (lv' := [(0, .inr (.inr (some 39)))]) (st' := [.inr (.inr (some 39)), .inl 5, .inr (.inr (some 39))]) (h' := gc_h sh I27 J28 A) (C := (((True ∧ True) ∧ True) ∧ True)) rfl ⟨⟨⟨trivial, trivial⟩, trivial⟩, trivial⟩ ?_
    refine gv_get hD rfl rfl S_39 ⟨by decide, B_39⟩ (gc_hA S_39 rfl A_39_1) ?_
    show gv_X _ _ (57, [(0, .inr (.inr (some 39)))], [.inr (.inr (some 23)), .inl 5, .inr (.inr (some 39))], sh, gc_h sh I27 J28 A)
    have f36 := (show 0 ≤ I27 23 5 ∧ I27 23 5 ≤ 1000 from gc_in hI27 R_23 rfl rfl)
    refine gv_get hD rfl rfl S_23 ⟨by decide, B_23⟩ (gc_hI S_23 rfl) ?_
    show gv_X _ _ (60, [(0, .inr (.inr (some 39)))], [.inl (I27 23 5), .inl 5, .inr (.inr (some 39))], sh, gc_h sh I27 J28 A)
    obtain ⟨r37, h37, E37, P37⟩ := d_X6_wrong (ws0 := ws0) (tb := tb) hws htb sh ro I27 J28 A hI27  5 (I27 23 5) hb   ⟨by omega, by omega⟩ ⟨by omega, by omega⟩  
    obtain ⟨I38, J39, rfl, hI38, g37, k37, ⟨z37, rfl, q37⟩⟩ := P37
    have FI38 := gc_frc (W := fun q j => (q = 39 ∧ j = 3) ∨ (q = 39 ∧ j = 4) ∨ (q = 23 ∧ j = 5) ∨ (q = 23 ∧ j = 6) ∨ (q = 23 ∧ j = 7) ∨ (q = 23 ∧ j = 8) ∨ (q = 1 ∧ j = 17) ∨ (q = 1 ∧ j = 18) ∨ q = 20) (V := fun q j => (q = 39 ∧ j = 3) ∨ (q = 39 ∧ j = 4)) FI27 (fun q j h => (h.elim (fun h => (Or.inl h)) (fun h => (Or.inr (Or.inl h))))) g37
    have t40 := (g37 23 1).resolve_left (by omega)
    have t41 := (g37 23 5).resolve_left (by omega)
    have t42 := (g37 23 6).resolve_left (by omega)
    have t43 := (g37 23 7).resolve_left (by omega)
    have t44 := (g37 1 17).resolve_left (by omega)
    have t45 := (g37 23 8).resolve_left (by omega)
    have f46 := (show 0 ≤ I38 23 1 ∧ I38 23 1 ≤ 1000 from gc_in hI38 R_23 rfl rfl)
    have f47 := (show 0 ≤ I38 23 5 ∧ I38 23 5 ≤ 1000 from gc_in hI38 R_23 rfl rfl)
    have f48 := (show 0 ≤ I38 23 6 ∧ I38 23 6 ≤ 1001 from gc_in hI38 R_23 rfl rfl)
    have f49 := (show 0 ≤ I38 23 7 ∧ I38 23 7 ≤ 125 from gc_in hI38 R_23 rfl rfl)
    have f50 := (show 0 ≤ I38 1 17 ∧ I38 1 17 ≤ 12000 from gc_in hI38 R_1 rfl rfl)
    have f51 := (show 0 ≤ I38 23 8 ∧ I38 23 8 ≤ 999999 from gc_in hI38 R_23 rfl rfl)
    obtain rfl : J28 = J39 := funext fun q => funext fun j => ((k37 q j).resolve_left id).symm
    have KLT_I38 := gc_LT_fr KLT_I27 ((g37 23 5).resolve_left (by omega)) ((g37 23 6).resolve_left (by omega)) ((g37 23 7).resolve_left (by omega)) (fun k => (g37 24 k).resolve_left (by omega))
    refine gv_callV hD rfl (As := [.inl 5, .inl (I27 23 5)]) (st := []) rfl B_39 S_39 rfl (gc_lV6 hws rfl) (Nat.le_of_ble_eq_true rfl) (gz_Ev_mono (d := 1) (by decide) E37) ?_
    show gv_X _ _ (63, [(0, .inr (.inr (some 39)))], [.inl z37], sh, gc_h sh I38 J28 A)
    exact gv_zret hD rfl (by omega) ⟨I38, J28, rfl, hI38, FI38, FJ28, KLT_I38, ⟨_, rfl, by omega⟩⟩
  refine gv_run 1 true hD (pc' := 1) (lv' := [(0, .inr (.inr (some 39)))]) (st' := [.inr (.inr (some 39))]) (h' := gc_h sh I J A) (C := (True ∧ True)) rfl ⟨trivial, trivial⟩ ?_
  refine gv_get hD rfl rfl S_39 ⟨by decide, B_39⟩ (gc_hA S_39 rfl A_39_1) ?_
  show gv_X _ _ (4, [(0, .inr (.inr (some 39)))], [.inr (.inr (some 23))], sh, gc_h sh I J A)
  have f52 := (show 0 ≤ I 23 7 ∧ I 23 7 ≤ 125 from gc_in hI R_23 rfl rfl)
  refine gv_get hD rfl rfl S_23 ⟨by decide, B_23⟩ (gc_hI S_23 rfl) ?_
  show gv_X _ _ (7, [(0, .inr (.inr (some 39)))], [.inl (I 23 7)], sh, gc_h sh I J A)
  refine gv_run 1 true hD (pc' := 8) (lv' := [(0, .inr (.inr (some 39)))]) (st' := [.inl 3, .inl (I 23 7)]) (h' := gc_h sh I J A) (C := (True ∧ True)) rfl ⟨trivial, trivial⟩ ?_
  refine gv_icmp_ne (t := 19) hD rfl rfl ⟨⟨by omega, by omega⟩, ⟨by omega, by omega⟩⟩ (fun c53 => ?_) (fun c53 => ?_)
  · show gv_X _ _ (19, [(0, .inr (.inr (some 39)))], [], sh, gc_h sh I J A)
    refine gv_run 2 true hD (pc' := 21) (lv' := [(0, .inr (.inr (some 39)))]) (st' := [.inl 2, .inr (.inr (some 39))]) (h' := gc_h sh I J A) (C := ((True ∧ True) ∧ True)) rfl ⟨⟨trivial, trivial⟩, trivial⟩ ?_
    obtain ⟨r54, h54, E54, P54⟩ := d_X6_need (ws0 := ws0) (tb := tb) hws htb sh ro I J A hI  2 hb   ⟨by omega, by omega⟩  
    obtain ⟨I55, J56, rfl, hI55, g54, k54, ⟨z54, rfl, q54⟩⟩ := P54
    have FI55 := gc_frc (W := fun q j => (q = 39 ∧ j = 3) ∨ (q = 39 ∧ j = 4) ∨ (q = 23 ∧ j = 5) ∨ (q = 23 ∧ j = 6) ∨ (q = 23 ∧ j = 7) ∨ (q = 23 ∧ j = 8) ∨ (q = 1 ∧ j = 17) ∨ (q = 1 ∧ j = 18) ∨ q = 20) (V := fun q j => (q = 39 ∧ j = 3) ∨ (q = 39 ∧ j = 4)) FI (fun q j h => (h.elim (fun h => (Or.inl h)) (fun h => (Or.inr (Or.inl h))))) g54
    have t57 := (g54 23 1).resolve_left (by omega)
    have t58 := (g54 23 5).resolve_left (by omega)
    have t59 := (g54 23 6).resolve_left (by omega)
    have t60 := (g54 23 7).resolve_left (by omega)
    have t61 := (g54 1 17).resolve_left (by omega)
    have t62 := (g54 23 8).resolve_left (by omega)
    have f63 := (show 0 ≤ I55 23 1 ∧ I55 23 1 ≤ 1000 from gc_in hI55 R_23 rfl rfl)
    have f64 := (show 0 ≤ I55 23 5 ∧ I55 23 5 ≤ 1000 from gc_in hI55 R_23 rfl rfl)
    have f65 := (show 0 ≤ I55 23 6 ∧ I55 23 6 ≤ 1001 from gc_in hI55 R_23 rfl rfl)
    have f66 := (show 0 ≤ I55 23 7 ∧ I55 23 7 ≤ 125 from gc_in hI55 R_23 rfl rfl)
    have f67 := (show 0 ≤ I55 1 17 ∧ I55 1 17 ≤ 12000 from gc_in hI55 R_1 rfl rfl)
    have f68 := (show 0 ≤ I55 23 8 ∧ I55 23 8 ≤ 999999 from gc_in hI55 R_23 rfl rfl)
    obtain rfl : J = J56 := funext fun q => funext fun j => ((k54 q j).resolve_left id).symm
    have KLT_I55 := gc_LT_fr KLT_I ((g54 23 5).resolve_left (by omega)) ((g54 23 6).resolve_left (by omega)) ((g54 23 7).resolve_left (by omega)) (fun k => (g54 24 k).resolve_left (by omega))
    refine gv_callV hD rfl (As := [.inl 2]) (st := []) rfl B_39 S_39 rfl (gc_lV6 hws rfl) (Nat.le_of_ble_eq_true rfl) (gz_Ev_mono (d := 2) (by decide) E54) ?_
    show gv_X _ _ (24, [(0, .inr (.inr (some 39)))], [.inl z54], sh, gc_h sh I55 J A)
    refine gv_if_ne (t := 29) hD rfl rfl ⟨by omega, by omega⟩ (fun c69 => ?_) (fun c69 => ?_)
    · show gv_X _ _ (29, [(0, .inr (.inr (some 39)))], [], sh, gc_h sh I55 J A)
      refine gv_run 1 true hD (pc' := 30) (lv' := [(0, .inr (.inr (some 39)))]) (st' := [.inr (.inr (some 39))]) (h' := gc_h sh I55 J A) (C := (True ∧ True)) rfl ⟨trivial, trivial⟩ ?_
      refine gv_get hD rfl rfl S_39 ⟨by decide, B_39⟩ (gc_hA S_39 rfl A_39_1) ?_
      show gv_X _ _ (33, [(0, .inr (.inr (some 39)))], [.inr (.inr (some 23))], sh, gc_h sh I55 J A)
      have f70 := (show 0 ≤ I55 23 8 ∧ I55 23 8 ≤ 999999 from gc_in hI55 R_23 rfl rfl)
      refine gv_get hD rfl rfl S_23 ⟨by decide, B_23⟩ (gc_hI S_23 rfl) ?_
      show gv_X _ _ (36, [(0, .inr (.inr (some 39)))], [.inl (I55 23 8)], sh, gc_h sh I55 J A)
      refine gv_run 1 true hD (pc' := 37) (lv' := [(0, .inr (.inr (some 39)))]) (st' := [.inl 1, .inl (I55 23 8)]) (h' := gc_h sh I55 J A) (C := (True ∧ True)) rfl ⟨trivial, trivial⟩ ?_
      refine gv_icmp_lt (t := 51) hD rfl rfl ⟨⟨by omega, by omega⟩, ⟨by omega, by omega⟩⟩ (fun c71 => ?_) (fun c71 => ?_)
      · show gv_X _ _ (51, [(0, .inr (.inr (some 39)))], [], sh, gc_h sh I55 J A)
        exact L51 I55 J hI55 FI55 FJ KLT_I55 (by omega)
      · show gv_X _ _ (40, [(0, .inr (.inr (some 39)))], [], sh, gc_h sh I55 J A)
        refine gv_run 1 true hD (pc' := 41) (lv' := [(0, .inr (.inr (some 39)))]) (st' := [.inr (.inr (some 39))]) (h' := gc_h sh I55 J A) (C := (True ∧ True)) rfl ⟨trivial, trivial⟩ ?_
        refine gv_get hD rfl rfl S_39 ⟨by decide, B_39⟩ (gc_hA S_39 rfl A_39_1) ?_
        show gv_X _ _ (44, [(0, .inr (.inr (some 39)))], [.inr (.inr (some 23))], sh, gc_h sh I55 J A)
        have f72 := (show 0 ≤ I55 23 8 ∧ I55 23 8 ≤ 999999 from gc_in hI55 R_23 rfl rfl)
        refine gv_get hD rfl rfl S_23 ⟨by decide, B_23⟩ (gc_hI S_23 rfl) ?_
        show gv_X _ _ (47, [(0, .inr (.inr (some 39)))], [.inl (I55 23 8)], sh, gc_h sh I55 J A)
        refine gv_run 1 true hD (pc' := 48) (lv' := [(0, .inr (.inr (some 39)))]) (st' := [.inl 3, .inl (I55 23 8)]) (h' := gc_h sh I55 J A) (C := (True ∧ True)) rfl ⟨trivial, trivial⟩ ?_
        refine gv_icmp_le (t := 64) hD rfl rfl ⟨⟨by omega, by omega⟩, ⟨by omega, by omega⟩⟩ (fun c73 => ?_) (fun c73 => ?_)
        · show gv_X _ _ (64, [(0, .inr (.inr (some 39)))], [], sh, gc_h sh I55 J A)
          refine gv_run 1 true hD (pc' := 65) (lv' := [(0, .inr (.inr (some 39)))]) (st' := [.inr (.inr (some 39))]) (h' := gc_h sh I55 J A) (C := (True ∧ True)) rfl ⟨trivial, trivial⟩ ?_
          refine gv_get hD rfl rfl S_39 ⟨by decide, B_39⟩ (gc_hA S_39 rfl A_39_0) ?_
          show gv_X _ _ (68, [(0, .inr (.inr (some 39)))], [.inr (.inr (some 1))], sh, gc_h sh I55 J A)
          refine gv_run 1 true hD (pc' := 69) (lv' := [(0, .inr (.inr (some 39)))]) (st' := [.inr (.inr (some 39)), .inr (.inr (some 1))]) (h' := gc_h sh I55 J A) (C := (True ∧ True)) rfl ⟨trivial, trivial⟩ ?_
          refine gv_get hD rfl rfl S_39 ⟨by decide, B_39⟩ (gc_hA S_39 rfl A_39_1) ?_
          show gv_X _ _ (72, [(0, .inr (.inr (some 39)))], [.inr (.inr (some 23)), .inr (.inr (some 1))], sh, gc_h sh I55 J A)
          have f74 := (show 0 ≤ I55 23 8 ∧ I55 23 8 ≤ 999999 from gc_in hI55 R_23 rfl rfl)
          refine gv_get hD rfl rfl S_23 ⟨by decide, B_23⟩ (gc_hI S_23 rfl) ?_
          show gv_X _ _ (75, [(0, .inr (.inr (some 39)))], [.inl (I55 23 8), .inr (.inr (some 1))], sh, gc_h sh I55 J A)
          obtain ⟨r75, h75, E75, P75⟩ := d_X8_keepByte (ws0 := ws0) (tb := tb) hws htb sh ro I55 J A hI55  (I55 23 8) hb   ⟨by omega, by omega⟩  
          obtain ⟨I76, J77, rfl, hI76, g75, k75, ⟨rfl, q75⟩⟩ := P75
          have FI76 := gc_frc (W := fun q j => (q = 39 ∧ j = 3) ∨ (q = 39 ∧ j = 4) ∨ (q = 23 ∧ j = 5) ∨ (q = 23 ∧ j = 6) ∨ (q = 23 ∧ j = 7) ∨ (q = 23 ∧ j = 8) ∨ (q = 1 ∧ j = 17) ∨ (q = 1 ∧ j = 18) ∨ q = 20) (V := fun q j => (q = 1 ∧ j = 17) ∨ (q = 1 ∧ j = 18) ∨ q = 20) FI55 (fun q j h => (h.elim (fun h => (Or.inr (Or.inr (Or.inr (Or.inr (Or.inr (Or.inr (Or.inl h)))))))) (fun h => (h.elim (fun h => (Or.inr (Or.inr (Or.inr (Or.inr (Or.inr (Or.inr (Or.inr (Or.inl h))))))))) (fun h => (Or.inr (Or.inr (Or.inr (Or.inr (Or.inr (Or.inr (Or.inr (Or.inr h))))))))))))) g75
          have t78 := (g75 23 1).resolve_left (by omega)
          have t79 := (g75 23 5).resolve_left (by omega)
          have t80 := (g75 23 6).resolve_left (by omega)
          have t81 := (g75 23 7).resolve_left (by omega)
          have t82 := (g75 23 8).resolve_left (by omega)
          have f83 := (show 0 ≤ I76 23 1 ∧ I76 23 1 ≤ 1000 from gc_in hI76 R_23 rfl rfl)
          have f84 := (show 0 ≤ I76 23 5 ∧ I76 23 5 ≤ 1000 from gc_in hI76 R_23 rfl rfl)
          have f85 := (show 0 ≤ I76 23 6 ∧ I76 23 6 ≤ 1001 from gc_in hI76 R_23 rfl rfl)
          have f86 := (show 0 ≤ I76 23 7 ∧ I76 23 7 ≤ 125 from gc_in hI76 R_23 rfl rfl)
          have f87 := (show 0 ≤ I76 1 17 ∧ I76 1 17 ≤ 12000 from gc_in hI76 R_1 rfl rfl)
          have f88 := (show 0 ≤ I76 23 8 ∧ I76 23 8 ≤ 999999 from gc_in hI76 R_23 rfl rfl)
          obtain rfl : J = J77 := funext fun q => funext fun j => ((k75 q j).resolve_left id).symm
          have KLT_I76 := gc_LT_fr KLT_I55 ((g75 23 5).resolve_left (by omega)) ((g75 23 6).resolve_left (by omega)) ((g75 23 7).resolve_left (by omega)) (fun k => (g75 24 k).resolve_left (by omega))
          refine gv_callV hD rfl (As := [.inl (I55 23 8)]) (st := []) rfl B_1 S_1 rfl (gc_lV6 hws rfl) (Nat.le_of_ble_eq_true rfl) (gz_Ev_mono (d := 1) (by decide) E75) ?_
          show gv_X _ _ (78, [(0, .inr (.inr (some 39)))], [], sh, gc_h sh I76 J A)
          exact L78 I76 J hI76 FI76 FJ KLT_I76 (by omega)
        · show gv_X _ _ (51, [(0, .inr (.inr (some 39)))], [], sh, gc_h sh I55 J A)
          exact L51 I55 J hI55 FI55 FJ KLT_I55 (by omega)
    · show gv_X _ _ (27, [(0, .inr (.inr (some 39)))], [], sh, gc_h sh I55 J A)
      refine gv_run 1 true hD (pc' := 28) (lv' := [(0, .inr (.inr (some 39)))]) (st' := [.inl 0]) (h' := gc_h sh I55 J A) (C := (True ∧ True)) rfl ⟨trivial, trivial⟩ ?_
      exact gv_zret hD rfl (by omega) ⟨I55, J, rfl, hI55, FI55, FJ, KLT_I55, ⟨_, rfl, by omega⟩⟩
  · show gv_X _ _ (11, [(0, .inr (.inr (some 39)))], [], sh, gc_h sh I J A)
    refine gv_run 1 true hD (pc' := 12) (lv' := [(0, .inr (.inr (some 39)))]) (st' := [.inr (.inr (some 39))]) (h' := gc_h sh I J A) (C := (True ∧ True)) rfl ⟨trivial, trivial⟩ ?_
    obtain ⟨r89, h89, E89, P89⟩ := d_X6_keepLetters (ws0 := ws0) (tb := tb) hws htb sh ro I J A hI   hb    (by omega) (by omega) (by omega) (by omega) (by omega) (by omega) KLT_I
    obtain ⟨I90, J91, rfl, hI90, g89, k89, KLT_I90, ⟨z89, rfl, q89⟩⟩ := P89
    have FI90 := gc_frc (W := fun q j => (q = 39 ∧ j = 3) ∨ (q = 39 ∧ j = 4) ∨ (q = 23 ∧ j = 5) ∨ (q = 23 ∧ j = 6) ∨ (q = 23 ∧ j = 7) ∨ (q = 23 ∧ j = 8) ∨ (q = 1 ∧ j = 17) ∨ (q = 1 ∧ j = 18) ∨ q = 20) (V := fun q j => (q = 1 ∧ j = 17) ∨ (q = 1 ∧ j = 18) ∨ q = 20) FI (fun q j h => (h.elim (fun h => (Or.inr (Or.inr (Or.inr (Or.inr (Or.inr (Or.inr (Or.inl h)))))))) (fun h => (h.elim (fun h => (Or.inr (Or.inr (Or.inr (Or.inr (Or.inr (Or.inr (Or.inr (Or.inl h))))))))) (fun h => (Or.inr (Or.inr (Or.inr (Or.inr (Or.inr (Or.inr (Or.inr (Or.inr h))))))))))))) g89
    have t92 := (g89 23 1).resolve_left (by omega)
    have t93 := (g89 23 5).resolve_left (by omega)
    have t94 := (g89 23 6).resolve_left (by omega)
    have t95 := (g89 23 7).resolve_left (by omega)
    have t96 := (g89 23 8).resolve_left (by omega)
    have f97 := (show 0 ≤ I90 23 1 ∧ I90 23 1 ≤ 1000 from gc_in hI90 R_23 rfl rfl)
    have f98 := (show 0 ≤ I90 23 5 ∧ I90 23 5 ≤ 1000 from gc_in hI90 R_23 rfl rfl)
    have f99 := (show 0 ≤ I90 23 6 ∧ I90 23 6 ≤ 1001 from gc_in hI90 R_23 rfl rfl)
    have f100 := (show 0 ≤ I90 23 7 ∧ I90 23 7 ≤ 125 from gc_in hI90 R_23 rfl rfl)
    have f101 := (show 0 ≤ I90 1 17 ∧ I90 1 17 ≤ 12000 from gc_in hI90 R_1 rfl rfl)
    have f102 := (show 0 ≤ I90 23 8 ∧ I90 23 8 ≤ 999999 from gc_in hI90 R_23 rfl rfl)
    obtain rfl : J = J91 := funext fun q => funext fun j => ((k89 q j).resolve_left id).symm
    refine gv_callV hD rfl (As := []) (st := []) rfl B_39 S_39 rfl (gc_lV6 hws rfl) (Nat.le_of_ble_eq_true rfl) (gz_Ev_mono (d := 2) (by decide) E89) ?_
    show gv_X _ _ (15, [(0, .inr (.inr (some 39)))], [.inl z89], sh, gc_h sh I90 J A)
    refine gv_run 2 true hD (pc' := 78) (lv' := [(0, .inr (.inr (some 39)))]) (st' := []) (h' := gc_h sh I90 J A) (C := ((True ∧ True) ∧ True)) rfl ⟨⟨trivial, trivial⟩, trivial⟩ ?_
    exact L78 I90 J hI90 FI90 FJ KLT_I90 (by omega)
set_option maxHeartbeats 4000000 in
set_option maxRecDepth 100000 in
theorem d_X6_placeCell {ws0 : List Cond} {tb : String → gz_T} (hws : gc_Ws ws0) (htb : gc_tbs tb) (sh : gz_Sh) (ro : Nat → Nat) (I : gr_I) (J : gr_J) (A : gc_A) (hI : gc_Inv ro I)  (hb : gc_Base sh ro A)  (x0 : 0 ≤ I 41 0 ∧ I 41 0 ≤ 16777215 ∧ 0 ≤ I 41 1 ∧ I 41 1 ≤ 2000 ∧ -1 ≤ I 41 2 ∧ I 41 2 ≤ 2000) : ∃ r h', gz_Ev ws0 tb 2 (yX6_placeCell, cX6_placeCell, 2, (some .boolean)) [.inr (.inr (some 39))] sh (gc_h sh I J A) r sh h' 0 0 ∧ (∃ (I' : gr_I) (J' : gr_J), h' = gc_h sh I' J' A ∧ gc_Inv ro I' ∧ (∀ q j : Nat, ((q = 39 ∧ j = 8) ∨ q = 40) ∨ I' q j = I q j) ∧ (∀ q j : Nat, (False) ∨ J' q j = J q j) ∧ (∃ z : Int, r = some (.inl z) ∧ 0 ≤ z ∧ z ≤ 1)) := by
  have FI : ∀ q j : Nat, ((q = 39 ∧ j = 8) ∨ q = 40) ∨ I q j = I q j := fun _ _ => Or.inr rfl
  have FJ : ∀ q j : Nat, (False) ∨ J q j = J q j := fun _ _ => Or.inr rfl
  have A_39_10 : A 39 10 = some 41 := gc_bA hb rfl
  have A_39_9 : A 39 9 = some 40 := gc_bA hb rfl
  have B_39 : 39 < 1000000 := by decide
  have B_40 : 40 < 1000000 := by decide
  have B_41 : 41 < 1000000 := by decide
  have R_39 : ro 39 = 42 := gc_bR hb (by decide) rfl
  have R_40 : ro 40 = 39 := gc_bR hb (by decide) rfl
  have R_41 : ro 41 = 0 := gc_bR hb (by decide) rfl
  have S_39 : sh[39]? = some (false, 6, 19) := gc_bS hb rfl
  have S_40 : sh[40]? = some (true, 1, 72) := gc_bS hb rfl
  have S_41 : sh[41]? = some (true, 1, 25) := gc_bS hb rfl
  have hD : gv_D (gc_E6 ws0 tb 1 (yX6_placeCell, cX6_placeCell, 2, (some .boolean)) kX6_placeCell) := gq_ok oX6_placeCell
  refine gc_ev6 (d := 1) (l := kX6_placeCell) (Po := fun r h' => (∃ (I' : gr_I) (J' : gr_J), h' = gc_h sh I' J' A ∧ gc_Inv ro I' ∧ (∀ q j : Nat, ((q = 39 ∧ j = 8) ∨ q = 40) ∨ I' q j = I q j) ∧ (∀ q j : Nat, (False) ∨ J' q j = J q j) ∧ (∃ z : Int, r = some (.inl z) ∧ 0 ≤ z ∧ z ≤ 1))) htb rfl (Nat.le_of_ble_eq_true rfl) ?_
  have L2 : ∀ (n9 : Nat) (v1_1 : Int), (25 - v1_1).toNat < n9 → ((0 ≤ v1_1 ∧ v1_1 ≤ 24)) → gv_X (gc_E6 ws0 tb 1 (yX6_placeCell, cX6_placeCell, 2, (some .boolean)) kX6_placeCell) (gv_Q cX6_placeCell (some .boolean) sh (fun r h' => (∃ (I' : gr_I) (J' : gr_J), h' = gc_h sh I' J' A ∧ gc_Inv ro I' ∧ (∀ q j : Nat, ((q = 39 ∧ j = 8) ∨ q = 40) ∨ I' q j = I q j) ∧ (∀ q j : Nat, (False) ∨ J' q j = J q j) ∧ (∃ z : Int, r = some (.inl z) ∧ 0 ≤ z ∧ z ≤ 1)))) (2, [(0, .inr (.inr (some 39))), (1, .inl v1_1)], [], sh, gc_h sh I J A) := by
    intro n9
    induction n9 with
    | zero => intro v1_1 hn; omega
    | succ n9 ih2 =>
      intro v1_1 hn m_1
      have hv1_1 := m_1
      have L33 : ((0 ≤ v1_1 ∧ v1_1 ≤ 24)) → gv_X (gc_E6 ws0 tb 1 (yX6_placeCell, cX6_placeCell, 2, (some .boolean)) kX6_placeCell) (gv_Q cX6_placeCell (some .boolean) sh (fun r h' => (∃ (I' : gr_I) (J' : gr_J), h' = gc_h sh I' J' A ∧ gc_Inv ro I' ∧ (∀ q j : Nat, ((q = 39 ∧ j = 8) ∨ q = 40) ∨ I' q j = I q j) ∧ (∀ q j : Nat, (False) ∨ J' q j = J q j) ∧ (∃ z : Int, r = some (.inl z) ∧ 0 ≤ z ∧ z ≤ 1)))) (33, [(0, .inr (.inr (some 39))), (1, .inl v1_1)], [], sh, gc_h sh I J A) := by
        intro m_2
        have hv1_1_2 := m_2
        refine gv_run 2 true hD (pc' := 36) (lv' := [(0, .inr (.inr (some 39))), (1, .inl v1_1)]) (st' := [.inl 24, .inl v1_1]) (h' := gc_h sh I J A) (C := ((True ∧ True) ∧ True)) rfl ⟨⟨trivial, trivial⟩, trivial⟩ ?_
        refine gv_icmp_lt (t := 41) hD rfl rfl ⟨⟨by omega, by omega⟩, ⟨by omega, by omega⟩⟩ (fun c3 => ?_) (fun c3 => ?_)
        · show gv_X _ _ (41, [(0, .inr (.inr (some 39))), (1, .inl v1_1)], [], sh, gc_h sh I J A)
          refine gv_run 1 true hD (pc' := 42) (lv' := [(0, .inr (.inr (some 39))), (1, .inl v1_1)]) (st' := [.inr (.inr (some 39))]) (h' := gc_h sh I J A) (C := (True ∧ True)) rfl ⟨trivial, trivial⟩ ?_
          refine gv_get hD rfl rfl S_39 ⟨by decide, B_39⟩ (gc_hA S_39 rfl A_39_10) ?_
          show gv_X _ _ (45, [(0, .inr (.inr (some 39))), (1, .inl v1_1)], [.inr (.inr (some 41))], sh, gc_h sh I J A)
          refine gv_run 2 true hD (pc' := 47) (lv' := [(0, .inr (.inr (some 39))), (1, .inl v1_1)]) (st' := [.inr (.inr (some 39)), .inl 0, .inr (.inr (some 41))]) (h' := gc_h sh I J A) (C := ((True ∧ True) ∧ True)) rfl ⟨⟨trivial, trivial⟩, trivial⟩ ?_
          refine gv_get hD rfl rfl S_39 ⟨by decide, B_39⟩ (gc_hA S_39 rfl A_39_9) ?_
          show gv_X _ _ (50, [(0, .inr (.inr (some 39))), (1, .inl v1_1)], [.inr (.inr (some 40)), .inl 0, .inr (.inr (some 41))], sh, gc_h sh I J A)
          refine gv_run 4 true hD (pc' := 54) (lv' := [(0, .inr (.inr (some 39))), (1, .inl v1_1)]) (st' := [.inl 3, .inl (v1_1 * 3), .inr (.inr (some 40)), .inl 0, .inr (.inr (some 41))]) (h' := gc_h sh I J A) (C := ((((True ∧ True) ∧ True) ∧ True) ∧ True)) rfl ⟨⟨⟨⟨trivial, trivial⟩, trivial⟩, trivial⟩, trivial⟩ ?_
          refine gv_copy hD rfl (gc_lC6_263 hws) (Nat.le_of_ble_eq_true rfl) ⟨B_41, B_40⟩ S_41 S_40 (by decide) ⟨by decide, by decide⟩ ⟨by omega, by omega, by omega⟩ (by omega) (by omega) (fun h => absurd h (by decide)) ?_
          refine gc_cp hI S_41 S_40 (by decide) (fun j hj => gc_RL_cp (gc_RL_of x0) R_40 (by omega) (by decide) hj) (fun I5 hI5 p4 q4 => ?_)
          have FI5 := gc_frp (W := fun q j => (q = 39 ∧ j = 8) ∨ q = 40) (V := fun q j => q = 40 ∧ Int.toNat (v1_1 * 3) ≤ j ∧ j < Int.toNat (v1_1 * 3) + Int.toNat 3) FI (fun q j h => (Or.inr h.1)) p4
          show gv_X _ _ (57, [(0, .inr (.inr (some 39))), (1, .inl v1_1)], [], sh, gc_h sh I5 J A)
          refine gv_run 2 true hD (pc' := 59) (lv' := [(0, .inr (.inr (some 39))), (1, .inl v1_1)]) (st' := [.inr (.inr (some 39)), .inr (.inr (some 39))]) (h' := gc_h sh I5 J A) (C := ((True ∧ True) ∧ True)) rfl ⟨⟨trivial, trivial⟩, trivial⟩ ?_
          have f7 := (show 0 ≤ I5 39 8 ∧ I5 39 8 ≤ 24 from gc_in hI5 R_39 rfl rfl)
          refine gv_get hD rfl rfl S_39 ⟨by decide, B_39⟩ (gc_hI S_39 rfl) ?_
          show gv_X _ _ (62, [(0, .inr (.inr (some 39))), (1, .inl v1_1)], [.inl (I5 39 8), .inr (.inr (some 39))], sh, gc_h sh I5 J A)
          refine gv_run 3 true hD (pc' := 65) (lv' := [(0, .inr (.inr (some 39))), (1, .inl v1_1)]) (st' := [.inl (v1_1 + 1), .inl (I5 39 8), .inr (.inr (some 39))]) (h' := gc_h sh I5 J A) (C := (((True ∧ True) ∧ True) ∧ True)) rfl ⟨⟨⟨trivial, trivial⟩, trivial⟩, trivial⟩ ?_
          obtain ⟨z8, E8, q8⟩ := gj_max (ws0 := ws0) (tb := tb) (sh := sh) (h := gc_h sh I5 J A) (I5 39 8) (v1_1 + 1) ⟨by omega, by omega⟩ ⟨by omega, by omega⟩
          refine gv_callS hD rfl (As := [.inl (I5 39 8), .inl (v1_1 + 1)]) (st := [.inr (.inr (some 39))]) rfl (gc_lS6 hws rfl) (Nat.le_of_ble_eq_true rfl) (gz_Ev_mono (d := 1) (by decide) E8) ?_
          show gv_X _ _ (68, [(0, .inr (.inr (some 39))), (1, .inl v1_1)], [.inl z8, .inr (.inr (some 39))], sh, gc_h sh I5 J A)
          refine gv_put hD rfl rfl S_39 ⟨by decide, B_39⟩ rfl trivial ?_
          refine gc_st (k := 8) hI5 S_39 rfl R_39 (lo := 0) (hi := 24) rfl rfl (by omega) (by omega) (fun I9 hI9 q10 p10 => ?_)
          have FI9 := gc_frs (W := fun q j => (q = 39 ∧ j = 8) ∨ q = 40) FI5 (Or.inl ⟨rfl, rfl⟩) p10
          show gv_X _ _ (71, [(0, .inr (.inr (some 39))), (1, .inl v1_1)], [], sh, gc_h sh I9 J A)
          refine gv_run 1 true hD (pc' := 72) (lv' := [(0, .inr (.inr (some 39))), (1, .inl v1_1)]) (st' := [.inl 1]) (h' := gc_h sh I9 J A) (C := (True ∧ True)) rfl ⟨trivial, trivial⟩ ?_
          exact gv_zret hD rfl (by omega) ⟨I9, J, rfl, hI9, FI9, FJ, ⟨_, rfl, by omega⟩⟩
        · show gv_X _ _ (39, [(0, .inr (.inr (some 39))), (1, .inl v1_1)], [], sh, gc_h sh I J A)
          refine gv_run 1 true hD (pc' := 40) (lv' := [(0, .inr (.inr (some 39))), (1, .inl v1_1)]) (st' := [.inl 0]) (h' := gc_h sh I J A) (C := (True ∧ True)) rfl ⟨trivial, trivial⟩ ?_
          exact gv_zret hD rfl (by omega) ⟨I, J, rfl, hI, FI, FJ, ⟨_, rfl, by omega⟩⟩
      refine gv_run 2 true hD (pc' := 4) (lv' := [(0, .inr (.inr (some 39))), (1, .inl v1_1)]) (st' := [.inr (.inr (some 39)), .inl v1_1]) (h' := gc_h sh I J A) (C := ((True ∧ True) ∧ True)) rfl ⟨⟨trivial, trivial⟩, trivial⟩ ?_
      have f11 := (show 0 ≤ I 39 8 ∧ I 39 8 ≤ 24 from gc_in hI R_39 rfl rfl)
      refine gv_get hD rfl rfl S_39 ⟨by decide, B_39⟩ (gc_hI S_39 rfl) ?_
      show gv_X _ _ (7, [(0, .inr (.inr (some 39))), (1, .inl v1_1)], [.inl (I 39 8), .inl v1_1], sh, gc_h sh I J A)
      refine gv_icmp_ge (t := 33) hD rfl rfl ⟨⟨by omega, by omega⟩, ⟨by omega, by omega⟩⟩ (fun c12 => ?_) (fun c12 => ?_)
      · show gv_X _ _ (33, [(0, .inr (.inr (some 39))), (1, .inl v1_1)], [], sh, gc_h sh I J A)
        exact L33 (by omega)
      · show gv_X _ _ (10, [(0, .inr (.inr (some 39))), (1, .inl v1_1)], [], sh, gc_h sh I J A)
        refine gv_run 1 true hD (pc' := 11) (lv' := [(0, .inr (.inr (some 39))), (1, .inl v1_1)]) (st' := [.inr (.inr (some 39))]) (h' := gc_h sh I J A) (C := (True ∧ True)) rfl ⟨trivial, trivial⟩ ?_
        refine gv_get hD rfl rfl S_39 ⟨by decide, B_39⟩ (gc_hA S_39 rfl A_39_9) ?_
        show gv_X _ _ (14, [(0, .inr (.inr (some 39))), (1, .inl v1_1)], [.inr (.inr (some 40))], sh, gc_h sh I J A)
        refine gv_run 3 true hD (pc' := 17) (lv' := [(0, .inr (.inr (some 39))), (1, .inl v1_1)]) (st' := [.inl (v1_1 * 3), .inr (.inr (some 40))]) (h' := gc_h sh I J A) (C := (((True ∧ True) ∧ True) ∧ True)) rfl ⟨⟨⟨trivial, trivial⟩, trivial⟩, trivial⟩ ?_
        have f13 := (show 0 ≤ I 40 (Int.toNat (v1_1 * 3)) ∧ I 40 (Int.toNat (v1_1 * 3)) ≤ 16777215 from gc_inm (c := 0) hI R_40 rfl rfl (by omega) rfl rfl)
        refine gv_iald hD rfl S_40 rfl ⟨by decide, B_40⟩ ⟨by omega, by omega⟩ (gc_iI S_40 rfl) ?_
        show gv_X _ _ (18, [(0, .inr (.inr (some 39))), (1, .inl v1_1)], [.inl (I 40 (Int.toNat (v1_1 * 3)))], sh, gc_h sh I J A)
        refine gv_run 1 true hD (pc' := 19) (lv' := [(0, .inr (.inr (some 39))), (1, .inl v1_1)]) (st' := [.inr (.inr (some 39)), .inl (I 40 (Int.toNat (v1_1 * 3)))]) (h' := gc_h sh I J A) (C := (True ∧ True)) rfl ⟨trivial, trivial⟩ ?_
        refine gv_get hD rfl rfl S_39 ⟨by decide, B_39⟩ (gc_hA S_39 rfl A_39_10) ?_
        show gv_X _ _ (22, [(0, .inr (.inr (some 39))), (1, .inl v1_1)], [.inr (.inr (some 41)), .inl (I 40 (Int.toNat (v1_1 * 3)))], sh, gc_h sh I J A)
        refine gv_run 1 true hD (pc' := 23) (lv' := [(0, .inr (.inr (some 39))), (1, .inl v1_1)]) (st' := [.inl 0, .inr (.inr (some 41)), .inl (I 40 (Int.toNat (v1_1 * 3)))]) (h' := gc_h sh I J A) (C := (True ∧ True)) rfl ⟨trivial, trivial⟩ ?_
        have f14 := (show (-2147483648) ≤ I 41 0 ∧ I 41 0 ≤ 2147483647 from gc_in hI R_41 rfl rfl)
        refine gv_iald hD rfl S_41 rfl ⟨by decide, B_41⟩ ⟨by omega, by omega⟩ (gc_iI S_41 rfl) ?_
        show gv_X _ _ (24, [(0, .inr (.inr (some 39))), (1, .inl v1_1)], [.inl (I 41 0), .inl (I 40 (Int.toNat (v1_1 * 3)))], sh, gc_h sh I J A)
        refine gv_icmp_eq (t := 33) hD rfl rfl ⟨⟨by omega, by omega⟩, ⟨by omega, by omega⟩⟩ (fun c15 => ?_) (fun c15 => ?_)
        · show gv_X _ _ (33, [(0, .inr (.inr (some 39))), (1, .inl v1_1)], [], sh, gc_h sh I J A)
          exact L33 (by omega)
        · show gv_X _ _ (27, [(0, .inr (.inr (some 39))), (1, .inl v1_1)], [], sh, gc_h sh I J A)
          refine gv_run 2 true hD (pc' := 2) (lv' := [(1, .inl (v1_1 + 1)), (0, .inr (.inr (some 39)))]) (st' := []) (h' := gc_h sh I J A) (C := ((True ∧ True) ∧ True)) rfl ⟨⟨trivial, trivial⟩, trivial⟩ ?_
          refine gv_pick [1, 0] rfl ?_
          exact ih2 (v1_1 + 1) (by omega) (by omega)
  refine gv_run 2 true hD (pc' := 2) (lv' := [(1, .inl 0), (0, .inr (.inr (some 39)))]) (st' := []) (h' := gc_h sh I J A) (C := ((True ∧ True) ∧ True)) rfl ⟨⟨trivial, trivial⟩, trivial⟩ ?_
  refine gv_pick [1, 0] rfl ?_
  exact L2 _ 0 (Nat.lt_succ_self _) (by omega)
set_option maxHeartbeats 4000000 in
set_option maxRecDepth 100000 in
theorem d_X6_readCell {ws0 : List Cond} {tb : String → gz_T} (hws : gc_Ws ws0) (htb : gc_tbs tb) (sh : gz_Sh) (ro : Nat → Nat) (I : gr_I) (J : gr_J) (A : gc_A) (hI : gc_Inv ro I) (t : Nat)  (hb : gc_Base sh ro A) (h_t : gc_isTongue sh ro A t) (G_t : 144 ≤ t)  (x0 : I 23 5 ≤ I 23 6) (x1 : I 23 7 = 5 ∨ I 23 6 ≤ I 23 1) (x2 : I 23 5 ≤ I 23 1) (x3 : I 23 7 = 4 ∨ (I 23 5 < I 23 6 ∧ I 23 5 < I 23 1)) (x4 : I 23 7 = 3 → 2 ≤ I 23 6 - I 23 5 ∧ I 23 6 - I 23 5 ≤ 14) (x5 : I 1 17 + I 23 1 ≤ 1280 + I 23 5) (x6 : I 39 2 = (t : Int)) (KLT_I : gc_LT I) : ∃ r h', gz_Ev ws0 tb 4 (yX6_readCell, cX6_readCell, 3, (some .boolean)) [.inr (.inr (some 39))] sh (gc_h sh I J A) r sh h' 0 0 ∧ (∃ (I' : gr_I) (J' : gr_J), h' = gc_h sh I' J' A ∧ gc_Inv ro I' ∧ (∀ q j : Nat, ((q = 39 ∧ j = 3) ∨ (q = 39 ∧ j = 4) ∨ (q = 23 ∧ j = 5) ∨ (q = 23 ∧ j = 6) ∨ (q = 23 ∧ j = 7) ∨ (q = 23 ∧ j = 8) ∨ (q = 1 ∧ j = 17) ∨ (q = 1 ∧ j = 18) ∨ q = 20 ∨ (q = 39 ∧ j = 6) ∨ (q = 41 ∧ j = 0) ∨ (q = 41 ∧ j = 1) ∨ (q = 41 ∧ j = 2)) ∨ I' q j = I q j) ∧ (∀ q j : Nat, ((q = 23 ∧ j = 9)) ∨ J' q j = J q j) ∧ gc_LT I' ∧ (∃ z : Int, r = some (.inl z) ∧ 0 ≤ z ∧ z ≤ 1 ∧ (I' 23 5 ≤ I' 23 6) ∧ (I' 23 7 = 5 ∨ I' 23 6 ≤ I' 23 1) ∧ (I' 23 5 ≤ I' 23 1) ∧ (I' 23 7 = 4 ∨ (I' 23 5 < I' 23 6 ∧ I' 23 5 < I' 23 1)) ∧ (I' 23 7 = 3 → 2 ≤ I' 23 6 - I' 23 5 ∧ I' 23 6 - I' 23 5 ≤ 14) ∧ (I' 23 1 = I 23 1) ∧ (I 23 5 ≤ I' 23 5) ∧ (I' 1 17 + I' 23 1 ≤ 1280 + I' 23 5) ∧ (z = 0 ∨ (0 ≤ I' 41 0 ∧ I' 41 0 ≤ 16777215 ∧ 0 ≤ I' 41 1 ∧ I' 41 1 ≤ 2000 ∧ -1 ≤ I' 41 2 ∧ I' 41 2 ≤ 2000)))) := by
  have FI : ∀ q j : Nat, ((q = 39 ∧ j = 3) ∨ (q = 39 ∧ j = 4) ∨ (q = 23 ∧ j = 5) ∨ (q = 23 ∧ j = 6) ∨ (q = 23 ∧ j = 7) ∨ (q = 23 ∧ j = 8) ∨ (q = 1 ∧ j = 17) ∨ (q = 1 ∧ j = 18) ∨ q = 20 ∨ (q = 39 ∧ j = 6) ∨ (q = 41 ∧ j = 0) ∨ (q = 41 ∧ j = 1) ∨ (q = 41 ∧ j = 2)) ∨ I q j = I q j := fun _ _ => Or.inr rfl
  have FJ : ∀ q j : Nat, ((q = 23 ∧ j = 9)) ∨ J q j = J q j := fun _ _ => Or.inr rfl
  have A_39_0 : A 39 0 = some 1 := gc_bA hb rfl
  have A_39_1 : A 39 1 = some 23 := gc_bA hb rfl
  have A_39_10 : A 39 10 = some 41 := gc_bA hb rfl
  have B_1 : 1 < 1000000 := by decide
  have B_23 : 23 < 1000000 := by decide
  have B_39 : 39 < 1000000 := by decide
  have B_41 : 41 < 1000000 := by decide
  have R_1 : ro 1 = 22 := gc_bR hb (by decide) rfl
  have R_23 : ro 23 = 3 := gc_bR hb (by decide) rfl
  have R_39 : ro 39 = 42 := gc_bR hb (by decide) rfl
  have R_41 : ro 41 = 0 := gc_bR hb (by decide) rfl
  have S_1 : sh[1]? = some (false, 8, 21) := gc_bS hb rfl
  have S_23 : sh[23]? = some (false, 9, 10) := gc_bS hb rfl
  have S_39 : sh[39]? = some (false, 6, 19) := gc_bS hb rfl
  have S_41 : sh[41]? = some (true, 1, 25) := gc_bS hb rfl
  obtain ⟨S_t, R_t, B_t, A_t_0, h_t_1, A_t_1, h_t_3, A_t_2, S_t_5, R_t_5, B_t_5, A_t_3, S_t_6, R_t_6, B_t_6, A_t_4, h_t_7, A_t_5, S_t_9, R_t_9, B_t_9, A_t_7, S_t_10, R_t_10, B_t_10, A_t_8, h_t_11, A_t_9, S_t_13, R_t_13, B_t_13, A_t_10, S_t_14, R_t_14, B_t_14, A_t_12, S_t_15, R_t_15, B_t_15, A_t_14, S_t_16, R_t_16, B_t_16, A_t_15, h_t_17⟩ := id h_t
  obtain ⟨S_t_1, R_t_1, B_t_1, A_t_1_0, S_t_1_1, R_t_1_1, B_t_1_1, Q0_t_1, Q1_t_1, Q2_t_1⟩ := id h_t_1
  obtain ⟨S_t_3, R_t_3, B_t_3, A_t_3_0, S_t_3_1, R_t_3_1, B_t_3_1, Q0_t_3, Q1_t_3, Q2_t_3⟩ := id h_t_3
  obtain ⟨S_t_7, R_t_7, B_t_7, A_t_7_0, S_t_7_1, R_t_7_1, B_t_7_1, Q0_t_7, Q1_t_7, Q2_t_7⟩ := id h_t_7
  obtain ⟨S_t_11, R_t_11, B_t_11, A_t_11_0, S_t_11_1, R_t_11_1, B_t_11_1, Q0_t_11, Q1_t_11, Q2_t_11⟩ := id h_t_11
  obtain ⟨S_t_17, R_t_17, B_t_17, A_t_17_0, S_20, R_20, B_20, A_t_17_1, S_t_17_1, R_t_17_1, B_t_17_1, A_t_17_2, S_t_17_2, R_t_17_2, B_t_17_2, A_t_17_3, S_t_17_3, R_t_17_3, B_t_17_3, A_t_17_4, S_t_17_4, R_t_17_4, B_t_17_4, A_t_17_5, S_t_17_5, R_t_17_5, B_t_17_5, S_t_17_6, R_t_17_6, B_t_17_6, S_t_17_7, R_t_17_7, B_t_17_7⟩ := id h_t_17
  have hD : gv_D (gc_E6 ws0 tb 3 (yX6_readCell, cX6_readCell, 3, (some .boolean)) kX6_readCell) := gq_ok oX6_readCell
  refine gc_ev6 (d := 3) (l := kX6_readCell) (Po := fun r h' => (∃ (I' : gr_I) (J' : gr_J), h' = gc_h sh I' J' A ∧ gc_Inv ro I' ∧ (∀ q j : Nat, ((q = 39 ∧ j = 3) ∨ (q = 39 ∧ j = 4) ∨ (q = 23 ∧ j = 5) ∨ (q = 23 ∧ j = 6) ∨ (q = 23 ∧ j = 7) ∨ (q = 23 ∧ j = 8) ∨ (q = 1 ∧ j = 17) ∨ (q = 1 ∧ j = 18) ∨ q = 20 ∨ (q = 39 ∧ j = 6) ∨ (q = 41 ∧ j = 0) ∨ (q = 41 ∧ j = 1) ∨ (q = 41 ∧ j = 2)) ∨ I' q j = I q j) ∧ (∀ q j : Nat, ((q = 23 ∧ j = 9)) ∨ J' q j = J q j) ∧ gc_LT I' ∧ (∃ z : Int, r = some (.inl z) ∧ 0 ≤ z ∧ z ≤ 1 ∧ (I' 23 5 ≤ I' 23 6) ∧ (I' 23 7 = 5 ∨ I' 23 6 ≤ I' 23 1) ∧ (I' 23 5 ≤ I' 23 1) ∧ (I' 23 7 = 4 ∨ (I' 23 5 < I' 23 6 ∧ I' 23 5 < I' 23 1)) ∧ (I' 23 7 = 3 → 2 ≤ I' 23 6 - I' 23 5 ∧ I' 23 6 - I' 23 5 ≤ 14) ∧ (I' 23 1 = I 23 1) ∧ (I 23 5 ≤ I' 23 5) ∧ (I' 1 17 + I' 23 1 ≤ 1280 + I' 23 5) ∧ (z = 0 ∨ (0 ≤ I' 41 0 ∧ I' 41 0 ≤ 16777215 ∧ 0 ≤ I' 41 1 ∧ I' 41 1 ≤ 2000 ∧ -1 ≤ I' 41 2 ∧ I' 41 2 ≤ 2000))))) htb rfl (Nat.le_of_ble_eq_true rfl) ?_
  have f1 := (show 0 ≤ I 23 1 ∧ I 23 1 ≤ 1000 from gc_in hI R_23 rfl rfl)
  have f2 := (show 0 ≤ I 23 5 ∧ I 23 5 ≤ 1000 from gc_in hI R_23 rfl rfl)
  have f3 := (show 0 ≤ I 23 6 ∧ I 23 6 ≤ 1001 from gc_in hI R_23 rfl rfl)
  have f4 := (show 0 ≤ I 23 7 ∧ I 23 7 ≤ 125 from gc_in hI R_23 rfl rfl)
  have f5 := (show 0 ≤ I 1 17 ∧ I 1 17 ≤ 12000 from gc_in hI R_1 rfl rfl)
  have f6 := (show (-2147483648) ≤ I 41 0 ∧ I 41 0 ≤ 2147483647 from gc_in hI R_41 rfl rfl)
  have f7 := (show (-2147483648) ≤ I 41 1 ∧ I 41 1 ≤ 2147483647 from gc_in hI R_41 rfl rfl)
  have f8 := (show (-2147483648) ≤ I 41 2 ∧ I 41 2 ≤ 2147483647 from gc_in hI R_41 rfl rfl)
  have f9 := (show (-1) ≤ I 39 2 ∧ I 39 2 ≤ 999999 from gc_in hI R_39 rfl rfl)
  have L17 : ∀ (I10 : gr_I) (J11 : gr_J) , gc_Inv ro I10 → (∀ q j : Nat, ((q = 39 ∧ j = 3) ∨ (q = 39 ∧ j = 4) ∨ (q = 23 ∧ j = 5) ∨ (q = 23 ∧ j = 6) ∨ (q = 23 ∧ j = 7) ∨ (q = 23 ∧ j = 8) ∨ (q = 1 ∧ j = 17) ∨ (q = 1 ∧ j = 18) ∨ q = 20 ∨ (q = 39 ∧ j = 6) ∨ (q = 41 ∧ j = 0) ∨ (q = 41 ∧ j = 1) ∨ (q = 41 ∧ j = 2)) ∨ I10 q j = I q j) → (∀ q j : Nat, ((q = 23 ∧ j = 9)) ∨ J11 q j = J q j) → gc_LT I10 → ((I10 23 5 ≤ I10 23 6) ∧ (I10 23 7 = 5 ∨ I10 23 6 ≤ I10 23 1) ∧ (I10 23 5 ≤ I10 23 1) ∧ (I10 23 7 = 4 ∨ (I10 23 5 < I10 23 6 ∧ I10 23 5 < I10 23 1)) ∧ (I10 23 7 = 3 → 2 ≤ I10 23 6 - I10 23 5 ∧ I10 23 6 - I10 23 5 ≤ 14) ∧ (I10 23 1 = I 23 1) ∧ (I 23 5 ≤ I10 23 5) ∧ (I10 1 17 + I10 23 1 ≤ 1280 + I10 23 5) ∧ (I10 39 2 = (t : Int))) → gv_X (gc_E6 ws0 tb 3 (yX6_readCell, cX6_readCell, 3, (some .boolean)) kX6_readCell) (gv_Q cX6_readCell (some .boolean) sh (fun r h' => (∃ (I' : gr_I) (J' : gr_J), h' = gc_h sh I' J' A ∧ gc_Inv ro I' ∧ (∀ q j : Nat, ((q = 39 ∧ j = 3) ∨ (q = 39 ∧ j = 4) ∨ (q = 23 ∧ j = 5) ∨ (q = 23 ∧ j = 6) ∨ (q = 23 ∧ j = 7) ∨ (q = 23 ∧ j = 8) ∨ (q = 1 ∧ j = 17) ∨ (q = 1 ∧ j = 18) ∨ q = 20 ∨ (q = 39 ∧ j = 6) ∨ (q = 41 ∧ j = 0) ∨ (q = 41 ∧ j = 1) ∨ (q = 41 ∧ j = 2)) ∨ I' q j = I q j) ∧ (∀ q j : Nat, ((q = 23 ∧ j = 9)) ∨ J' q j = J q j) ∧ gc_LT I' ∧ (∃ z : Int, r = some (.inl z) ∧ 0 ≤ z ∧ z ≤ 1 ∧ (I' 23 5 ≤ I' 23 6) ∧ (I' 23 7 = 5 ∨ I' 23 6 ≤ I' 23 1) ∧ (I' 23 5 ≤ I' 23 1) ∧ (I' 23 7 = 4 ∨ (I' 23 5 < I' 23 6 ∧ I' 23 5 < I' 23 1)) ∧ (I' 23 7 = 3 → 2 ≤ I' 23 6 - I' 23 5 ∧ I' 23 6 - I' 23 5 ≤ 14) ∧ (I' 23 1 = I 23 1) ∧ (I 23 5 ≤ I' 23 5) ∧ (I' 1 17 + I' 23 1 ≤ 1280 + I' 23 5) ∧ (z = 0 ∨ (0 ≤ I' 41 0 ∧ I' 41 0 ≤ 16777215 ∧ 0 ≤ I' 41 1 ∧ I' 41 1 ≤ 2000 ∧ -1 ≤ I' 41 2 ∧ I' 41 2 ≤ 2000)))))) (17, [], [], sh, gc_h sh I10 J11 A) := by
    intro I10 J11 hI10 FI10 FJ11 KLT_I10 m_12
    clear x0 x1 x2 x3 x4
    obtain ⟨e0_12, e1_12, e2_12, e3_12, e4_12, e5_12, e6_12, e7_12, e8_12⟩ := m_12
    have f13 := (show 0 ≤ I10 23 1 ∧ I10 23 1 ≤ 1000 from gc_in hI10 R_23 rfl rfl)
    have f14 := (show 0 ≤ I10 23 5 ∧ I10 23 5 ≤ 1000 from gc_in hI10 R_23 rfl rfl)
    have f15 := (show 0 ≤ I10 23 6 ∧ I10 23 6 ≤ 1001 from gc_in hI10 R_23 rfl rfl)
    have f16 := (show 0 ≤ I10 23 7 ∧ I10 23 7 ≤ 125 from gc_in hI10 R_23 rfl rfl)
    have f17 := (show 0 ≤ I10 1 17 ∧ I10 1 17 ≤ 12000 from gc_in hI10 R_1 rfl rfl)
    have f18 := (show (-2147483648) ≤ I10 41 0 ∧ I10 41 0 ≤ 2147483647 from gc_in hI10 R_41 rfl rfl)
    have f19 := (show (-2147483648) ≤ I10 41 1 ∧ I10 41 1 ≤ 2147483647 from gc_in hI10 R_41 rfl rfl)
    have f20 := (show (-2147483648) ≤ I10 41 2 ∧ I10 41 2 ≤ 2147483647 from gc_in hI10 R_41 rfl rfl)
    have f21 := (show (-1) ≤ I10 39 2 ∧ I10 39 2 ≤ 999999 from gc_in hI10 R_39 rfl rfl)
    refine gv_run 1 true hD (pc' := 18) (lv' := []) (st' := [.inl 0]) (h' := gc_h sh I10 J11 A) (C := (True ∧ True)) rfl ⟨trivial, trivial⟩ ?_
    exact gv_zret hD rfl (by omega) ⟨I10, J11, rfl, hI10, FI10, FJ11, KLT_I10, ⟨_, rfl, by omega⟩⟩
  have L74 : ∀ (n9 : Nat) (I22 : gr_I) (J23 : gr_J) (v1_24 : Int) (v2_24 : Int), (1001 - v2_24).toNat < n9 → gc_Inv ro I22 → (∀ q j : Nat, ((q = 39 ∧ j = 3) ∨ (q = 39 ∧ j = 4) ∨ (q = 23 ∧ j = 5) ∨ (q = 23 ∧ j = 6) ∨ (q = 23 ∧ j = 7) ∨ (q = 23 ∧ j = 8) ∨ (q = 1 ∧ j = 17) ∨ (q = 1 ∧ j = 18) ∨ q = 20 ∨ (q = 39 ∧ j = 6) ∨ (q = 41 ∧ j = 0) ∨ (q = 41 ∧ j = 1) ∨ (q = 41 ∧ j = 2)) ∨ I22 q j = I q j) → (∀ q j : Nat, ((q = 23 ∧ j = 9)) ∨ J23 q j = J q j) → gc_LT I22 → ((0 ≤ v1_24 ∧ v1_24 ≤ 1) ∧ (0 ≤ v2_24 ∧ v2_24 ≤ 1000) ∧ (0 ≤ I22 41 0 ∧ I22 41 0 ≤ 16777215 ∧ 0 ≤ I22 41 1 ∧ I22 41 1 ≤ 2000 ∧ -1 ≤ I22 41 2 ∧ I22 41 2 ≤ 2000 ∧ I22 41 1 ≤ I22 1 17) ∧ (I22 23 5 ≤ I22 23 6) ∧ (I22 23 7 = 5 ∨ I22 23 6 ≤ I22 23 1) ∧ (I22 23 5 ≤ I22 23 1) ∧ (I22 23 7 = 4 ∨ (I22 23 5 < I22 23 6 ∧ I22 23 5 < I22 23 1)) ∧ (I22 23 7 = 3 → 2 ≤ I22 23 6 - I22 23 5 ∧ I22 23 6 - I22 23 5 ≤ 14) ∧ (I22 23 1 = I 23 1) ∧ (I 23 5 ≤ I22 23 5) ∧ (I22 1 17 + I22 23 1 ≤ 1280 + I22 23 5) ∧ (I22 39 2 = (t : Int))) → gv_X (gc_E6 ws0 tb 3 (yX6_readCell, cX6_readCell, 3, (some .boolean)) kX6_readCell) (gv_Q cX6_readCell (some .boolean) sh (fun r h' => (∃ (I' : gr_I) (J' : gr_J), h' = gc_h sh I' J' A ∧ gc_Inv ro I' ∧ (∀ q j : Nat, ((q = 39 ∧ j = 3) ∨ (q = 39 ∧ j = 4) ∨ (q = 23 ∧ j = 5) ∨ (q = 23 ∧ j = 6) ∨ (q = 23 ∧ j = 7) ∨ (q = 23 ∧ j = 8) ∨ (q = 1 ∧ j = 17) ∨ (q = 1 ∧ j = 18) ∨ q = 20 ∨ (q = 39 ∧ j = 6) ∨ (q = 41 ∧ j = 0) ∨ (q = 41 ∧ j = 1) ∨ (q = 41 ∧ j = 2)) ∨ I' q j = I q j) ∧ (∀ q j : Nat, ((q = 23 ∧ j = 9)) ∨ J' q j = J q j) ∧ gc_LT I' ∧ (∃ z : Int, r = some (.inl z) ∧ 0 ≤ z ∧ z ≤ 1 ∧ (I' 23 5 ≤ I' 23 6) ∧ (I' 23 7 = 5 ∨ I' 23 6 ≤ I' 23 1) ∧ (I' 23 5 ≤ I' 23 1) ∧ (I' 23 7 = 4 ∨ (I' 23 5 < I' 23 6 ∧ I' 23 5 < I' 23 1)) ∧ (I' 23 7 = 3 → 2 ≤ I' 23 6 - I' 23 5 ∧ I' 23 6 - I' 23 5 ≤ 14) ∧ (I' 23 1 = I 23 1) ∧ (I 23 5 ≤ I' 23 5) ∧ (I' 1 17 + I' 23 1 ≤ 1280 + I' 23 5) ∧ (z = 0 ∨ (0 ≤ I' 41 0 ∧ I' 41 0 ≤ 16777215 ∧ 0 ≤ I' 41 1 ∧ I' 41 1 ≤ 2000 ∧ -1 ≤ I' 41 2 ∧ I' 41 2 ≤ 2000)))))) (74, [(0, .inr (.inr (some 39))), (1, .inl v1_24), (2, .inl v2_24)], [], sh, gc_h sh I22 J23 A) := by
    intro n9
    induction n9 with
    | zero => intro I22 J23 v1_24 v2_24 hn; omega
    | succ n9 ih74 =>
      intro I22 J23 v1_24 v2_24 hn hI22 FI22 FJ23 KLT_I22 m_24
      clear x0 x1 x2 x3 x4
      obtain ⟨hv1_24, hv2_24, e0_24, e1_24, e2_24, e3_24, e4_24, e5_24, e6_24, e7_24, e8_24, e9_24⟩ := m_24
      have f25 := (show 0 ≤ I22 23 1 ∧ I22 23 1 ≤ 1000 from gc_in hI22 R_23 rfl rfl)
      have f26 := (show 0 ≤ I22 23 5 ∧ I22 23 5 ≤ 1000 from gc_in hI22 R_23 rfl rfl)
      have f27 := (show 0 ≤ I22 23 6 ∧ I22 23 6 ≤ 1001 from gc_in hI22 R_23 rfl rfl)
      have f28 := (show 0 ≤ I22 23 7 ∧ I22 23 7 ≤ 125 from gc_in hI22 R_23 rfl rfl)
      have f29 := (show 0 ≤ I22 1 17 ∧ I22 1 17 ≤ 12000 from gc_in hI22 R_1 rfl rfl)
      have f30 := (show (-2147483648) ≤ I22 41 0 ∧ I22 41 0 ≤ 2147483647 from gc_in hI22 R_41 rfl rfl)
      have f31 := (show (-2147483648) ≤ I22 41 1 ∧ I22 41 1 ≤ 2147483647 from gc_in hI22 R_41 rfl rfl)
      have f32 := (show (-2147483648) ≤ I22 41 2 ∧ I22 41 2 ≤ 2147483647 from gc_in hI22 R_41 rfl rfl)
      have f33 := (show (-1) ≤ I22 39 2 ∧ I22 39 2 ≤ 999999 from gc_in hI22 R_39 rfl rfl)
      have L111 : ∀ (I34 : gr_I) (J35 : gr_J) (s0_36 : Int), gc_Inv ro I34 → (∀ q j : Nat, ((q = 39 ∧ j = 3) ∨ (q = 39 ∧ j = 4) ∨ (q = 23 ∧ j = 5) ∨ (q = 23 ∧ j = 6) ∨ (q = 23 ∧ j = 7) ∨ (q = 23 ∧ j = 8) ∨ (q = 1 ∧ j = 17) ∨ (q = 1 ∧ j = 18) ∨ q = 20 ∨ (q = 39 ∧ j = 6) ∨ (q = 41 ∧ j = 0) ∨ (q = 41 ∧ j = 1) ∨ (q = 41 ∧ j = 2)) ∨ I34 q j = I q j) → (∀ q j : Nat, ((q = 23 ∧ j = 9)) ∨ J35 q j = J q j) → gc_LT I34 → ((0 ≤ v2_24 ∧ v2_24 ≤ 999) ∧ (0 ≤ s0_36 ∧ s0_36 ≤ 1) ∧ (0 ≤ I34 41 0 ∧ I34 41 0 ≤ 16777215 ∧ 0 ≤ I34 41 1 ∧ I34 41 1 ≤ 2000 ∧ -1 ≤ I34 41 2 ∧ I34 41 2 ≤ 2000 ∧ I34 41 1 ≤ I34 1 17) ∧ (s0_36 = 0 ∨ I34 23 7 = 43) ∧ (I34 23 5 ≤ I34 23 6) ∧ (I34 23 7 = 5 ∨ I34 23 6 ≤ I34 23 1) ∧ (I34 23 5 ≤ I34 23 1) ∧ (I34 23 7 = 4 ∨ (I34 23 5 < I34 23 6 ∧ I34 23 5 < I34 23 1)) ∧ (I34 23 7 = 3 → 2 ≤ I34 23 6 - I34 23 5 ∧ I34 23 6 - I34 23 5 ≤ 14) ∧ (I34 23 1 = I 23 1) ∧ (I 23 5 ≤ I34 23 5) ∧ (I34 1 17 + I34 23 1 ≤ 1280 + I34 23 5) ∧ (I34 39 2 = (t : Int))) → gv_X (gc_E6 ws0 tb 3 (yX6_readCell, cX6_readCell, 3, (some .boolean)) kX6_readCell) (gv_Q cX6_readCell (some .boolean) sh (fun r h' => (∃ (I' : gr_I) (J' : gr_J), h' = gc_h sh I' J' A ∧ gc_Inv ro I' ∧ (∀ q j : Nat, ((q = 39 ∧ j = 3) ∨ (q = 39 ∧ j = 4) ∨ (q = 23 ∧ j = 5) ∨ (q = 23 ∧ j = 6) ∨ (q = 23 ∧ j = 7) ∨ (q = 23 ∧ j = 8) ∨ (q = 1 ∧ j = 17) ∨ (q = 1 ∧ j = 18) ∨ q = 20 ∨ (q = 39 ∧ j = 6) ∨ (q = 41 ∧ j = 0) ∨ (q = 41 ∧ j = 1) ∨ (q = 41 ∧ j = 2)) ∨ I' q j = I q j) ∧ (∀ q j : Nat, ((q = 23 ∧ j = 9)) ∨ J' q j = J q j) ∧ gc_LT I' ∧ (∃ z : Int, r = some (.inl z) ∧ 0 ≤ z ∧ z ≤ 1 ∧ (I' 23 5 ≤ I' 23 6) ∧ (I' 23 7 = 5 ∨ I' 23 6 ≤ I' 23 1) ∧ (I' 23 5 ≤ I' 23 1) ∧ (I' 23 7 = 4 ∨ (I' 23 5 < I' 23 6 ∧ I' 23 5 < I' 23 1)) ∧ (I' 23 7 = 3 → 2 ≤ I' 23 6 - I' 23 5 ∧ I' 23 6 - I' 23 5 ≤ 14) ∧ (I' 23 1 = I 23 1) ∧ (I 23 5 ≤ I' 23 5) ∧ (I' 1 17 + I' 23 1 ≤ 1280 + I' 23 5) ∧ (z = 0 ∨ (0 ≤ I' 41 0 ∧ I' 41 0 ≤ 16777215 ∧ 0 ≤ I' 41 1 ∧ I' 41 1 ≤ 2000 ∧ -1 ≤ I' 41 2 ∧ I' 41 2 ≤ 2000)))))) (111, [(0, .inr (.inr (some 39))), (2, .inl v2_24)], [.inl s0_36], sh, gc_h sh I34 J35 A) := by
        intro I34 J35 s0_36 hI34 FI34 FJ35 KLT_I34 m_36
        clear hv1_24 hv2_24 e0_24 e1_24 e2_24 e3_24 e4_24 e5_24 e6_24 e7_24 e8_24 e9_24 f25 f26 f27 f28 f29 f30 f31 f32 f33
        obtain ⟨hv2_24_36, hs0_36, e0_36, e1_36, e2_36, e3_36, e4_36, e5_36, e6_36, e7_36, e8_36, e9_36, e10_36⟩ := m_36
        have f37 := (show 0 ≤ I34 23 1 ∧ I34 23 1 ≤ 1000 from gc_in hI34 R_23 rfl rfl)
        have f38 := (show 0 ≤ I34 23 5 ∧ I34 23 5 ≤ 1000 from gc_in hI34 R_23 rfl rfl)
        have f39 := (show 0 ≤ I34 23 6 ∧ I34 23 6 ≤ 1001 from gc_in hI34 R_23 rfl rfl)
        have f40 := (show 0 ≤ I34 23 7 ∧ I34 23 7 ≤ 125 from gc_in hI34 R_23 rfl rfl)
        have f41 := (show 0 ≤ I34 1 17 ∧ I34 1 17 ≤ 12000 from gc_in hI34 R_1 rfl rfl)
        have f42 := (show (-2147483648) ≤ I34 41 0 ∧ I34 41 0 ≤ 2147483647 from gc_in hI34 R_41 rfl rfl)
        have f43 := (show (-2147483648) ≤ I34 41 1 ∧ I34 41 1 ≤ 2147483647 from gc_in hI34 R_41 rfl rfl)
        have f44 := (show (-2147483648) ≤ I34 41 2 ∧ I34 41 2 ≤ 2147483647 from gc_in hI34 R_41 rfl rfl)
        have f45 := (show (-1) ≤ I34 39 2 ∧ I34 39 2 ≤ 999999 from gc_in hI34 R_39 rfl rfl)
        have L123 : ∀ (I46 : gr_I) (J47 : gr_J) (v1_48 : Int), gc_Inv ro I46 → (∀ q j : Nat, ((q = 39 ∧ j = 3) ∨ (q = 39 ∧ j = 4) ∨ (q = 23 ∧ j = 5) ∨ (q = 23 ∧ j = 6) ∨ (q = 23 ∧ j = 7) ∨ (q = 23 ∧ j = 8) ∨ (q = 1 ∧ j = 17) ∨ (q = 1 ∧ j = 18) ∨ q = 20 ∨ (q = 39 ∧ j = 6) ∨ (q = 41 ∧ j = 0) ∨ (q = 41 ∧ j = 1) ∨ (q = 41 ∧ j = 2)) ∨ I46 q j = I q j) → (∀ q j : Nat, ((q = 23 ∧ j = 9)) ∨ J47 q j = J q j) → gc_LT I46 → ((0 ≤ v1_48 ∧ v1_48 ≤ 1) ∧ (0 ≤ v2_24 ∧ v2_24 ≤ 999) ∧ (0 ≤ I46 41 0 ∧ I46 41 0 ≤ 16777215 ∧ 0 ≤ I46 41 1 ∧ I46 41 1 ≤ 2000 ∧ -1 ≤ I46 41 2 ∧ I46 41 2 ≤ 2000 ∧ I46 41 1 ≤ I46 1 17) ∧ (I46 23 5 ≤ I46 23 6) ∧ (I46 23 7 = 5 ∨ I46 23 6 ≤ I46 23 1) ∧ (I46 23 5 ≤ I46 23 1) ∧ (I46 23 7 = 4 ∨ (I46 23 5 < I46 23 6 ∧ I46 23 5 < I46 23 1)) ∧ (I46 23 7 = 3 → 2 ≤ I46 23 6 - I46 23 5 ∧ I46 23 6 - I46 23 5 ≤ 14) ∧ (I46 23 1 = I 23 1) ∧ (I 23 5 ≤ I46 23 5) ∧ (I46 1 17 + I46 23 1 ≤ 1280 + I46 23 5) ∧ (I46 39 2 = (t : Int))) → gv_X (gc_E6 ws0 tb 3 (yX6_readCell, cX6_readCell, 3, (some .boolean)) kX6_readCell) (gv_Q cX6_readCell (some .boolean) sh (fun r h' => (∃ (I' : gr_I) (J' : gr_J), h' = gc_h sh I' J' A ∧ gc_Inv ro I' ∧ (∀ q j : Nat, ((q = 39 ∧ j = 3) ∨ (q = 39 ∧ j = 4) ∨ (q = 23 ∧ j = 5) ∨ (q = 23 ∧ j = 6) ∨ (q = 23 ∧ j = 7) ∨ (q = 23 ∧ j = 8) ∨ (q = 1 ∧ j = 17) ∨ (q = 1 ∧ j = 18) ∨ q = 20 ∨ (q = 39 ∧ j = 6) ∨ (q = 41 ∧ j = 0) ∨ (q = 41 ∧ j = 1) ∨ (q = 41 ∧ j = 2)) ∨ I' q j = I q j) ∧ (∀ q j : Nat, ((q = 23 ∧ j = 9)) ∨ J' q j = J q j) ∧ gc_LT I' ∧ (∃ z : Int, r = some (.inl z) ∧ 0 ≤ z ∧ z ≤ 1 ∧ (I' 23 5 ≤ I' 23 6) ∧ (I' 23 7 = 5 ∨ I' 23 6 ≤ I' 23 1) ∧ (I' 23 5 ≤ I' 23 1) ∧ (I' 23 7 = 4 ∨ (I' 23 5 < I' 23 6 ∧ I' 23 5 < I' 23 1)) ∧ (I' 23 7 = 3 → 2 ≤ I' 23 6 - I' 23 5 ∧ I' 23 6 - I' 23 5 ≤ 14) ∧ (I' 23 1 = I 23 1) ∧ (I 23 5 ≤ I' 23 5) ∧ (I' 1 17 + I' 23 1 ≤ 1280 + I' 23 5) ∧ (z = 0 ∨ (0 ≤ I' 41 0 ∧ I' 41 0 ≤ 16777215 ∧ 0 ≤ I' 41 1 ∧ I' 41 1 ≤ 2000 ∧ -1 ≤ I' 41 2 ∧ I' 41 2 ≤ 2000)))))) (123, [(0, .inr (.inr (some 39))), (1, .inl v1_48), (2, .inl v2_24)], [], sh, gc_h sh I46 J47 A) := by
          intro I46 J47 v1_48 hI46 FI46 FJ47 KLT_I46 m_48
          clear hv2_24_36 hs0_36 e0_36 e1_36 e2_36 e3_36 e4_36 e5_36 e6_36 e7_36 e8_36 e9_36 e10_36 f37 f38 f39 f40 f41 f42 f43 f44 f45
          obtain ⟨hv1_48, hv2_24_48, e0_48, e1_48, e2_48, e3_48, e4_48, e5_48, e6_48, e7_48, e8_48, e9_48⟩ := m_48
          have f49 := (show 0 ≤ I46 23 1 ∧ I46 23 1 ≤ 1000 from gc_in hI46 R_23 rfl rfl)
          have f50 := (show 0 ≤ I46 23 5 ∧ I46 23 5 ≤ 1000 from gc_in hI46 R_23 rfl rfl)
          have f51 := (show 0 ≤ I46 23 6 ∧ I46 23 6 ≤ 1001 from gc_in hI46 R_23 rfl rfl)
          have f52 := (show 0 ≤ I46 23 7 ∧ I46 23 7 ≤ 125 from gc_in hI46 R_23 rfl rfl)
          have f53 := (show 0 ≤ I46 1 17 ∧ I46 1 17 ≤ 12000 from gc_in hI46 R_1 rfl rfl)
          have f54 := (show (-2147483648) ≤ I46 41 0 ∧ I46 41 0 ≤ 2147483647 from gc_in hI46 R_41 rfl rfl)
          have f55 := (show (-2147483648) ≤ I46 41 1 ∧ I46 41 1 ≤ 2147483647 from gc_in hI46 R_41 rfl rfl)
          have f56 := (show (-2147483648) ≤ I46 41 2 ∧ I46 41 2 ≤ 2147483647 from gc_in hI46 R_41 rfl rfl)
          have f57 := (show (-1) ≤ I46 39 2 ∧ I46 39 2 ≤ 999999 from gc_in hI46 R_39 rfl rfl)
          refine gv_run 2 true hD (pc' := 74) (lv' := [(2, .inl (v2_24 + 1)), (0, .inr (.inr (some 39))), (1, .inl v1_48)]) (st' := []) (h' := gc_h sh I46 J47 A) (C := ((True ∧ True) ∧ True)) rfl ⟨⟨trivial, trivial⟩, trivial⟩ ?_
          refine gv_pick [1, 2, 0] rfl ?_
          exact ih74 I46 J47 v1_48 (v2_24 + 1) (by omega) hI46 FI46 FJ47 KLT_I46 (by omega)
        refine gv_run 2 true hD (pc' := 113) (lv' := [(1, .inl s0_36), (0, .inr (.inr (some 39))), (2, .inl v2_24)]) (st' := [.inl s0_36]) (h' := gc_h sh I34 J35 A) (C := ((True ∧ True) ∧ True)) rfl ⟨⟨trivial, trivial⟩, trivial⟩ ?_
        refine gv_if_eq (t := 123) hD rfl rfl ⟨by omega, by omega⟩ (fun c58 => ?_) (fun c58 => ?_)
        · show gv_X _ _ (123, [(1, .inl s0_36), (0, .inr (.inr (some 39))), (2, .inl v2_24)], [], sh, gc_h sh I34 J35 A)
          refine gv_pick [1, 0, 2] rfl ?_
          exact L123 I34 J35 s0_36 hI34 FI34 FJ35 KLT_I34 (by omega)
        · show gv_X _ _ (116, [(1, .inl s0_36), (0, .inr (.inr (some 39))), (2, .inl v2_24)], [], sh, gc_h sh I34 J35 A)
          refine gv_run 1 true hD (pc' := 117) (lv' := [(1, .inl s0_36), (0, .inr (.inr (some 39))), (2, .inl v2_24)]) (st' := [.inr (.inr (some 39))]) (h' := gc_h sh I34 J35 A) (C := (True ∧ True)) rfl ⟨trivial, trivial⟩ ?_
          refine gv_get hD rfl rfl S_39 ⟨by decide, B_39⟩ (gc_hA S_39 rfl A_39_1) ?_
          show gv_X _ _ (120, [(1, .inl s0_36), (0, .inr (.inr (some 39))), (2, .inl v2_24)], [.inr (.inr (some 23))], sh, gc_h sh I34 J35 A)
          obtain ⟨r59, h59, E59, P59⟩ := d_X9_advance (ws0 := ws0) (tb := tb) hws htb sh ro I34 J35 A hI34 23  (gc_b23 hb)    (by omega) 
          obtain ⟨I60, J61, rfl, hI60, g59, k59, ⟨rfl, q59⟩⟩ := P59
          have FI60 := gc_frc (W := fun q j => (q = 39 ∧ j = 3) ∨ (q = 39 ∧ j = 4) ∨ (q = 23 ∧ j = 5) ∨ (q = 23 ∧ j = 6) ∨ (q = 23 ∧ j = 7) ∨ (q = 23 ∧ j = 8) ∨ (q = 1 ∧ j = 17) ∨ (q = 1 ∧ j = 18) ∨ q = 20 ∨ (q = 39 ∧ j = 6) ∨ (q = 41 ∧ j = 0) ∨ (q = 41 ∧ j = 1) ∨ (q = 41 ∧ j = 2)) (V := fun q j => (q = 23 ∧ j = 5) ∨ (q = 23 ∧ j = 6) ∨ (q = 23 ∧ j = 7) ∨ (q = 23 ∧ j = 8)) FI34 (fun q j h => (h.elim (fun h => (Or.inr (Or.inr (Or.inl h)))) (fun h => (h.elim (fun h => (Or.inr (Or.inr (Or.inr (Or.inl h))))) (fun h => (h.elim (fun h => (Or.inr (Or.inr (Or.inr (Or.inr (Or.inl h)))))) (fun h => (Or.inr (Or.inr (Or.inr (Or.inr (Or.inr (Or.inl h))))))))))))) g59
          have FJ61 := gc_frc (W := fun q j => (q = 23 ∧ j = 9)) (V := fun q j => (q = 23 ∧ j = 9)) FJ35 (fun q j h => h) k59
          have t62 := (g59 23 1).resolve_left (by omega)
          have t63 := (g59 1 17).resolve_left (by omega)
          have t64 := (g59 41 0).resolve_left (by omega)
          have t65 := (g59 41 1).resolve_left (by omega)
          have t66 := (g59 41 2).resolve_left (by omega)
          have t67 := (g59 39 2).resolve_left (by omega)
          have f68 := (show 0 ≤ I60 23 1 ∧ I60 23 1 ≤ 1000 from gc_in hI60 R_23 rfl rfl)
          have f69 := (show 0 ≤ I60 23 5 ∧ I60 23 5 ≤ 1000 from gc_in hI60 R_23 rfl rfl)
          have f70 := (show 0 ≤ I60 23 6 ∧ I60 23 6 ≤ 1001 from gc_in hI60 R_23 rfl rfl)
          have f71 := (show 0 ≤ I60 23 7 ∧ I60 23 7 ≤ 125 from gc_in hI60 R_23 rfl rfl)
          have f72 := (show 0 ≤ I60 1 17 ∧ I60 1 17 ≤ 12000 from gc_in hI60 R_1 rfl rfl)
          have f73 := (show (-2147483648) ≤ I60 41 0 ∧ I60 41 0 ≤ 2147483647 from gc_in hI60 R_41 rfl rfl)
          have f74 := (show (-2147483648) ≤ I60 41 1 ∧ I60 41 1 ≤ 2147483647 from gc_in hI60 R_41 rfl rfl)
          have f75 := (show (-2147483648) ≤ I60 41 2 ∧ I60 41 2 ≤ 2147483647 from gc_in hI60 R_41 rfl rfl)
          have f76 := (show (-1) ≤ I60 39 2 ∧ I60 39 2 ≤ 999999 from gc_in hI60 R_39 rfl rfl)
          have KLT_I60 : gc_LT I60 := q59.2.2.2.2.2.2.2
          refine gv_callV hD rfl (As := []) (st := []) rfl B_23 S_23 rfl (gc_lV6 hws rfl) (Nat.le_of_ble_eq_true rfl) (gz_Ev_mono (d := 2) (by decide) E59) ?_
          show gv_X _ _ (123, [(1, .inl s0_36), (0, .inr (.inr (some 39))), (2, .inl v2_24)], [], sh, gc_h sh I60 J61 A)
          refine gv_pick [1, 0, 2] rfl ?_
          exact L123 I60 J61 s0_36 hI60 FI60 FJ61 KLT_I60 (by omega)
      have L129 : ((0 ≤ I22 41 0 ∧ I22 41 0 ≤ 16777215 ∧ 0 ≤ I22 41 1 ∧ I22 41 1 ≤ 2000 ∧ -1 ≤ I22 41 2 ∧ I22 41 2 ≤ 2000 ∧ I22 41 1 ≤ I22 1 17) ∧ (I22 23 5 ≤ I22 23 6) ∧ (I22 23 7 = 5 ∨ I22 23 6 ≤ I22 23 1) ∧ (I22 23 5 ≤ I22 23 1) ∧ (I22 23 7 = 4 ∨ (I22 23 5 < I22 23 6 ∧ I22 23 5 < I22 23 1)) ∧ (I22 23 7 = 3 → 2 ≤ I22 23 6 - I22 23 5 ∧ I22 23 6 - I22 23 5 ≤ 14) ∧ (I22 23 1 = I 23 1) ∧ (I 23 5 ≤ I22 23 5) ∧ (I22 1 17 + I22 23 1 ≤ 1280 + I22 23 5) ∧ (I22 39 2 = (t : Int))) → gv_X (gc_E6 ws0 tb 3 (yX6_readCell, cX6_readCell, 3, (some .boolean)) kX6_readCell) (gv_Q cX6_readCell (some .boolean) sh (fun r h' => (∃ (I' : gr_I) (J' : gr_J), h' = gc_h sh I' J' A ∧ gc_Inv ro I' ∧ (∀ q j : Nat, ((q = 39 ∧ j = 3) ∨ (q = 39 ∧ j = 4) ∨ (q = 23 ∧ j = 5) ∨ (q = 23 ∧ j = 6) ∨ (q = 23 ∧ j = 7) ∨ (q = 23 ∧ j = 8) ∨ (q = 1 ∧ j = 17) ∨ (q = 1 ∧ j = 18) ∨ q = 20 ∨ (q = 39 ∧ j = 6) ∨ (q = 41 ∧ j = 0) ∨ (q = 41 ∧ j = 1) ∨ (q = 41 ∧ j = 2)) ∨ I' q j = I q j) ∧ (∀ q j : Nat, ((q = 23 ∧ j = 9)) ∨ J' q j = J q j) ∧ gc_LT I' ∧ (∃ z : Int, r = some (.inl z) ∧ 0 ≤ z ∧ z ≤ 1 ∧ (I' 23 5 ≤ I' 23 6) ∧ (I' 23 7 = 5 ∨ I' 23 6 ≤ I' 23 1) ∧ (I' 23 5 ≤ I' 23 1) ∧ (I' 23 7 = 4 ∨ (I' 23 5 < I' 23 6 ∧ I' 23 5 < I' 23 1)) ∧ (I' 23 7 = 3 → 2 ≤ I' 23 6 - I' 23 5 ∧ I' 23 6 - I' 23 5 ≤ 14) ∧ (I' 23 1 = I 23 1) ∧ (I 23 5 ≤ I' 23 5) ∧ (I' 1 17 + I' 23 1 ≤ 1280 + I' 23 5) ∧ (z = 0 ∨ (0 ≤ I' 41 0 ∧ I' 41 0 ≤ 16777215 ∧ 0 ≤ I' 41 1 ∧ I' 41 1 ≤ 2000 ∧ -1 ≤ I' 41 2 ∧ I' 41 2 ≤ 2000)))))) (129, [(0, .inr (.inr (some 39)))], [], sh, gc_h sh I22 J23 A) := by
        intro m_77
        obtain ⟨e0_77, e1_77, e2_77, e3_77, e4_77, e5_77, e6_77, e7_77, e8_77, e9_77⟩ := m_77
        have f78 := (show 0 ≤ I22 23 1 ∧ I22 23 1 ≤ 1000 from gc_in hI22 R_23 rfl rfl)
        have f79 := (show 0 ≤ I22 23 5 ∧ I22 23 5 ≤ 1000 from gc_in hI22 R_23 rfl rfl)
        have f80 := (show 0 ≤ I22 23 6 ∧ I22 23 6 ≤ 1001 from gc_in hI22 R_23 rfl rfl)
        have f81 := (show 0 ≤ I22 23 7 ∧ I22 23 7 ≤ 125 from gc_in hI22 R_23 rfl rfl)
        have f82 := (show 0 ≤ I22 1 17 ∧ I22 1 17 ≤ 12000 from gc_in hI22 R_1 rfl rfl)
        have f83 := (show (-2147483648) ≤ I22 41 0 ∧ I22 41 0 ≤ 2147483647 from gc_in hI22 R_41 rfl rfl)
        have f84 := (show (-2147483648) ≤ I22 41 1 ∧ I22 41 1 ≤ 2147483647 from gc_in hI22 R_41 rfl rfl)
        have f85 := (show (-2147483648) ≤ I22 41 2 ∧ I22 41 2 ≤ 2147483647 from gc_in hI22 R_41 rfl rfl)
        have f86 := (show (-1) ≤ I22 39 2 ∧ I22 39 2 ≤ 999999 from gc_in hI22 R_39 rfl rfl)
        refine gv_run 1 true hD (pc' := 130) (lv' := [(0, .inr (.inr (some 39)))]) (st' := [.inr (.inr (some 39))]) (h' := gc_h sh I22 J23 A) (C := (True ∧ True)) rfl ⟨trivial, trivial⟩ ?_
        refine gv_get hD rfl rfl S_39 ⟨by decide, B_39⟩ (gc_hA S_39 rfl A_39_10) ?_
        show gv_X _ _ (133, [(0, .inr (.inr (some 39)))], [.inr (.inr (some 41))], sh, gc_h sh I22 J23 A)
        refine gv_run 2 true hD (pc' := 135) (lv' := [(0, .inr (.inr (some 39)))]) (st' := [.inr (.inr (some 39)), .inl 2, .inr (.inr (some 41))]) (h' := gc_h sh I22 J23 A) (C := ((True ∧ True) ∧ True)) rfl ⟨⟨trivial, trivial⟩, trivial⟩ ?_
        refine gv_get hD rfl rfl S_39 ⟨by decide, B_39⟩ (gc_hA S_39 rfl A_39_0) ?_
        show gv_X _ _ (138, [(0, .inr (.inr (some 39)))], [.inr (.inr (some 1)), .inl 2, .inr (.inr (some 41))], sh, gc_h sh I22 J23 A)
        have f87 := (show 0 ≤ I22 1 17 ∧ I22 1 17 ≤ 12000 from gc_in hI22 R_1 rfl rfl)
        refine gv_get hD rfl rfl S_1 ⟨by decide, B_1⟩ (gc_hI S_1 rfl) ?_
        show gv_X _ _ (141, [(0, .inr (.inr (some 39)))], [.inl (I22 1 17), .inl 2, .inr (.inr (some 41))], sh, gc_h sh I22 J23 A)
        refine gv_run 1 true hD (pc' := 142) (lv' := [(0, .inr (.inr (some 39)))]) (st' := [.inr (.inr (some 39)), .inl (I22 1 17), .inl 2, .inr (.inr (some 41))]) (h' := gc_h sh I22 J23 A) (C := (True ∧ True)) rfl ⟨trivial, trivial⟩ ?_
        refine gv_get hD rfl rfl S_39 ⟨by decide, B_39⟩ (gc_hA S_39 rfl A_39_10) ?_
        show gv_X _ _ (145, [(0, .inr (.inr (some 39)))], [.inr (.inr (some 41)), .inl (I22 1 17), .inl 2, .inr (.inr (some 41))], sh, gc_h sh I22 J23 A)
        refine gv_run 1 true hD (pc' := 146) (lv' := [(0, .inr (.inr (some 39)))]) (st' := [.inl 1, .inr (.inr (some 41)), .inl (I22 1 17), .inl 2, .inr (.inr (some 41))]) (h' := gc_h sh I22 J23 A) (C := (True ∧ True)) rfl ⟨trivial, trivial⟩ ?_
        have f88 := (show (-2147483648) ≤ I22 41 1 ∧ I22 41 1 ≤ 2147483647 from gc_in hI22 R_41 rfl rfl)
        refine gv_iald hD rfl S_41 rfl ⟨by decide, B_41⟩ ⟨by omega, by omega⟩ (gc_iI S_41 rfl) ?_
        show gv_X _ _ (147, [(0, .inr (.inr (some 39)))], [.inl (I22 41 1), .inl (I22 1 17), .inl 2, .inr (.inr (some 41))], sh, gc_h sh I22 J23 A)
        refine gv_run 1 true hD (pc' := 148) (lv' := [(0, .inr (.inr (some 39)))]) (st' := [.inl ((I22 1 17) - (I22 41 1)), .inl 2, .inr (.inr (some 41))]) (h' := gc_h sh I22 J23 A) (C := (True ∧ True)) rfl ⟨trivial, trivial⟩ ?_
        refine gv_iast hD rfl S_41 ⟨by decide, B_41⟩ ⟨by omega, by omega⟩ ?_
        refine gc_st (k := 2) hI22 S_41 rfl R_41 (lo := (-2147483648)) (hi := 2147483647) rfl rfl (by omega) (by omega) (fun I89 hI89 q90 p90 => ?_)
        have FI89 := gc_frs (W := fun q j => (q = 39 ∧ j = 3) ∨ (q = 39 ∧ j = 4) ∨ (q = 23 ∧ j = 5) ∨ (q = 23 ∧ j = 6) ∨ (q = 23 ∧ j = 7) ∨ (q = 23 ∧ j = 8) ∨ (q = 1 ∧ j = 17) ∨ (q = 1 ∧ j = 18) ∨ q = 20 ∨ (q = 39 ∧ j = 6) ∨ (q = 41 ∧ j = 0) ∨ (q = 41 ∧ j = 1) ∨ (q = 41 ∧ j = 2)) FI22 (Or.inr (Or.inr (Or.inr (Or.inr (Or.inr (Or.inr (Or.inr (Or.inr (Or.inr (Or.inr (Or.inr (Or.inr ⟨rfl, rfl⟩)))))))))))) p90
        have t91 := p90 23 1 (fun h => absurd h.1 (by omega))
        have t92 := p90 23 5 (fun h => absurd h.1 (by omega))
        have t93 := p90 23 6 (fun h => absurd h.1 (by omega))
        have t94 := p90 23 7 (fun h => absurd h.1 (by omega))
        have t95 := p90 1 17 (fun h => absurd h.1 (by omega))
        have t96 := p90 41 0 (fun h => absurd h.2 (by decide))
        have t97 := p90 41 1 (fun h => absurd h.2 (by decide))
        have t98 := p90 39 2 (fun h => absurd h.1 (by omega))
        have f99 := (show 0 ≤ I89 23 1 ∧ I89 23 1 ≤ 1000 from gc_in hI89 R_23 rfl rfl)
        have f100 := (show 0 ≤ I89 23 5 ∧ I89 23 5 ≤ 1000 from gc_in hI89 R_23 rfl rfl)
        have f101 := (show 0 ≤ I89 23 6 ∧ I89 23 6 ≤ 1001 from gc_in hI89 R_23 rfl rfl)
        have f102 := (show 0 ≤ I89 23 7 ∧ I89 23 7 ≤ 125 from gc_in hI89 R_23 rfl rfl)
        have f103 := (show 0 ≤ I89 1 17 ∧ I89 1 17 ≤ 12000 from gc_in hI89 R_1 rfl rfl)
        have f104 := (show (-2147483648) ≤ I89 41 0 ∧ I89 41 0 ≤ 2147483647 from gc_in hI89 R_41 rfl rfl)
        have f105 := (show (-2147483648) ≤ I89 41 1 ∧ I89 41 1 ≤ 2147483647 from gc_in hI89 R_41 rfl rfl)
        have f106 := (show (-2147483648) ≤ I89 41 2 ∧ I89 41 2 ≤ 2147483647 from gc_in hI89 R_41 rfl rfl)
        have f107 := (show (-1) ≤ I89 39 2 ∧ I89 39 2 ≤ 999999 from gc_in hI89 R_39 rfl rfl)
        have KLT_I89 := gc_LT_fr KLT_I22 (p90 23 5 (fun h => absurd h.1 (by omega))) (p90 23 6 (fun h => absurd h.1 (by omega))) (p90 23 7 (fun h => absurd h.1 (by omega))) (fun k => p90 24 k (fun h => absurd h.1 (by omega)))
        show gv_X _ _ (149, [(0, .inr (.inr (some 39)))], [], sh, gc_h sh I89 J23 A)
        refine gv_run 1 true hD (pc' := 150) (lv' := [(0, .inr (.inr (some 39)))]) (st' := [.inl 1]) (h' := gc_h sh I89 J23 A) (C := (True ∧ True)) rfl ⟨trivial, trivial⟩ ?_
        exact gv_zret hD rfl (by omega) ⟨I89, J23, rfl, hI89, FI89, FJ23, KLT_I89, ⟨_, rfl, by omega⟩⟩
      refine gv_run 2 true hD (pc' := 78) (lv' := [(0, .inr (.inr (some 39))), (1, .inl v1_24), (2, .inl v2_24)]) (st' := [.inl 1000, .inl v2_24]) (h' := gc_h sh I22 J23 A) (C := ((True ∧ True) ∧ True)) rfl ⟨⟨trivial, trivial⟩, trivial⟩ ?_
      refine gv_icmp_ge (t := 129) hD rfl rfl ⟨⟨by omega, by omega⟩, ⟨by omega, by omega⟩⟩ (fun c108 => ?_) (fun c108 => ?_)
      · show gv_X _ _ (129, [(0, .inr (.inr (some 39))), (1, .inl v1_24), (2, .inl v2_24)], [], sh, gc_h sh I22 J23 A)
        refine gv_pick [0] rfl ?_
        exact L129 (by omega)
      · show gv_X _ _ (81, [(0, .inr (.inr (some 39))), (1, .inl v1_24), (2, .inl v2_24)], [], sh, gc_h sh I22 J23 A)
        refine gv_run 1 true hD (pc' := 82) (lv' := [(0, .inr (.inr (some 39))), (1, .inl v1_24), (2, .inl v2_24)]) (st' := [.inl v1_24]) (h' := gc_h sh I22 J23 A) (C := (True ∧ True)) rfl ⟨trivial, trivial⟩ ?_
        refine gv_if_eq (t := 129) hD rfl rfl ⟨by omega, by omega⟩ (fun c109 => ?_) (fun c109 => ?_)
        · show gv_X _ _ (129, [(0, .inr (.inr (some 39))), (1, .inl v1_24), (2, .inl v2_24)], [], sh, gc_h sh I22 J23 A)
          refine gv_pick [0] rfl ?_
          exact L129 (by omega)
        · show gv_X _ _ (85, [(0, .inr (.inr (some 39))), (1, .inl v1_24), (2, .inl v2_24)], [], sh, gc_h sh I22 J23 A)
          refine gv_run 1 true hD (pc' := 86) (lv' := [(0, .inr (.inr (some 39))), (1, .inl v1_24), (2, .inl v2_24)]) (st' := [.inr (.inr (some 39))]) (h' := gc_h sh I22 J23 A) (C := (True ∧ True)) rfl ⟨trivial, trivial⟩ ?_
          obtain ⟨r110, h110, E110, P110⟩ := d_X6_readPart (ws0 := ws0) (tb := tb) hws htb sh ro I22 J23 A hI22   hb    (by omega) (by omega) (by omega) (by omega) (by omega) (by omega) KLT_I22
          obtain ⟨I111, J112, rfl, hI111, g110, k110, KLT_I111, ⟨z110, rfl, q110⟩⟩ := P110
          have FI111 := gc_frc (W := fun q j => (q = 39 ∧ j = 3) ∨ (q = 39 ∧ j = 4) ∨ (q = 23 ∧ j = 5) ∨ (q = 23 ∧ j = 6) ∨ (q = 23 ∧ j = 7) ∨ (q = 23 ∧ j = 8) ∨ (q = 1 ∧ j = 17) ∨ (q = 1 ∧ j = 18) ∨ q = 20 ∨ (q = 39 ∧ j = 6) ∨ (q = 41 ∧ j = 0) ∨ (q = 41 ∧ j = 1) ∨ (q = 41 ∧ j = 2)) (V := fun q j => (q = 39 ∧ j = 3) ∨ (q = 39 ∧ j = 4) ∨ (q = 23 ∧ j = 5) ∨ (q = 23 ∧ j = 6) ∨ (q = 23 ∧ j = 7) ∨ (q = 23 ∧ j = 8) ∨ (q = 1 ∧ j = 17) ∨ (q = 1 ∧ j = 18) ∨ q = 20) FI22 (fun q j h => (h.elim (fun h => (Or.inl h)) (fun h => (h.elim (fun h => (Or.inr (Or.inl h))) (fun h => (h.elim (fun h => (Or.inr (Or.inr (Or.inl h)))) (fun h => (h.elim (fun h => (Or.inr (Or.inr (Or.inr (Or.inl h))))) (fun h => (h.elim (fun h => (Or.inr (Or.inr (Or.inr (Or.inr (Or.inl h)))))) (fun h => (h.elim (fun h => (Or.inr (Or.inr (Or.inr (Or.inr (Or.inr (Or.inl h))))))) (fun h => (h.elim (fun h => (Or.inr (Or.inr (Or.inr (Or.inr (Or.inr (Or.inr (Or.inl h)))))))) (fun h => (h.elim (fun h => (Or.inr (Or.inr (Or.inr (Or.inr (Or.inr (Or.inr (Or.inr (Or.inl h))))))))) (fun h => (Or.inr (Or.inr (Or.inr (Or.inr (Or.inr (Or.inr (Or.inr (Or.inr (Or.inl h)))))))))))))))))))))))))) g110
          have FJ112 := gc_frc (W := fun q j => (q = 23 ∧ j = 9)) (V := fun q j => (q = 23 ∧ j = 9)) FJ23 (fun q j h => h) k110
          have t113 := (g110 23 1).resolve_left (by omega)
          have t114 := (g110 41 0).resolve_left (by omega)
          have t115 := (g110 41 1).resolve_left (by omega)
          have t116 := (g110 41 2).resolve_left (by omega)
          have t117 := (g110 39 2).resolve_left (by omega)
          have f118 := (show 0 ≤ I111 23 1 ∧ I111 23 1 ≤ 1000 from gc_in hI111 R_23 rfl rfl)
          have f119 := (show 0 ≤ I111 23 5 ∧ I111 23 5 ≤ 1000 from gc_in hI111 R_23 rfl rfl)
          have f120 := (show 0 ≤ I111 23 6 ∧ I111 23 6 ≤ 1001 from gc_in hI111 R_23 rfl rfl)
          have f121 := (show 0 ≤ I111 23 7 ∧ I111 23 7 ≤ 125 from gc_in hI111 R_23 rfl rfl)
          have f122 := (show 0 ≤ I111 1 17 ∧ I111 1 17 ≤ 12000 from gc_in hI111 R_1 rfl rfl)
          have f123 := (show (-2147483648) ≤ I111 41 0 ∧ I111 41 0 ≤ 2147483647 from gc_in hI111 R_41 rfl rfl)
          have f124 := (show (-2147483648) ≤ I111 41 1 ∧ I111 41 1 ≤ 2147483647 from gc_in hI111 R_41 rfl rfl)
          have f125 := (show (-2147483648) ≤ I111 41 2 ∧ I111 41 2 ≤ 2147483647 from gc_in hI111 R_41 rfl rfl)
          have f126 := (show (-1) ≤ I111 39 2 ∧ I111 39 2 ≤ 999999 from gc_in hI111 R_39 rfl rfl)
          refine gv_callV hD rfl (As := []) (st := []) rfl B_39 S_39 rfl (gc_lV6 hws rfl) (Nat.le_of_ble_eq_true rfl) (gz_Ev_mono (d := 3) (by decide) E110) ?_
          show gv_X _ _ (89, [(0, .inr (.inr (some 39))), (1, .inl v1_24), (2, .inl v2_24)], [.inl z110], sh, gc_h sh I111 J112 A)
          refine gv_if_ne (t := 94) hD rfl rfl ⟨by omega, by omega⟩ (fun c127 => ?_) (fun c127 => ?_)
          · show gv_X _ _ (94, [(0, .inr (.inr (some 39))), (1, .inl v1_24), (2, .inl v2_24)], [], sh, gc_h sh I111 J112 A)
            refine gv_run 1 true hD (pc' := 95) (lv' := [(0, .inr (.inr (some 39))), (1, .inl v1_24), (2, .inl v2_24)]) (st' := [.inr (.inr (some 39))]) (h' := gc_h sh I111 J112 A) (C := (True ∧ True)) rfl ⟨trivial, trivial⟩ ?_
            refine gv_get hD rfl rfl S_39 ⟨by decide, B_39⟩ (gc_hA S_39 rfl A_39_1) ?_
            show gv_X _ _ (98, [(0, .inr (.inr (some 39))), (1, .inl v1_24), (2, .inl v2_24)], [.inr (.inr (some 23))], sh, gc_h sh I111 J112 A)
            have f128 := (show 0 ≤ I111 23 7 ∧ I111 23 7 ≤ 125 from gc_in hI111 R_23 rfl rfl)
            refine gv_get hD rfl rfl S_23 ⟨by decide, B_23⟩ (gc_hI S_23 rfl) ?_
            show gv_X _ _ (101, [(0, .inr (.inr (some 39))), (1, .inl v1_24), (2, .inl v2_24)], [.inl (I111 23 7)], sh, gc_h sh I111 J112 A)
            refine gv_run 1 true hD (pc' := 103) (lv' := [(0, .inr (.inr (some 39))), (1, .inl v1_24), (2, .inl v2_24)]) (st' := [.inl 43, .inl (I111 23 7)]) (h' := gc_h sh I111 J112 A) (C := (True ∧ True)) rfl ⟨trivial, trivial⟩ ?_
            refine gv_icmp_ne (t := 110) hD rfl rfl ⟨⟨by omega, by omega⟩, ⟨by omega, by omega⟩⟩ (fun c129 => ?_) (fun c129 => ?_)
            · show gv_X _ _ (110, [(0, .inr (.inr (some 39))), (1, .inl v1_24), (2, .inl v2_24)], [], sh, gc_h sh I111 J112 A)
              refine gv_run 1 true hD (pc' := 111) (lv' := [(0, .inr (.inr (some 39))), (1, .inl v1_24), (2, .inl v2_24)]) (st' := [.inl 0]) (h' := gc_h sh I111 J112 A) (C := (True ∧ True)) rfl ⟨trivial, trivial⟩ ?_
              refine gv_pick [0, 2] rfl ?_
              exact L111 I111 J112 0 hI111 FI111 FJ112 KLT_I111 (by omega)
            · show gv_X _ _ (106, [(0, .inr (.inr (some 39))), (1, .inl v1_24), (2, .inl v2_24)], [], sh, gc_h sh I111 J112 A)
              refine gv_run 2 true hD (pc' := 111) (lv' := [(0, .inr (.inr (some 39))), (1, .inl v1_24), (2, .inl v2_24)]) (st' := [.inl 1]) (h' := gc_h sh I111 J112 A) (C := ((True ∧ True) ∧ True)) rfl ⟨⟨trivial, trivial⟩, trivial⟩ ?_
              refine gv_pick [0, 2] rfl ?_
              exact L111 I111 J112 1 hI111 FI111 FJ112 KLT_I111 (by omega)
          · show gv_X _ _ (92, [(0, .inr (.inr (some 39))), (1, .inl v1_24), (2, .inl v2_24)], [], sh, gc_h sh I111 J112 A)
            refine gv_run 1 true hD (pc' := 93) (lv' := [(0, .inr (.inr (some 39))), (1, .inl v1_24), (2, .inl v2_24)]) (st' := [.inl 0]) (h' := gc_h sh I111 J112 A) (C := (True ∧ True)) rfl ⟨trivial, trivial⟩ ?_
            exact gv_zret hD rfl (by omega) ⟨I111, J112, rfl, hI111, FI111, FJ112, KLT_I111, ⟨_, rfl, by omega⟩⟩
  refine gv_run 2 true hD (pc' := 2) (lv' := [(0, .inr (.inr (some 39)))]) (st' := [.inl 0, .inr (.inr (some 39))]) (h' := gc_h sh I J A) (C := ((True ∧ True) ∧ True)) rfl ⟨⟨trivial, trivial⟩, trivial⟩ ?_
  obtain ⟨r130, h130, E130, P130⟩ := d_X6_readValues (ws0 := ws0) (tb := tb) hws htb sh ro I J A hI  t 0 hb  h_t G_t  ⟨by omega, by omega⟩ (by omega) (by omega) (by omega) (by omega) (by omega) (by omega) KLT_I
  obtain ⟨I131, J132, rfl, hI131, g130, k130, KLT_I131, ⟨z130, rfl, q130⟩⟩ := P130
  have FI131 := gc_frc (W := fun q j => (q = 39 ∧ j = 3) ∨ (q = 39 ∧ j = 4) ∨ (q = 23 ∧ j = 5) ∨ (q = 23 ∧ j = 6) ∨ (q = 23 ∧ j = 7) ∨ (q = 23 ∧ j = 8) ∨ (q = 1 ∧ j = 17) ∨ (q = 1 ∧ j = 18) ∨ q = 20 ∨ (q = 39 ∧ j = 6) ∨ (q = 41 ∧ j = 0) ∨ (q = 41 ∧ j = 1) ∨ (q = 41 ∧ j = 2)) (V := fun q j => (q = 39 ∧ j = 3) ∨ (q = 39 ∧ j = 4) ∨ (q = 23 ∧ j = 5) ∨ (q = 23 ∧ j = 6) ∨ (q = 23 ∧ j = 7) ∨ (q = 23 ∧ j = 8) ∨ (q = 39 ∧ j = 6)) FI (fun q j h => (h.elim (fun h => (Or.inl h)) (fun h => (h.elim (fun h => (Or.inr (Or.inl h))) (fun h => (h.elim (fun h => (Or.inr (Or.inr (Or.inl h)))) (fun h => (h.elim (fun h => (Or.inr (Or.inr (Or.inr (Or.inl h))))) (fun h => (h.elim (fun h => (Or.inr (Or.inr (Or.inr (Or.inr (Or.inl h)))))) (fun h => (h.elim (fun h => (Or.inr (Or.inr (Or.inr (Or.inr (Or.inr (Or.inl h))))))) (fun h => (Or.inr (Or.inr (Or.inr (Or.inr (Or.inr (Or.inr (Or.inr (Or.inr (Or.inr (Or.inl h))))))))))))))))))))))) g130
  have FJ132 := gc_frc (W := fun q j => (q = 23 ∧ j = 9)) (V := fun q j => (q = 23 ∧ j = 9)) FJ (fun q j h => h) k130
  have t133 := (g130 23 1).resolve_left (by omega)
  have t134 := (g130 1 17).resolve_left (by omega)
  have t135 := (g130 41 0).resolve_left (by omega)
  have t136 := (g130 41 1).resolve_left (by omega)
  have t137 := (g130 41 2).resolve_left (by omega)
  have t138 := (g130 39 2).resolve_left (by omega)
  have f139 := (show 0 ≤ I131 23 1 ∧ I131 23 1 ≤ 1000 from gc_in hI131 R_23 rfl rfl)
  have f140 := (show 0 ≤ I131 23 5 ∧ I131 23 5 ≤ 1000 from gc_in hI131 R_23 rfl rfl)
  have f141 := (show 0 ≤ I131 23 6 ∧ I131 23 6 ≤ 1001 from gc_in hI131 R_23 rfl rfl)
  have f142 := (show 0 ≤ I131 23 7 ∧ I131 23 7 ≤ 125 from gc_in hI131 R_23 rfl rfl)
  have f143 := (show 0 ≤ I131 1 17 ∧ I131 1 17 ≤ 12000 from gc_in hI131 R_1 rfl rfl)
  have f144 := (show (-2147483648) ≤ I131 41 0 ∧ I131 41 0 ≤ 2147483647 from gc_in hI131 R_41 rfl rfl)
  have f145 := (show (-2147483648) ≤ I131 41 1 ∧ I131 41 1 ≤ 2147483647 from gc_in hI131 R_41 rfl rfl)
  have f146 := (show (-2147483648) ≤ I131 41 2 ∧ I131 41 2 ≤ 2147483647 from gc_in hI131 R_41 rfl rfl)
  have f147 := (show (-1) ≤ I131 39 2 ∧ I131 39 2 ≤ 999999 from gc_in hI131 R_39 rfl rfl)
  refine gv_callV hD rfl (As := [.inl 0]) (st := []) rfl B_39 S_39 rfl (gc_lV6 hws rfl) (Nat.le_of_ble_eq_true rfl) (gz_Ev_mono (d := 3) (by decide) E130) ?_
  show gv_X _ _ (5, [(0, .inr (.inr (some 39)))], [.inl z130], sh, gc_h sh I131 J132 A)
  refine gv_if_eq (t := 17) hD rfl rfl ⟨by omega, by omega⟩ (fun c148 => ?_) (fun c148 => ?_)
  · show gv_X _ _ (17, [(0, .inr (.inr (some 39)))], [], sh, gc_h sh I131 J132 A)
    refine gv_pick [] rfl ?_
    exact L17 I131 J132 hI131 FI131 FJ132 KLT_I131 (by omega)
  · show gv_X _ _ (8, [(0, .inr (.inr (some 39)))], [], sh, gc_h sh I131 J132 A)
    refine gv_run 2 true hD (pc' := 11) (lv' := [(0, .inr (.inr (some 39)))]) (st' := [.inl 61, .inr (.inr (some 39))]) (h' := gc_h sh I131 J132 A) (C := ((True ∧ True) ∧ True)) rfl ⟨⟨trivial, trivial⟩, trivial⟩ ?_
    obtain ⟨r149, h149, E149, P149⟩ := d_X6_take (ws0 := ws0) (tb := tb) hws htb sh ro I131 J132 A hI131  61 hb   ⟨by omega, by omega⟩ (by omega) (by omega) (by omega) (by omega) (by omega) (by omega) KLT_I131
    obtain ⟨I150, J151, rfl, hI150, g149, k149, KLT_I150, ⟨z149, rfl, q149⟩⟩ := P149
    have FI150 := gc_frc (W := fun q j => (q = 39 ∧ j = 3) ∨ (q = 39 ∧ j = 4) ∨ (q = 23 ∧ j = 5) ∨ (q = 23 ∧ j = 6) ∨ (q = 23 ∧ j = 7) ∨ (q = 23 ∧ j = 8) ∨ (q = 1 ∧ j = 17) ∨ (q = 1 ∧ j = 18) ∨ q = 20 ∨ (q = 39 ∧ j = 6) ∨ (q = 41 ∧ j = 0) ∨ (q = 41 ∧ j = 1) ∨ (q = 41 ∧ j = 2)) (V := fun q j => (q = 39 ∧ j = 3) ∨ (q = 39 ∧ j = 4) ∨ (q = 23 ∧ j = 5) ∨ (q = 23 ∧ j = 6) ∨ (q = 23 ∧ j = 7) ∨ (q = 23 ∧ j = 8)) FI131 (fun q j h => (h.elim (fun h => (Or.inl h)) (fun h => (h.elim (fun h => (Or.inr (Or.inl h))) (fun h => (h.elim (fun h => (Or.inr (Or.inr (Or.inl h)))) (fun h => (h.elim (fun h => (Or.inr (Or.inr (Or.inr (Or.inl h))))) (fun h => (h.elim (fun h => (Or.inr (Or.inr (Or.inr (Or.inr (Or.inl h)))))) (fun h => (Or.inr (Or.inr (Or.inr (Or.inr (Or.inr (Or.inl h))))))))))))))))) g149
    have FJ151 := gc_frc (W := fun q j => (q = 23 ∧ j = 9)) (V := fun q j => (q = 23 ∧ j = 9)) FJ132 (fun q j h => h) k149
    have t152 := (g149 23 1).resolve_left (by omega)
    have t153 := (g149 1 17).resolve_left (by omega)
    have t154 := (g149 41 0).resolve_left (by omega)
    have t155 := (g149 41 1).resolve_left (by omega)
    have t156 := (g149 41 2).resolve_left (by omega)
    have t157 := (g149 39 2).resolve_left (by omega)
    have f158 := (show 0 ≤ I150 23 1 ∧ I150 23 1 ≤ 1000 from gc_in hI150 R_23 rfl rfl)
    have f159 := (show 0 ≤ I150 23 5 ∧ I150 23 5 ≤ 1000 from gc_in hI150 R_23 rfl rfl)
    have f160 := (show 0 ≤ I150 23 6 ∧ I150 23 6 ≤ 1001 from gc_in hI150 R_23 rfl rfl)
    have f161 := (show 0 ≤ I150 23 7 ∧ I150 23 7 ≤ 125 from gc_in hI150 R_23 rfl rfl)
    have f162 := (show 0 ≤ I150 1 17 ∧ I150 1 17 ≤ 12000 from gc_in hI150 R_1 rfl rfl)
    have f163 := (show (-2147483648) ≤ I150 41 0 ∧ I150 41 0 ≤ 2147483647 from gc_in hI150 R_41 rfl rfl)
    have f164 := (show (-2147483648) ≤ I150 41 1 ∧ I150 41 1 ≤ 2147483647 from gc_in hI150 R_41 rfl rfl)
    have f165 := (show (-2147483648) ≤ I150 41 2 ∧ I150 41 2 ≤ 2147483647 from gc_in hI150 R_41 rfl rfl)
    have f166 := (show (-1) ≤ I150 39 2 ∧ I150 39 2 ≤ 999999 from gc_in hI150 R_39 rfl rfl)
    refine gv_callV hD rfl (As := [.inl 61]) (st := []) rfl B_39 S_39 rfl (gc_lV6 hws rfl) (Nat.le_of_ble_eq_true rfl) (gz_Ev_mono (d := 3) (by decide) E149) ?_
    show gv_X _ _ (14, [(0, .inr (.inr (some 39)))], [.inl z149], sh, gc_h sh I150 J151 A)
    refine gv_if_ne (t := 19) hD rfl rfl ⟨by omega, by omega⟩ (fun c167 => ?_) (fun c167 => ?_)
    · show gv_X _ _ (19, [(0, .inr (.inr (some 39)))], [], sh, gc_h sh I150 J151 A)
      refine gv_run 1 true hD (pc' := 20) (lv' := [(0, .inr (.inr (some 39)))]) (st' := [.inr (.inr (some 39))]) (h' := gc_h sh I150 J151 A) (C := (True ∧ True)) rfl ⟨trivial, trivial⟩ ?_
      refine gv_get hD rfl rfl S_39 ⟨by decide, B_39⟩ (gc_hA S_39 rfl A_39_10) ?_
      show gv_X _ _ (23, [(0, .inr (.inr (some 39)))], [.inr (.inr (some 41))], sh, gc_h sh I150 J151 A)
      refine gv_run 2 true hD (pc' := 25) (lv' := [(0, .inr (.inr (some 39)))]) (st' := [.inr (.inr (some 39)), .inl 0, .inr (.inr (some 41))]) (h' := gc_h sh I150 J151 A) (C := ((True ∧ True) ∧ True)) rfl ⟨⟨trivial, trivial⟩, trivial⟩ ?_
      have f168 := (show 0 ≤ I150 39 6 ∧ I150 39 6 ≤ 16777215 from gc_in hI150 R_39 rfl rfl)
      refine gv_get hD rfl rfl S_39 ⟨by decide, B_39⟩ (gc_hI S_39 rfl) ?_
      show gv_X _ _ (28, [(0, .inr (.inr (some 39)))], [.inl (I150 39 6), .inl 0, .inr (.inr (some 41))], sh, gc_h sh I150 J151 A)
      refine gv_iast hD rfl S_41 ⟨by decide, B_41⟩ ⟨by omega, by omega⟩ ?_
      refine gc_st (k := 0) hI150 S_41 rfl R_41 (lo := (-2147483648)) (hi := 2147483647) rfl rfl (by omega) (by omega) (fun I169 hI169 q170 p170 => ?_)
      have FI169 := gc_frs (W := fun q j => (q = 39 ∧ j = 3) ∨ (q = 39 ∧ j = 4) ∨ (q = 23 ∧ j = 5) ∨ (q = 23 ∧ j = 6) ∨ (q = 23 ∧ j = 7) ∨ (q = 23 ∧ j = 8) ∨ (q = 1 ∧ j = 17) ∨ (q = 1 ∧ j = 18) ∨ q = 20 ∨ (q = 39 ∧ j = 6) ∨ (q = 41 ∧ j = 0) ∨ (q = 41 ∧ j = 1) ∨ (q = 41 ∧ j = 2)) FI150 (Or.inr (Or.inr (Or.inr (Or.inr (Or.inr (Or.inr (Or.inr (Or.inr (Or.inr (Or.inr (Or.inl ⟨rfl, rfl⟩))))))))))) p170
      have t171 := p170 23 1 (fun h => absurd h.1 (by omega))
      have t172 := p170 23 5 (fun h => absurd h.1 (by omega))
      have t173 := p170 23 6 (fun h => absurd h.1 (by omega))
      have t174 := p170 23 7 (fun h => absurd h.1 (by omega))
      have t175 := p170 1 17 (fun h => absurd h.1 (by omega))
      have t176 := p170 41 1 (fun h => absurd h.2 (by decide))
      have t177 := p170 41 2 (fun h => absurd h.2 (by decide))
      have t178 := p170 39 2 (fun h => absurd h.1 (by omega))
      have f179 := (show 0 ≤ I169 23 1 ∧ I169 23 1 ≤ 1000 from gc_in hI169 R_23 rfl rfl)
      have f180 := (show 0 ≤ I169 23 5 ∧ I169 23 5 ≤ 1000 from gc_in hI169 R_23 rfl rfl)
      have f181 := (show 0 ≤ I169 23 6 ∧ I169 23 6 ≤ 1001 from gc_in hI169 R_23 rfl rfl)
      have f182 := (show 0 ≤ I169 23 7 ∧ I169 23 7 ≤ 125 from gc_in hI169 R_23 rfl rfl)
      have f183 := (show 0 ≤ I169 1 17 ∧ I169 1 17 ≤ 12000 from gc_in hI169 R_1 rfl rfl)
      have f184 := (show (-2147483648) ≤ I169 41 0 ∧ I169 41 0 ≤ 2147483647 from gc_in hI169 R_41 rfl rfl)
      have f185 := (show (-2147483648) ≤ I169 41 1 ∧ I169 41 1 ≤ 2147483647 from gc_in hI169 R_41 rfl rfl)
      have f186 := (show (-2147483648) ≤ I169 41 2 ∧ I169 41 2 ≤ 2147483647 from gc_in hI169 R_41 rfl rfl)
      have f187 := (show (-1) ≤ I169 39 2 ∧ I169 39 2 ≤ 999999 from gc_in hI169 R_39 rfl rfl)
      have KLT_I169 := gc_LT_fr KLT_I150 (p170 23 5 (fun h => absurd h.1 (by omega))) (p170 23 6 (fun h => absurd h.1 (by omega))) (p170 23 7 (fun h => absurd h.1 (by omega))) (fun k => p170 24 k (fun h => absurd h.1 (by omega)))
      show gv_X _ _ (29, [(0, .inr (.inr (some 39)))], [], sh, gc_h sh I169 J151 A)
      refine gv_run 1 true hD (pc' := 30) (lv' := [(0, .inr (.inr (some 39)))]) (st' := [.inr (.inr (some 39))]) (h' := gc_h sh I169 J151 A) (C := (True ∧ True)) rfl ⟨trivial, trivial⟩ ?_
      refine gv_get hD rfl rfl S_39 ⟨by decide, B_39⟩ (gc_hA S_39 rfl A_39_10) ?_
      show gv_X _ _ (33, [(0, .inr (.inr (some 39)))], [.inr (.inr (some 41))], sh, gc_h sh I169 J151 A)
      refine gv_run 2 true hD (pc' := 35) (lv' := [(0, .inr (.inr (some 39)))]) (st' := [.inr (.inr (some 39)), .inl 1, .inr (.inr (some 41))]) (h' := gc_h sh I169 J151 A) (C := ((True ∧ True) ∧ True)) rfl ⟨⟨trivial, trivial⟩, trivial⟩ ?_
      refine gv_get hD rfl rfl S_39 ⟨by decide, B_39⟩ (gc_hA S_39 rfl A_39_0) ?_
      show gv_X _ _ (38, [(0, .inr (.inr (some 39)))], [.inr (.inr (some 1)), .inl 1, .inr (.inr (some 41))], sh, gc_h sh I169 J151 A)
      have f188 := (show 0 ≤ I169 1 17 ∧ I169 1 17 ≤ 12000 from gc_in hI169 R_1 rfl rfl)
      refine gv_get hD rfl rfl S_1 ⟨by decide, B_1⟩ (gc_hI S_1 rfl) ?_
      show gv_X _ _ (41, [(0, .inr (.inr (some 39)))], [.inl (I169 1 17), .inl 1, .inr (.inr (some 41))], sh, gc_h sh I169 J151 A)
      refine gv_iast hD rfl S_41 ⟨by decide, B_41⟩ ⟨by omega, by omega⟩ ?_
      refine gc_st (k := 1) hI169 S_41 rfl R_41 (lo := (-2147483648)) (hi := 2147483647) rfl rfl (by omega) (by omega) (fun I189 hI189 q190 p190 => ?_)
      have FI189 := gc_frs (W := fun q j => (q = 39 ∧ j = 3) ∨ (q = 39 ∧ j = 4) ∨ (q = 23 ∧ j = 5) ∨ (q = 23 ∧ j = 6) ∨ (q = 23 ∧ j = 7) ∨ (q = 23 ∧ j = 8) ∨ (q = 1 ∧ j = 17) ∨ (q = 1 ∧ j = 18) ∨ q = 20 ∨ (q = 39 ∧ j = 6) ∨ (q = 41 ∧ j = 0) ∨ (q = 41 ∧ j = 1) ∨ (q = 41 ∧ j = 2)) FI169 (Or.inr (Or.inr (Or.inr (Or.inr (Or.inr (Or.inr (Or.inr (Or.inr (Or.inr (Or.inr (Or.inr (Or.inl ⟨rfl, rfl⟩)))))))))))) p190
      have t191 := p190 23 1 (fun h => absurd h.1 (by omega))
      have t192 := p190 23 5 (fun h => absurd h.1 (by omega))
      have t193 := p190 23 6 (fun h => absurd h.1 (by omega))
      have t194 := p190 23 7 (fun h => absurd h.1 (by omega))
      have t195 := p190 1 17 (fun h => absurd h.1 (by omega))
      have t196 := p190 41 0 (fun h => absurd h.2 (by decide))
      have t197 := p190 41 2 (fun h => absurd h.2 (by decide))
      have t198 := p190 39 2 (fun h => absurd h.1 (by omega))
      have f199 := (show 0 ≤ I189 23 1 ∧ I189 23 1 ≤ 1000 from gc_in hI189 R_23 rfl rfl)
      have f200 := (show 0 ≤ I189 23 5 ∧ I189 23 5 ≤ 1000 from gc_in hI189 R_23 rfl rfl)
      have f201 := (show 0 ≤ I189 23 6 ∧ I189 23 6 ≤ 1001 from gc_in hI189 R_23 rfl rfl)
      have f202 := (show 0 ≤ I189 23 7 ∧ I189 23 7 ≤ 125 from gc_in hI189 R_23 rfl rfl)
      have f203 := (show 0 ≤ I189 1 17 ∧ I189 1 17 ≤ 12000 from gc_in hI189 R_1 rfl rfl)
      have f204 := (show (-2147483648) ≤ I189 41 0 ∧ I189 41 0 ≤ 2147483647 from gc_in hI189 R_41 rfl rfl)
      have f205 := (show (-2147483648) ≤ I189 41 1 ∧ I189 41 1 ≤ 2147483647 from gc_in hI189 R_41 rfl rfl)
      have f206 := (show (-2147483648) ≤ I189 41 2 ∧ I189 41 2 ≤ 2147483647 from gc_in hI189 R_41 rfl rfl)
      have f207 := (show (-1) ≤ I189 39 2 ∧ I189 39 2 ≤ 999999 from gc_in hI189 R_39 rfl rfl)
      have KLT_I189 := gc_LT_fr KLT_I169 (p190 23 5 (fun h => absurd h.1 (by omega))) (p190 23 6 (fun h => absurd h.1 (by omega))) (p190 23 7 (fun h => absurd h.1 (by omega))) (fun k => p190 24 k (fun h => absurd h.1 (by omega)))
      show gv_X _ _ (42, [(0, .inr (.inr (some 39)))], [], sh, gc_h sh I189 J151 A)
      refine gv_run 1 true hD (pc' := 43) (lv' := [(0, .inr (.inr (some 39)))]) (st' := [.inr (.inr (some 39))]) (h' := gc_h sh I189 J151 A) (C := (True ∧ True)) rfl ⟨trivial, trivial⟩ ?_
      refine gv_get hD rfl rfl S_39 ⟨by decide, B_39⟩ (gc_hA S_39 rfl A_39_10) ?_
      show gv_X _ _ (46, [(0, .inr (.inr (some 39)))], [.inr (.inr (some 41))], sh, gc_h sh I189 J151 A)
      refine gv_run 2 true hD (pc' := 48) (lv' := [(0, .inr (.inr (some 39)))]) (st' := [.inl (-1), .inl 2, .inr (.inr (some 41))]) (h' := gc_h sh I189 J151 A) (C := ((True ∧ True) ∧ True)) rfl ⟨⟨trivial, trivial⟩, trivial⟩ ?_
      refine gv_iast hD rfl S_41 ⟨by decide, B_41⟩ ⟨by omega, by omega⟩ ?_
      refine gc_st (k := 2) hI189 S_41 rfl R_41 (lo := (-2147483648)) (hi := 2147483647) rfl rfl (by omega) (by omega) (fun I208 hI208 q209 p209 => ?_)
      have FI208 := gc_frs (W := fun q j => (q = 39 ∧ j = 3) ∨ (q = 39 ∧ j = 4) ∨ (q = 23 ∧ j = 5) ∨ (q = 23 ∧ j = 6) ∨ (q = 23 ∧ j = 7) ∨ (q = 23 ∧ j = 8) ∨ (q = 1 ∧ j = 17) ∨ (q = 1 ∧ j = 18) ∨ q = 20 ∨ (q = 39 ∧ j = 6) ∨ (q = 41 ∧ j = 0) ∨ (q = 41 ∧ j = 1) ∨ (q = 41 ∧ j = 2)) FI189 (Or.inr (Or.inr (Or.inr (Or.inr (Or.inr (Or.inr (Or.inr (Or.inr (Or.inr (Or.inr (Or.inr (Or.inr ⟨rfl, rfl⟩)))))))))))) p209
      have t210 := p209 23 1 (fun h => absurd h.1 (by omega))
      have t211 := p209 23 5 (fun h => absurd h.1 (by omega))
      have t212 := p209 23 6 (fun h => absurd h.1 (by omega))
      have t213 := p209 23 7 (fun h => absurd h.1 (by omega))
      have t214 := p209 1 17 (fun h => absurd h.1 (by omega))
      have t215 := p209 41 0 (fun h => absurd h.2 (by decide))
      have t216 := p209 41 1 (fun h => absurd h.2 (by decide))
      have t217 := p209 39 2 (fun h => absurd h.1 (by omega))
      have f218 := (show 0 ≤ I208 23 1 ∧ I208 23 1 ≤ 1000 from gc_in hI208 R_23 rfl rfl)
      have f219 := (show 0 ≤ I208 23 5 ∧ I208 23 5 ≤ 1000 from gc_in hI208 R_23 rfl rfl)
      have f220 := (show 0 ≤ I208 23 6 ∧ I208 23 6 ≤ 1001 from gc_in hI208 R_23 rfl rfl)
      have f221 := (show 0 ≤ I208 23 7 ∧ I208 23 7 ≤ 125 from gc_in hI208 R_23 rfl rfl)
      have f222 := (show 0 ≤ I208 1 17 ∧ I208 1 17 ≤ 12000 from gc_in hI208 R_1 rfl rfl)
      have f223 := (show (-2147483648) ≤ I208 41 0 ∧ I208 41 0 ≤ 2147483647 from gc_in hI208 R_41 rfl rfl)
      have f224 := (show (-2147483648) ≤ I208 41 1 ∧ I208 41 1 ≤ 2147483647 from gc_in hI208 R_41 rfl rfl)
      have f225 := (show (-2147483648) ≤ I208 41 2 ∧ I208 41 2 ≤ 2147483647 from gc_in hI208 R_41 rfl rfl)
      have f226 := (show (-1) ≤ I208 39 2 ∧ I208 39 2 ≤ 999999 from gc_in hI208 R_39 rfl rfl)
      have KLT_I208 := gc_LT_fr KLT_I189 (p209 23 5 (fun h => absurd h.1 (by omega))) (p209 23 6 (fun h => absurd h.1 (by omega))) (p209 23 7 (fun h => absurd h.1 (by omega))) (fun k => p209 24 k (fun h => absurd h.1 (by omega)))
      show gv_X _ _ (49, [(0, .inr (.inr (some 39)))], [], sh, gc_h sh I208 J151 A)
      refine gv_run 1 true hD (pc' := 50) (lv' := [(0, .inr (.inr (some 39)))]) (st' := [.inr (.inr (some 39))]) (h' := gc_h sh I208 J151 A) (C := (True ∧ True)) rfl ⟨trivial, trivial⟩ ?_
      refine gv_get hD rfl rfl S_39 ⟨by decide, B_39⟩ (gc_hA S_39 rfl A_39_1) ?_
      show gv_X _ _ (53, [(0, .inr (.inr (some 39)))], [.inr (.inr (some 23))], sh, gc_h sh I208 J151 A)
      have f227 := (show 0 ≤ I208 23 7 ∧ I208 23 7 ≤ 125 from gc_in hI208 R_23 rfl rfl)
      refine gv_get hD rfl rfl S_23 ⟨by decide, B_23⟩ (gc_hI S_23 rfl) ?_
      show gv_X _ _ (56, [(0, .inr (.inr (some 39)))], [.inl (I208 23 7)], sh, gc_h sh I208 J151 A)
      refine gv_run 1 true hD (pc' := 58) (lv' := [(0, .inr (.inr (some 39)))]) (st' := [.inl 45, .inl (I208 23 7)]) (h' := gc_h sh I208 J151 A) (C := (True ∧ True)) rfl ⟨trivial, trivial⟩ ?_
      refine gv_icmp_ne (t := 70) hD rfl rfl ⟨⟨by omega, by omega⟩, ⟨by omega, by omega⟩⟩ (fun c228 => ?_) (fun c228 => ?_)
      · show gv_X _ _ (70, [(0, .inr (.inr (some 39)))], [], sh, gc_h sh I208 J151 A)
        refine gv_run 4 true hD (pc' := 74) (lv' := [(2, .inl 0), (1, .inl 1), (0, .inr (.inr (some 39)))]) (st' := []) (h' := gc_h sh I208 J151 A) (C := ((((True ∧ True) ∧ True) ∧ True) ∧ True)) rfl ⟨⟨⟨⟨trivial, trivial⟩, trivial⟩, trivial⟩, trivial⟩ ?_
        refine gv_pick [2, 1, 0] rfl ?_
        exact L74 _ I208 J151 1 0 (Nat.lt_succ_self _) hI208 FI208 FJ151 KLT_I208 (by omega)
      · show gv_X _ _ (61, [(0, .inr (.inr (some 39)))], [], sh, gc_h sh I208 J151 A)
        refine gv_run 1 true hD (pc' := 62) (lv' := [(0, .inr (.inr (some 39)))]) (st' := [.inr (.inr (some 39))]) (h' := gc_h sh I208 J151 A) (C := (True ∧ True)) rfl ⟨trivial, trivial⟩ ?_
        refine gv_get hD rfl rfl S_39 ⟨by decide, B_39⟩ (gc_hA S_39 rfl A_39_1) ?_
        show gv_X _ _ (65, [(0, .inr (.inr (some 39)))], [.inr (.inr (some 23))], sh, gc_h sh I208 J151 A)
        obtain ⟨r229, h229, E229, P229⟩ := d_X9_advance (ws0 := ws0) (tb := tb) hws htb sh ro I208 J151 A hI208 23  (gc_b23 hb)    (by omega) 
        obtain ⟨I230, J231, rfl, hI230, g229, k229, ⟨rfl, q229⟩⟩ := P229
        have FI230 := gc_frc (W := fun q j => (q = 39 ∧ j = 3) ∨ (q = 39 ∧ j = 4) ∨ (q = 23 ∧ j = 5) ∨ (q = 23 ∧ j = 6) ∨ (q = 23 ∧ j = 7) ∨ (q = 23 ∧ j = 8) ∨ (q = 1 ∧ j = 17) ∨ (q = 1 ∧ j = 18) ∨ q = 20 ∨ (q = 39 ∧ j = 6) ∨ (q = 41 ∧ j = 0) ∨ (q = 41 ∧ j = 1) ∨ (q = 41 ∧ j = 2)) (V := fun q j => (q = 23 ∧ j = 5) ∨ (q = 23 ∧ j = 6) ∨ (q = 23 ∧ j = 7) ∨ (q = 23 ∧ j = 8)) FI208 (fun q j h => (h.elim (fun h => (Or.inr (Or.inr (Or.inl h)))) (fun h => (h.elim (fun h => (Or.inr (Or.inr (Or.inr (Or.inl h))))) (fun h => (h.elim (fun h => (Or.inr (Or.inr (Or.inr (Or.inr (Or.inl h)))))) (fun h => (Or.inr (Or.inr (Or.inr (Or.inr (Or.inr (Or.inl h))))))))))))) g229
        have FJ231 := gc_frc (W := fun q j => (q = 23 ∧ j = 9)) (V := fun q j => (q = 23 ∧ j = 9)) FJ151 (fun q j h => h) k229
        have t232 := (g229 23 1).resolve_left (by omega)
        have t233 := (g229 1 17).resolve_left (by omega)
        have t234 := (g229 41 0).resolve_left (by omega)
        have t235 := (g229 41 1).resolve_left (by omega)
        have t236 := (g229 41 2).resolve_left (by omega)
        have t237 := (g229 39 2).resolve_left (by omega)
        have f238 := (show 0 ≤ I230 23 1 ∧ I230 23 1 ≤ 1000 from gc_in hI230 R_23 rfl rfl)
        have f239 := (show 0 ≤ I230 23 5 ∧ I230 23 5 ≤ 1000 from gc_in hI230 R_23 rfl rfl)
        have f240 := (show 0 ≤ I230 23 6 ∧ I230 23 6 ≤ 1001 from gc_in hI230 R_23 rfl rfl)
        have f241 := (show 0 ≤ I230 23 7 ∧ I230 23 7 ≤ 125 from gc_in hI230 R_23 rfl rfl)
        have f242 := (show 0 ≤ I230 1 17 ∧ I230 1 17 ≤ 12000 from gc_in hI230 R_1 rfl rfl)
        have f243 := (show (-2147483648) ≤ I230 41 0 ∧ I230 41 0 ≤ 2147483647 from gc_in hI230 R_41 rfl rfl)
        have f244 := (show (-2147483648) ≤ I230 41 1 ∧ I230 41 1 ≤ 2147483647 from gc_in hI230 R_41 rfl rfl)
        have f245 := (show (-2147483648) ≤ I230 41 2 ∧ I230 41 2 ≤ 2147483647 from gc_in hI230 R_41 rfl rfl)
        have f246 := (show (-1) ≤ I230 39 2 ∧ I230 39 2 ≤ 999999 from gc_in hI230 R_39 rfl rfl)
        have KLT_I230 : gc_LT I230 := q229.2.2.2.2.2.2.2
        refine gv_callV hD rfl (As := []) (st := []) rfl B_23 S_23 rfl (gc_lV6 hws rfl) (Nat.le_of_ble_eq_true rfl) (gz_Ev_mono (d := 2) (by decide) E229) ?_
        show gv_X _ _ (68, [(0, .inr (.inr (some 39)))], [], sh, gc_h sh I230 J231 A)
        refine gv_run 1 true hD (pc' := 69) (lv' := [(0, .inr (.inr (some 39)))]) (st' := [.inl 1]) (h' := gc_h sh I230 J231 A) (C := (True ∧ True)) rfl ⟨trivial, trivial⟩ ?_
        exact gv_zret hD rfl (by omega) ⟨I230, J231, rfl, hI230, FI230, FJ231, KLT_I230, ⟨_, rfl, by omega⟩⟩
    · show gv_X _ _ (17, [(0, .inr (.inr (some 39)))], [], sh, gc_h sh I150 J151 A)
      refine gv_pick [] rfl ?_
      exact L17 I150 J151 hI150 FI150 FJ151 KLT_I150 (by omega)
