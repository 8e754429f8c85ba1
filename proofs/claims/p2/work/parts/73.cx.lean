def gc_CT (p : Nat) (I : gr_I) : Prop := I p 8 = gc_c1 (I (p + 6) 0) + gc_c1 (I (p + 6) 1) + gc_c1 (I (p + 6) 2) + gc_c1 (I (p + 6) 3)
theorem gc_CT_fr {p : Nat} {I I' : gr_I} (h : gc_CT p I) (h8 : I' p 8 = I p 8) (hf : ∀ k, I' (p + 6) k = I (p + 6) k) : gc_CT p I' := by
  unfold gc_CT at h ⊢
  rw [hf, hf, hf, hf, h8]
  exact h
theorem gc_CT_lt {p : Nat} {I : gr_I} {a : Int} (h : gc_CT p I) (ha : 0 ≤ a ∧ a ≤ 3) (hz : I (p + 6) (Int.toNat a) < 0) : I p 8 ≤ 3 := by
  unfold gc_CT at h
  have h0 := gc_c1r (I (p + 6) 0)
  have h1 := gc_c1r (I (p + 6) 1)
  have h2 := gc_c1r (I (p + 6) 2)
  have h3 := gc_c1r (I (p + 6) 3)
  have h9 := gc_c1n hz
  rcases (show Int.toNat a = 0 ∨ Int.toNat a = 1 ∨ Int.toNat a = 2 ∨ Int.toNat a = 3 from by omega) with e | e | e | e <;> rw [e] at h9 <;> omega
theorem gc_CT_push {p : Nat} {I I' : gr_I} {a : Int} (h : gc_CT p I) (ha : 0 ≤ a ∧ a ≤ 3) (hz : I (p + 6) (Int.toNat a) < 0) (hz' : 0 ≤ I' (p + 6) (Int.toNat a)) (hs : I' p 8 = I p 8 + 1) (hf : ∀ k, ¬ k = Int.toNat a → I' (p + 6) k = I (p + 6) k) : gc_CT p I' := by
  unfold gc_CT at h ⊢
  have h9 := gc_c1n hz
  have h8 := gc_c1p hz'
  rcases (show Int.toNat a = 0 ∨ Int.toNat a = 1 ∨ Int.toNat a = 2 ∨ Int.toNat a = 3 from by omega) with e | e | e | e
  · rw [hf 1 (by omega), hf 2 (by omega), hf 3 (by omega)]
    rw [e] at h8 h9
    omega
  · rw [hf 0 (by omega), hf 2 (by omega), hf 3 (by omega)]
    rw [e] at h8 h9
    omega
  · rw [hf 0 (by omega), hf 1 (by omega), hf 3 (by omega)]
    rw [e] at h8 h9
    omega
  · rw [hf 0 (by omega), hf 1 (by omega), hf 2 (by omega)]
    rw [e] at h8 h9
    omega
set_option maxHeartbeats 4000000 in
set_option maxRecDepth 100000 in
theorem d_X6_needArgument {ws0 : List Cond} {tb : String → gz_T} (hws : gc_Ws ws0) (htb : gc_tbs tb) (sh : gz_Sh) (ro : Nat → Nat) (I : gr_I) (J : gr_J) (A : gc_A) (hI : gc_Inv ro I) (a1 : Nat) (hb : gc_Base sh ro A) (h_a1 : gc_isLin sh ro A a1) (G_a1 : 144 ≤ a1)   : ∃ r h', gz_Ev ws0 tb 3 (yX6_needArgument, cX6_needArgument, 3, (some .boolean)) [.inr (.inr (some 39)), .inr (.inr (some a1))] sh (gc_h sh I J A) r sh h' 0 0 ∧ (∃ (I' : gr_I) (J' : gr_J), h' = gc_h sh I' J' A ∧ gc_Inv ro I' ∧ (∀ q j : Nat, ((q = 39 ∧ j = 3) ∨ (q = 39 ∧ j = 4)) ∨ I' q j = I q j) ∧ (∀ q j : Nat, (False) ∨ J' q j = J q j) ∧ (∃ z : Int, r = some (.inl z) ∧ 0 ≤ z ∧ z ≤ 1 ∧ (z = 0 ∨ (I 23 7 = 2 ∧ (1 ≤ I' 23 8 ∧ I' 23 8 ≤ 4 ∧ 0 ≤ I' (a1 + 6) (Int.toNat ((I' 23 8) - 1))))))) := by
  have FI : ∀ q j : Nat, ((q = 39 ∧ j = 3) ∨ (q = 39 ∧ j = 4)) ∨ I q j = I q j := fun _ _ => Or.inr rfl
  have FJ : ∀ q j : Nat, (False) ∨ J q j = J q j := fun _ _ => Or.inr rfl
  have A_39_1 : A 39 1 = some 23 := gc_bA hb rfl
  have B_23 : 23 < 1000000 := by decide
  have B_39 : 39 < 1000000 := by decide
  have R_23 : ro 23 = 3 := gc_bR hb (by decide) rfl
  have S_23 : sh[23]? = some (false, 9, 10) := gc_bS hb rfl
  have S_39 : sh[39]? = some (false, 6, 19) := gc_bS hb rfl
  obtain ⟨S_a1, R_a1, B_a1, A_a1_5, S_a1_1, R_a1_1, B_a1_1, A_a1_6, S_a1_2, R_a1_2, B_a1_2, A_a1_7, S_a1_3, R_a1_3, B_a1_3, A_a1_9, S_a1_4, R_a1_4, B_a1_4, A_a1_10, S_a1_5, R_a1_5, B_a1_5, A_a1_11, S_a1_6, R_a1_6, B_a1_6, A_a1_13, S_a1_7, R_a1_7, B_a1_7, A_a1_15, S_a1_8, R_a1_8, B_a1_8⟩ := id h_a1
  have hD : gv_D (gc_E6 ws0 tb 2 (yX6_needArgument, cX6_needArgument, 3, (some .boolean)) kX6_needArgument) := gq_ok oX6_needArgument
  refine gc_ev6 (d := 2) (l := kX6_needArgument) (Po := fun r h' => (∃ (I' : gr_I) (J' : gr_J), h' = gc_h sh I' J' A ∧ gc_Inv ro I' ∧ (∀ q j : Nat, ((q = 39 ∧ j = 3) ∨ (q = 39 ∧ j = 4)) ∨ I' q j = I q j) ∧ (∀ q j : Nat, (False) ∨ J' q j = J q j) ∧ (∃ z : Int, r = some (.inl z) ∧ 0 ≤ z ∧ z ≤ 1 ∧ (z = 0 ∨ (I 23 7 = 2 ∧ (1 ≤ I' 23 8 ∧ I' 23 8 ≤ 4 ∧ 0 ≤ I' (a1 + 6) (Int.toNat ((I' 23 8) - 1)))))))) htb rfl (Nat.le_of_ble_eq_true rfl) ?_
  have f1 := (show 0 ≤ I 23 5 ∧ I 23 5 ≤ 1000 from gc_in hI R_23 rfl rfl)
  have f2 := (show 0 ≤ I 23 7 ∧ I 23 7 ≤ 125 from gc_in hI R_23 rfl rfl)
  have f3 := (show 0 ≤ I 23 8 ∧ I 23 8 ≤ 999999 from gc_in hI R_23 rfl rfl)
  have L58 : ∀ (I4 : gr_I) (J5 : gr_J) (s0_6 : Int), gc_Inv ro I4 → (∀ q j : Nat, ((q = 39 ∧ j = 3) ∨ (q = 39 ∧ j = 4)) ∨ I4 q j = I q j) → (∀ q j : Nat, (False) ∨ J5 q j = J q j) → ((0 ≤ s0_6 ∧ s0_6 ≤ 1) ∧ (s0_6 = 0 ∨ (I 23 7 = 2 ∧ (1 ≤ I4 23 8 ∧ I4 23 8 ≤ 4 ∧ 0 ≤ I4 (a1 + 6) (Int.toNat ((I4 23 8) - 1)))))) → gv_X (gc_E6 ws0 tb 2 (yX6_needArgument, cX6_needArgument, 3, (some .boolean)) kX6_needArgument) (gv_Q cX6_needArgument (some .boolean) sh (fun r h' => (∃ (I' : gr_I) (J' : gr_J), h' = gc_h sh I' J' A ∧ gc_Inv ro I' ∧ (∀ q j : Nat, ((q = 39 ∧ j = 3) ∨ (q = 39 ∧ j = 4)) ∨ I' q j = I q j) ∧ (∀ q j : Nat, (False) ∨ J' q j = J q j) ∧ (∃ z : Int, r = some (.inl z) ∧ 0 ≤ z ∧ z ≤ 1 ∧ (z = 0 ∨ (I 23 7 = 2 ∧ (1 ≤ I' 23 8 ∧ I' 23 8 ≤ 4 ∧ 0 ≤ I' (a1 + 6) (Int.toNat ((I' 23 8) - 1))))))))) (58, [], [.inl s0_6], sh, gc_h sh I4 J5 A) := by
    intro I4 J5 s0_6 hI4 FI4 FJ5 m_6
    obtain ⟨hs0_6, e0_6⟩ := m_6
    have f7 := (show 0 ≤ I4 23 5 ∧ I4 23 5 ≤ 1000 from gc_in hI4 R_23 rfl rfl)
    have f8 := (show 0 ≤ I4 23 7 ∧ I4 23 7 ≤ 125 from gc_in hI4 R_23 rfl rfl)
    have f9 := (show 0 ≤ I4 23 8 ∧ I4 23 8 ≤ 999999 from gc_in hI4 R_23 rfl rfl)
    exact gv_zret hD rfl (by omega) ⟨I4, J5, rfl, hI4, FI4, FJ5, ⟨_, rfl, by omega⟩⟩
  have L53 : ∀ (I10 : gr_I) (J11 : gr_J) , gc_Inv ro I10 → (∀ q j : Nat, ((q = 39 ∧ j = 3) ∨ (q = 39 ∧ j = 4)) ∨ I10 q j = I q j) → (∀ q j : Nat, (False) ∨ J11 q j = J q j) → ((I 23 7 = 2) ∧ ((1 ≤ I10 23 8 ∧ I10 23 8 ≤ 4 ∧ 0 ≤ I10 (a1 + 6) (Int.toNat ((I10 23 8) - 1))))) → gv_X (gc_E6 ws0 tb 2 (yX6_needArgument, cX6_needArgument, 3, (some .boolean)) kX6_needArgument) (gv_Q cX6_needArgument (some .boolean) sh (fun r h' => (∃ (I' : gr_I) (J' : gr_J), h' = gc_h sh I' J' A ∧ gc_Inv ro I' ∧ (∀ q j : Nat, ((q = 39 ∧ j = 3) ∨ (q = 39 ∧ j = 4)) ∨ I' q j = I q j) ∧ (∀ q j : Nat, (False) ∨ J' q j = J q j) ∧ (∃ z : Int, r = some (.inl z) ∧ 0 ≤ z ∧ z ≤ 1 ∧ (z = 0 ∨ (I 23 7 = 2 ∧ (1 ≤ I' 23 8 ∧ I' 23 8 ≤ 4 ∧ 0 ≤ I' (a1 + 6) (Int.toNat ((I' 23 8) - 1))))))))) (53, [], [], sh, gc_h sh I10 J11 A) := by
    intro I10 J11 hI10 FI10 FJ11 m_12
    obtain ⟨e0_12, e1_12⟩ := m_12
    have f13 := (show 0 ≤ I10 23 5 ∧ I10 23 5 ≤ 1000 from gc_in hI10 R_23 rfl rfl)
    have f14 := (show 0 ≤ I10 23 7 ∧ I10 23 7 ≤ 125 from gc_in hI10 R_23 rfl rfl)
    have f15 := (show 0 ≤ I10 23 8 ∧ I10 23 8 ≤ 999999 from gc_in hI10 R_23 rfl rfl)
    refine gv_run 2 true hD (pc' := 58) (lv' := []) (st' := [.inl 1]) (h' := gc_h sh I10 J11 A) (C := ((True ∧ True) ∧ True)) rfl ⟨⟨trivial, trivial⟩, trivial⟩ ?_
    exact L58 I10 J11 1 hI10 FI10 FJ11 (by omega)
  have L38 : ∀ (I16 : gr_I) (J17 : gr_J) , gc_Inv ro I16 → (∀ q j : Nat, ((q = 39 ∧ j = 3) ∨ (q = 39 ∧ j = 4)) ∨ I16 q j = I q j) → (∀ q j : Nat, (False) ∨ J17 q j = J q j) → gv_X (gc_E6 ws0 tb 2 (yX6_needArgument, cX6_needArgument, 3, (some .boolean)) kX6_needArgument) (gv_Q cX6_needArgument (some .boolean) sh (fun r h' => (∃ (I' : gr_I) (J' : gr_J), h' = gc_h sh I' J' A ∧ gc_Inv ro I' ∧ (∀ q j : Nat, ((q = 39 ∧ j = 3) ∨ (q = 39 ∧ j = 4)) ∨ I' q j = I q j) ∧ (∀ q j : Nat, (False) ∨ J' q j = J q j) ∧ (∃ z : Int, r = some (.inl z) ∧ 0 ≤ z ∧ z ≤ 1 ∧ (z = 0 ∨ (I 23 7 = 2 ∧ (1 ≤ I' 23 8 ∧ I' 23 8 ≤ 4 ∧ 0 ≤ I' (a1 + 6) (Int.toNat ((I' 23 8) - 1))))))))) (38, [(0, .inr (.inr (some 39)))], [], sh, gc_h sh I16 J17 A) := by
    intro I16 J17 hI16 FI16 FJ17
    have f19 := (show 0 ≤ I16 23 5 ∧ I16 23 5 ≤ 1000 from gc_in hI16 R_23 rfl rfl)
    have f20 := (show 0 ≤ I16 23 7 ∧ I16 23 7 ≤ 125 from gc_in hI16 R_23 rfl rfl)
    have f21 := (show 0 ≤ I16 23 8 ∧ I16 23 8 ≤ 999999 from gc_in hI16 R_23 rfl rfl)
    refine gv_run 3 true hD (pc' := 41) (lv' := [(0, .inr (.inr (some 39)))]) (st' := [.inr (.inr (some 39)), .inl 5, .inr (.inr (some 39))]) (h' := gc_h sh I16 J17 A) (C := (((True ∧ True) ∧ True) ∧ True)) rfl ⟨⟨⟨trivial, trivial⟩, trivial⟩, trivial⟩ ?_
    refine gv_get hD rfl rfl S_39 ⟨by decide, B_39⟩ (gc_hA S_39 rfl A_39_1) ?_
    show gv_X _ _ (44, [(0, .inr (.inr (some 39)))], [.inr (.inr (some 23)), .inl 5, .inr (.inr (some 39))], sh, gc_h sh I16 J17 A)
    have f22 := (show 0 ≤ I16 23 5 ∧ I16 23 5 ≤ 1000 from gc_in hI16 R_23 rfl rfl)
    refine gv_get hD rfl rfl S_23 ⟨by decide, B_23⟩ (gc_hI S_23 rfl) ?_
    show gv_X _ _ (47, [(0, .inr (.inr (some 39)))], [.inl (I16 23 5), .inl 5, .inr (.inr (some 39))], sh, gc_h sh I16 J17 A)
    obtain ⟨r23, h23, E23, P23⟩ := d_X6_wrong (ws0 := ws0) (tb := tb) hws htb sh ro I16 J17 A hI16  5 (I16 23 5) hb   ⟨by omega, by omega⟩ ⟨by omega, by omega⟩  
    obtain ⟨I24, J25, rfl, hI24, g23, k23, ⟨z23, rfl, q23⟩⟩ := P23
    have FI24 := gc_frc (W := fun q j => (q = 39 ∧ j = 3) ∨ (q = 39 ∧ j = 4)) (V := fun q j => (q = 39 ∧ j = 3) ∨ (q = 39 ∧ j = 4)) FI16 (fun q j h => (h.elim (fun h => (Or.inl h)) (fun h => (Or.inr h)))) g23
    have t26 := (g23 23 5).resolve_left (by omega)
    have t27 := (g23 23 7).resolve_left (by omega)
    have t28 := (g23 23 8).resolve_left (by omega)
    have f29 := (show 0 ≤ I24 23 5 ∧ I24 23 5 ≤ 1000 from gc_in hI24 R_23 rfl rfl)
    have f30 := (show 0 ≤ I24 23 7 ∧ I24 23 7 ≤ 125 from gc_in hI24 R_23 rfl rfl)
    have f31 := (show 0 ≤ I24 23 8 ∧ I24 23 8 ≤ 999999 from gc_in hI24 R_23 rfl rfl)
    obtain rfl : J17 = J25 := funext fun q => funext fun j => ((k23 q j).resolve_left id).symm
    refine gv_callV hD rfl (As := [.inl 5, .inl (I16 23 5)]) (st := []) rfl B_39 S_39 rfl (gc_lV6 hws rfl) (Nat.le_of_ble_eq_true rfl) (gz_Ev_mono (d := 1) (by decide) E23) ?_
    show gv_X _ _ (50, [(0, .inr (.inr (some 39)))], [.inl z23], sh, gc_h sh I24 J17 A)
    refine gv_if_eq (t := 57) hD rfl rfl ⟨by omega, by omega⟩ (fun c32 => ?_) (fun c32 => ?_)
    · show gv_X _ _ (57, [(0, .inr (.inr (some 39)))], [], sh, gc_h sh I24 J17 A)
      refine gv_run 1 true hD (pc' := 58) (lv' := [(0, .inr (.inr (some 39)))]) (st' := [.inl 0]) (h' := gc_h sh I24 J17 A) (C := (True ∧ True)) rfl ⟨trivial, trivial⟩ ?_
      refine gv_pick [] rfl ?_
      exact L58 I24 J17 0 hI24 FI24 FJ17 (by omega)
    · show gv_X _ _ (53, [(0, .inr (.inr (some 39)))], [], sh, gc_h sh I24 J17 A)
      refine gv_pick [] rfl ?_
      exact L53 I24 J17 hI24 FI24 FJ17 (by omega)
  refine gv_run 2 true hD (pc' := 2) (lv' := [(0, .inr (.inr (some 39))), (1, .inr (.inr (some a1)))]) (st' := [.inl 2, .inr (.inr (some 39))]) (h' := gc_h sh I J A) (C := ((True ∧ True) ∧ True)) rfl ⟨⟨trivial, trivial⟩, trivial⟩ ?_
  obtain ⟨r33, h33, E33, P33⟩ := d_X6_need (ws0 := ws0) (tb := tb) hws htb sh ro I J A hI  2 hb   ⟨by omega, by omega⟩  
  obtain ⟨I34, J35, rfl, hI34, g33, k33, ⟨z33, rfl, q33⟩⟩ := P33
  have FI34 := gc_frc (W := fun q j => (q = 39 ∧ j = 3) ∨ (q = 39 ∧ j = 4)) (V := fun q j => (q = 39 ∧ j = 3) ∨ (q = 39 ∧ j = 4)) FI (fun q j h => (h.elim (fun h => (Or.inl h)) (fun h => (Or.inr h)))) g33
  have t36 := (g33 23 5).resolve_left (by omega)
  have t37 := (g33 23 7).resolve_left (by omega)
  have t38 := (g33 23 8).resolve_left (by omega)
  have f39 := (show 0 ≤ I34 23 5 ∧ I34 23 5 ≤ 1000 from gc_in hI34 R_23 rfl rfl)
  have f40 := (show 0 ≤ I34 23 7 ∧ I34 23 7 ≤ 125 from gc_in hI34 R_23 rfl rfl)
  have f41 := (show 0 ≤ I34 23 8 ∧ I34 23 8 ≤ 999999 from gc_in hI34 R_23 rfl rfl)
  obtain rfl : J = J35 := funext fun q => funext fun j => ((k33 q j).resolve_left id).symm
  refine gv_callV hD rfl (As := [.inl 2]) (st := []) rfl B_39 S_39 rfl (gc_lV6 hws rfl) (Nat.le_of_ble_eq_true rfl) (gz_Ev_mono (d := 2) (by decide) E33) ?_
  show gv_X _ _ (5, [(0, .inr (.inr (some 39))), (1, .inr (.inr (some a1)))], [.inl z33], sh, gc_h sh I34 J A)
  refine gv_if_ne (t := 10) hD rfl rfl ⟨by omega, by omega⟩ (fun c42 => ?_) (fun c42 => ?_)
  · show gv_X _ _ (10, [(0, .inr (.inr (some 39))), (1, .inr (.inr (some a1)))], [], sh, gc_h sh I34 J A)
    refine gv_run 1 true hD (pc' := 11) (lv' := [(0, .inr (.inr (some 39))), (1, .inr (.inr (some a1)))]) (st' := [.inr (.inr (some 39))]) (h' := gc_h sh I34 J A) (C := (True ∧ True)) rfl ⟨trivial, trivial⟩ ?_
    refine gv_get hD rfl rfl S_39 ⟨by decide, B_39⟩ (gc_hA S_39 rfl A_39_1) ?_
    show gv_X _ _ (14, [(0, .inr (.inr (some 39))), (1, .inr (.inr (some a1)))], [.inr (.inr (some 23))], sh, gc_h sh I34 J A)
    have f43 := (show 0 ≤ I34 23 8 ∧ I34 23 8 ≤ 999999 from gc_in hI34 R_23 rfl rfl)
    refine gv_get hD rfl rfl S_23 ⟨by decide, B_23⟩ (gc_hI S_23 rfl) ?_
    show gv_X _ _ (17, [(0, .inr (.inr (some 39))), (1, .inr (.inr (some a1)))], [.inl (I34 23 8)], sh, gc_h sh I34 J A)
    refine gv_run 4 true hD (pc' := 21) (lv' := [(2, .inl ((I34 23 8) - 1)), (0, .inr (.inr (some 39))), (1, .inr (.inr (some a1)))]) (st' := [.inl ((I34 23 8) - 1)]) (h' := gc_h sh I34 J A) (C := ((((True ∧ True) ∧ True) ∧ True) ∧ True)) rfl ⟨⟨⟨⟨trivial, trivial⟩, trivial⟩, trivial⟩, trivial⟩ ?_
    refine gv_if_lt (t := 38) hD rfl rfl ⟨by omega, by omega⟩ (fun c44 => ?_) (fun c44 => ?_)
    · show gv_X _ _ (38, [(2, .inl ((I34 23 8) - 1)), (0, .inr (.inr (some 39))), (1, .inr (.inr (some a1)))], [], sh, gc_h sh I34 J A)
      refine gv_pick [1] rfl ?_
      exact L38 I34 J hI34 FI34 FJ
    · show gv_X _ _ (24, [(2, .inl ((I34 23 8) - 1)), (0, .inr (.inr (some 39))), (1, .inr (.inr (some a1)))], [], sh, gc_h sh I34 J A)
      refine gv_run 2 true hD (pc' := 26) (lv' := [(2, .inl ((I34 23 8) - 1)), (0, .inr (.inr (some 39))), (1, .inr (.inr (some a1)))]) (st' := [.inl 4, .inl ((I34 23 8) - 1)]) (h' := gc_h sh I34 J A) (C := ((True ∧ True) ∧ True)) rfl ⟨⟨trivial, trivial⟩, trivial⟩ ?_
      refine gv_icmp_ge (t := 38) hD rfl rfl ⟨⟨by omega, by omega⟩, ⟨by omega, by omega⟩⟩ (fun c45 => ?_) (fun c45 => ?_)
      · show gv_X _ _ (38, [(2, .inl ((I34 23 8) - 1)), (0, .inr (.inr (some 39))), (1, .inr (.inr (some a1)))], [], sh, gc_h sh I34 J A)
        refine gv_pick [1] rfl ?_
        exact L38 I34 J hI34 FI34 FJ
      · show gv_X _ _ (29, [(2, .inl ((I34 23 8) - 1)), (0, .inr (.inr (some 39))), (1, .inr (.inr (some a1)))], [], sh, gc_h sh I34 J A)
        refine gv_run 1 true hD (pc' := 30) (lv' := [(2, .inl ((I34 23 8) - 1)), (0, .inr (.inr (some 39))), (1, .inr (.inr (some a1)))]) (st' := [.inr (.inr (some a1))]) (h' := gc_h sh I34 J A) (C := (True ∧ True)) rfl ⟨trivial, trivial⟩ ?_
        refine gv_get hD rfl rfl S_a1 ⟨by decide, B_a1⟩ (gc_hA S_a1 rfl A_a1_11) ?_
        show gv_X _ _ (33, [(2, .inl ((I34 23 8) - 1)), (0, .inr (.inr (some 39))), (1, .inr (.inr (some a1)))], [.inr (.inr (some (a1 + 6)))], sh, gc_h sh I34 J A)
        refine gv_run 1 true hD (pc' := 34) (lv' := [(2, .inl ((I34 23 8) - 1)), (0, .inr (.inr (some 39))), (1, .inr (.inr (some a1)))]) (st' := [.inl ((I34 23 8) - 1), .inr (.inr (some (a1 + 6)))]) (h' := gc_h sh I34 J A) (C := (True ∧ True)) rfl ⟨trivial, trivial⟩ ?_
        have f46 := (show (-1) ≤ I34 (a1 + 6) (Int.toNat (((I34 23 8) - 1))) ∧ I34 (a1 + 6) (Int.toNat (((I34 23 8) - 1))) ≤ 3 from gc_in hI34 R_a1_6 rfl rfl)
        refine gv_iald hD rfl S_a1_6 rfl ⟨by decide, B_a1_6⟩ ⟨by omega, by omega⟩ (gc_iI S_a1_6 rfl) ?_
        show gv_X _ _ (35, [(2, .inl ((I34 23 8) - 1)), (0, .inr (.inr (some 39))), (1, .inr (.inr (some a1)))], [.inl (I34 (a1 + 6) (Int.toNat (((I34 23 8) - 1))))], sh, gc_h sh I34 J A)
        refine gv_if_ge (t := 53) hD rfl rfl ⟨by omega, by omega⟩ (fun c47 => ?_) (fun c47 => ?_)
        · show gv_X _ _ (53, [(2, .inl ((I34 23 8) - 1)), (0, .inr (.inr (some 39))), (1, .inr (.inr (some a1)))], [], sh, gc_h sh I34 J A)
          refine gv_pick [] rfl ?_
          exact L53 I34 J hI34 FI34 FJ (by omega)
        · show gv_X _ _ (38, [(2, .inl ((I34 23 8) - 1)), (0, .inr (.inr (some 39))), (1, .inr (.inr (some a1)))], [], sh, gc_h sh I34 J A)
          refine gv_pick [1] rfl ?_
          exact L38 I34 J hI34 FI34 FJ
  · show gv_X _ _ (8, [(0, .inr (.inr (some 39))), (1, .inr (.inr (some a1)))], [], sh, gc_h sh I34 J A)
    refine gv_run 1 true hD (pc' := 9) (lv' := [(0, .inr (.inr (some 39))), (1, .inr (.inr (some a1)))]) (st' := [.inl 0]) (h' := gc_h sh I34 J A) (C := (True ∧ True)) rfl ⟨trivial, trivial⟩ ?_
    exact gv_zret hD rfl (by omega) ⟨I34, J, rfl, hI34, FI34, FJ, ⟨_, rfl, by omega⟩⟩
set_option maxHeartbeats 4000000 in
set_option maxRecDepth 100000 in
theorem d_X6_readArgument {ws0 : List Cond} {tb : String → gz_T} (hws : gc_Ws ws0) (htb : gc_tbs tb) (sh : gz_Sh) (ro : Nat → Nat) (I : gr_I) (J : gr_J) (A : gc_A) (hI : gc_Inv ro I) (t : Nat) (a1 : Nat) (hb : gc_Base sh ro A) (h_a1 : gc_isLin sh ro A a1) (G_a1 : 144 ≤ a1) (h_t : gc_isTongue sh ro A t) (G_t : 144 ≤ t)  (x0 : I 23 5 ≤ I 23 6) (x1 : I 23 7 = 5 ∨ I 23 6 ≤ I 23 1) (x2 : I 23 5 ≤ I 23 1) (x3 : I 23 7 = 4 ∨ (I 23 5 < I 23 6 ∧ I 23 5 < I 23 1)) (x4 : I 23 7 = 3 → 2 ≤ I 23 6 - I 23 5 ∧ I 23 6 - I 23 5 ≤ 14) (x5 : I a1 4 ≤ 5) (x6 : I 23 7 = 2) (x7 : I 39 2 = (t : Int)) (KLT_I : gc_LT I) (KCT_I : gc_CT a1 I) : ∃ r h', gz_Ev ws0 tb 4 (yX6_readArgument, cX6_readArgument, 3, (some .boolean)) [.inr (.inr (some 39)), .inr (.inr (some a1))] sh (gc_h sh I J A) r sh h' 0 0 ∧ (∃ (I' : gr_I) (J' : gr_J), h' = gc_h sh I' J' A ∧ gc_Inv ro I' ∧ (∀ q j : Nat, ((q = 39 ∧ j = 3) ∨ (q = 39 ∧ j = 4) ∨ (q = 23 ∧ j = 5) ∨ (q = 23 ∧ j = 6) ∨ (q = 23 ∧ j = 7) ∨ (q = 23 ∧ j = 8) ∨ (q = 39 ∧ j = 6) ∨ q = (a1 + 1) ∨ q = (a1 + 6) ∨ q = (a1 + 4) ∨ q = (a1 + 5) ∨ (q = a1 ∧ j = 8)) ∨ I' q j = I q j) ∧ (∀ q j : Nat, ((q = 23 ∧ j = 9)) ∨ J' q j = J q j) ∧ gc_LT I' ∧ gc_CT a1 I' ∧ (∃ z : Int, r = some (.inl z) ∧ 0 ≤ z ∧ z ≤ 1 ∧ (I' 23 5 ≤ I' 23 6) ∧ (I' 23 7 = 5 ∨ I' 23 6 ≤ I' 23 1) ∧ (I' 23 5 ≤ I' 23 1) ∧ (I' 23 7 = 4 ∨ (I' 23 5 < I' 23 6 ∧ I' 23 5 < I' 23 1)) ∧ (I' 23 7 = 3 → 2 ≤ I' 23 6 - I' 23 5 ∧ I' 23 6 - I' 23 5 ≤ 14) ∧ (I' 23 1 = I 23 1) ∧ (I 23 5 ≤ I' 23 5))) := by
  have FI : ∀ q j : Nat, ((q = 39 ∧ j = 3) ∨ (q = 39 ∧ j = 4) ∨ (q = 23 ∧ j = 5) ∨ (q = 23 ∧ j = 6) ∨ (q = 23 ∧ j = 7) ∨ (q = 23 ∧ j = 8) ∨ (q = 39 ∧ j = 6) ∨ q = (a1 + 1) ∨ q = (a1 + 6) ∨ q = (a1 + 4) ∨ q = (a1 + 5) ∨ (q = a1 ∧ j = 8)) ∨ I q j = I q j := fun _ _ => Or.inr rfl
  have FJ : ∀ q j : Nat, ((q = 23 ∧ j = 9)) ∨ J q j = J q j := fun _ _ => Or.inr rfl
  have A_1_7 : A 1 7 = some 12 := gc_bA hb rfl
  have A_39_0 : A 39 0 = some 1 := gc_bA hb rfl
  have A_39_1 : A 39 1 = some 23 := gc_bA hb rfl
  have B_1 : 1 < 1000000 := by decide
  have B_12 : 12 < 1000000 := by decide
  have B_23 : 23 < 1000000 := by decide
  have B_39 : 39 < 1000000 := by decide
  have R_12 : ro 12 = 26 := gc_bR hb (by decide) rfl
  have R_23 : ro 23 = 3 := gc_bR hb (by decide) rfl
  have R_39 : ro 39 = 42 := gc_bR hb (by decide) rfl
  have S_1 : sh[1]? = some (false, 8, 21) := gc_bS hb rfl
  have S_12 : sh[12]? = some (true, 1, 96) := gc_bS hb rfl
  have S_23 : sh[23]? = some (false, 9, 10) := gc_bS hb rfl
  have S_39 : sh[39]? = some (false, 6, 19) := gc_bS hb rfl
  obtain ⟨S_a1, R_a1, B_a1, A_a1_5, S_a1_1, R_a1_1, B_a1_1, A_a1_6, S_a1_2, R_a1_2, B_a1_2, A_a1_7, S_a1_3, R_a1_3, B_a1_3, A_a1_9, S_a1_4, R_a1_4, B_a1_4, A_a1_10, S_a1_5, R_a1_5, B_a1_5, A_a1_11, S_a1_6, R_a1_6, B_a1_6, A_a1_13, S_a1_7, R_a1_7, B_a1_7, A_a1_15, S_a1_8, R_a1_8, B_a1_8⟩ := id h_a1
  obtain ⟨S_t, R_t, B_t, A_t_0, h_t_1, A_t_1, h_t_3, A_t_2, S_t_5, R_t_5, B_t_5, A_t_3, S_t_6, R_t_6, B_t_6, A_t_4, h_t_7, A_t_5, S_t_9, R_t_9, B_t_9, A_t_7, S_t_10, R_t_10, B_t_10, A_t_8, h_t_11, A_t_9, S_t_13, R_t_13, B_t_13, A_t_10, S_t_14, R_t_14, B_t_14, A_t_12, S_t_15, R_t_15, B_t_15, A_t_14, S_t_16, R_t_16, B_t_16, A_t_15, h_t_17⟩ := id h_t
  obtain ⟨S_t_1, R_t_1, B_t_1, A_t_1_0, S_t_1_1, R_t_1_1, B_t_1_1, Q0_t_1, Q1_t_1, Q2_t_1⟩ := id h_t_1
  obtain ⟨S_t_3, R_t_3, B_t_3, A_t_3_0, S_t_3_1, R_t_3_1, B_t_3_1, Q0_t_3, Q1_t_3, Q2_t_3⟩ := id h_t_3
  obtain ⟨S_t_7, R_t_7, B_t_7, A_t_7_0, S_t_7_1, R_t_7_1, B_t_7_1, Q0_t_7, Q1_t_7, Q2_t_7⟩ := id h_t_7
  obtain ⟨S_t_11, R_t_11, B_t_11, A_t_11_0, S_t_11_1, R_t_11_1, B_t_11_1, Q0_t_11, Q1_t_11, Q2_t_11⟩ := id h_t_11
  obtain ⟨S_t_17, R_t_17, B_t_17, A_t_17_0, S_20, R_20, B_20, A_t_17_1, S_t_17_1, R_t_17_1, B_t_17_1, A_t_17_2, S_t_17_2, R_t_17_2, B_t_17_2, A_t_17_3, S_t_17_3, R_t_17_3, B_t_17_3, A_t_17_4, S_t_17_4, R_t_17_4, B_t_17_4, A_t_17_5, S_t_17_5, R_t_17_5, B_t_17_5, S_t_17_6, R_t_17_6, B_t_17_6, S_t_17_7, R_t_17_7, B_t_17_7⟩ := id h_t_17
  have N1 := gc_dj_LT h_a1 h_t
  have hD : gv_D (gc_E6 ws0 tb 3 (yX6_readArgument, cX6_readArgument, 3, (some .boolean)) kX6_readArgument) := gq_ok oX6_readArgument
  refine gc_ev6 (d := 3) (l := kX6_readArgument) (Po := fun r h' => (∃ (I' : gr_I) (J' : gr_J), h' = gc_h sh I' J' A ∧ gc_Inv ro I' ∧ (∀ q j : Nat, ((q = 39 ∧ j = 3) ∨ (q = 39 ∧ j = 4) ∨ (q = 23 ∧ j = 5) ∨ (q = 23 ∧ j = 6) ∨ (q = 23 ∧ j = 7) ∨ (q = 23 ∧ j = 8) ∨ (q = 39 ∧ j = 6) ∨ q = (a1 + 1) ∨ q = (a1 + 6) ∨ q = (a1 + 4) ∨ q = (a1 + 5) ∨ (q = a1 ∧ j = 8)) ∨ I' q j = I q j) ∧ (∀ q j : Nat, ((q = 23 ∧ j = 9)) ∨ J' q j = J q j) ∧ gc_LT I' ∧ gc_CT a1 I' ∧ (∃ z : Int, r = some (.inl z) ∧ 0 ≤ z ∧ z ≤ 1 ∧ (I' 23 5 ≤ I' 23 6) ∧ (I' 23 7 = 5 ∨ I' 23 6 ≤ I' 23 1) ∧ (I' 23 5 ≤ I' 23 1) ∧ (I' 23 7 = 4 ∨ (I' 23 5 < I' 23 6 ∧ I' 23 5 < I' 23 1)) ∧ (I' 23 7 = 3 → 2 ≤ I' 23 6 - I' 23 5 ∧ I' 23 6 - I' 23 5 ≤ 14) ∧ (I' 23 1 = I 23 1) ∧ (I 23 5 ≤ I' 23 5)))) htb rfl (Nat.le_of_ble_eq_true rfl) ?_
  have f1 := (show 0 ≤ I 23 1 ∧ I 23 1 ≤ 1000 from gc_in hI R_23 rfl rfl)
  have f2 := (show 0 ≤ I 23 5 ∧ I 23 5 ≤ 1000 from gc_in hI R_23 rfl rfl)
  have f3 := (show 0 ≤ I 23 6 ∧ I 23 6 ≤ 1001 from gc_in hI R_23 rfl rfl)
  have f4 := (show 0 ≤ I 23 7 ∧ I 23 7 ≤ 125 from gc_in hI R_23 rfl rfl)
  have f5 := (show 0 ≤ I a1 4 ∧ I a1 4 ≤ 6 from gc_in hI R_a1 rfl rfl)
  have f6 := (show 0 ≤ I a1 8 ∧ I a1 8 ≤ 4 from gc_in hI R_a1 rfl rfl)
  have f7 := (show 0 ≤ I 23 8 ∧ I 23 8 ≤ 999999 from gc_in hI R_23 rfl rfl)
  have f8 := (show (-1) ≤ I 39 2 ∧ I 39 2 ≤ 999999 from gc_in hI R_39 rfl rfl)
  have L39 : ((I 23 5 ≤ I 23 6) ∧ (I 23 7 = 5 ∨ I 23 6 ≤ I 23 1) ∧ (I 23 5 ≤ I 23 1) ∧ (I 23 7 = 4 ∨ (I 23 5 < I 23 6 ∧ I 23 5 < I 23 1)) ∧ (I 23 7 = 3 → 2 ≤ I 23 6 - I 23 5 ∧ I 23 6 - I 23 5 ≤ 14) ∧ (I 23 1 = I 23 1) ∧ (I 23 5 ≤ I 23 5) ∧ (I 39 2 = (t : Int))) → gv_X (gc_E6 ws0 tb 3 (yX6_readArgument, cX6_readArgument, 3, (some .boolean)) kX6_readArgument) (gv_Q cX6_readArgument (some .boolean) sh (fun r h' => (∃ (I' : gr_I) (J' : gr_J), h' = gc_h sh I' J' A ∧ gc_Inv ro I' ∧ (∀ q j : Nat, ((q = 39 ∧ j = 3) ∨ (q = 39 ∧ j = 4) ∨ (q = 23 ∧ j = 5) ∨ (q = 23 ∧ j = 6) ∨ (q = 23 ∧ j = 7) ∨ (q = 23 ∧ j = 8) ∨ (q = 39 ∧ j = 6) ∨ q = (a1 + 1) ∨ q = (a1 + 6) ∨ q = (a1 + 4) ∨ q = (a1 + 5) ∨ (q = a1 ∧ j = 8)) ∨ I' q j = I q j) ∧ (∀ q j : Nat, ((q = 23 ∧ j = 9)) ∨ J' q j = J q j) ∧ gc_LT I' ∧ gc_CT a1 I' ∧ (∃ z : Int, r = some (.inl z) ∧ 0 ≤ z ∧ z ≤ 1 ∧ (I' 23 5 ≤ I' 23 6) ∧ (I' 23 7 = 5 ∨ I' 23 6 ≤ I' 23 1) ∧ (I' 23 5 ≤ I' 23 1) ∧ (I' 23 7 = 4 ∨ (I' 23 5 < I' 23 6 ∧ I' 23 5 < I' 23 1)) ∧ (I' 23 7 = 3 → 2 ≤ I' 23 6 - I' 23 5 ∧ I' 23 6 - I' 23 5 ≤ 14) ∧ (I' 23 1 = I 23 1) ∧ (I 23 5 ≤ I' 23 5))))) (39, [(0, .inr (.inr (some 39)))], [], sh, gc_h sh I J A) := by
    intro m_9
    obtain ⟨e0_9, e1_9, e2_9, e3_9, e4_9, e5_9, e6_9, e7_9⟩ := m_9
    have f10 := (show 0 ≤ I 23 1 ∧ I 23 1 ≤ 1000 from gc_in hI R_23 rfl rfl)
    have f11 := (show 0 ≤ I 23 5 ∧ I 23 5 ≤ 1000 from gc_in hI R_23 rfl rfl)
    have f12 := (show 0 ≤ I 23 6 ∧ I 23 6 ≤ 1001 from gc_in hI R_23 rfl rfl)
    have f13 := (show 0 ≤ I 23 7 ∧ I 23 7 ≤ 125 from gc_in hI R_23 rfl rfl)
    have f14 := (show 0 ≤ I a1 4 ∧ I a1 4 ≤ 6 from gc_in hI R_a1 rfl rfl)
    have f15 := (show 0 ≤ I a1 8 ∧ I a1 8 ≤ 4 from gc_in hI R_a1 rfl rfl)
    have f16 := (show 0 ≤ I 23 8 ∧ I 23 8 ≤ 999999 from gc_in hI R_23 rfl rfl)
    have f17 := (show (-1) ≤ I 39 2 ∧ I 39 2 ≤ 999999 from gc_in hI R_39 rfl rfl)
    refine gv_run 3 true hD (pc' := 42) (lv' := [(0, .inr (.inr (some 39)))]) (st' := [.inr (.inr (some 39)), .inl 5, .inr (.inr (some 39))]) (h' := gc_h sh I J A) (C := (((True ∧ True) ∧ True) ∧ True)) rfl ⟨⟨⟨trivial, trivial⟩, trivial⟩, trivial⟩ ?_
    refine gv_get hD rfl rfl S_39 ⟨by decide, B_39⟩ (gc_hA S_39 rfl A_39_1) ?_
    show gv_X _ _ (45, [(0, .inr (.inr (some 39)))], [.inr (.inr (some 23)), .inl 5, .inr (.inr (some 39))], sh, gc_h sh I J A)
    have f18 := (show 0 ≤ I 23 5 ∧ I 23 5 ≤ 1000 from gc_in hI R_23 rfl rfl)
    refine gv_get hD rfl rfl S_23 ⟨by decide, B_23⟩ (gc_hI S_23 rfl) ?_
    show gv_X _ _ (48, [(0, .inr (.inr (some 39)))], [.inl (I 23 5), .inl 5, .inr (.inr (some 39))], sh, gc_h sh I J A)
    obtain ⟨r19, h19, E19, P19⟩ := d_X6_wrong (ws0 := ws0) (tb := tb) hws htb sh ro I J A hI  5 (I 23 5) hb   ⟨by omega, by omega⟩ ⟨by omega, by omega⟩  
    obtain ⟨I20, J21, rfl, hI20, g19, k19, ⟨z19, rfl, q19⟩⟩ := P19
    have FI20 := gc_frc (W := fun q j => (q = 39 ∧ j = 3) ∨ (q = 39 ∧ j = 4) ∨ (q = 23 ∧ j = 5) ∨ (q = 23 ∧ j = 6) ∨ (q = 23 ∧ j = 7) ∨ (q = 23 ∧ j = 8) ∨ (q = 39 ∧ j = 6) ∨ q = (a1 + 1) ∨ q = (a1 + 6) ∨ q = (a1 + 4) ∨ q = (a1 + 5) ∨ (q = a1 ∧ j = 8)) (V := fun q j => (q = 39 ∧ j = 3) ∨ (q = 39 ∧ j = 4)) FI (fun q j h => (h.elim (fun h => (Or.inl h)) (fun h => (Or.inr (Or.inl h))))) g19
    have t22 := (g19 23 1).resolve_left (by omega)
    have t23 := (g19 23 5).resolve_left (by omega)
    have t24 := (g19 23 6).resolve_left (by omega)
    have t25 := (g19 23 7).resolve_left (by omega)
    have t26 := (g19 a1 4).resolve_left (by omega)
    have t27 := (g19 a1 8).resolve_left (by omega)
    have t28 := (g19 23 8).resolve_left (by omega)
    have t29 := (g19 39 2).resolve_left (by omega)
    have f30 := (show 0 ≤ I20 23 1 ∧ I20 23 1 ≤ 1000 from gc_in hI20 R_23 rfl rfl)
    have f31 := (show 0 ≤ I20 23 5 ∧ I20 23 5 ≤ 1000 from gc_in hI20 R_23 rfl rfl)
    have f32 := (show 0 ≤ I20 23 6 ∧ I20 23 6 ≤ 1001 from gc_in hI20 R_23 rfl rfl)
    have f33 := (show 0 ≤ I20 23 7 ∧ I20 23 7 ≤ 125 from gc_in hI20 R_23 rfl rfl)
    have f34 := (show 0 ≤ I20 a1 4 ∧ I20 a1 4 ≤ 6 from gc_in hI20 R_a1 rfl rfl)
    have f35 := (show 0 ≤ I20 a1 8 ∧ I20 a1 8 ≤ 4 from gc_in hI20 R_a1 rfl rfl)
    have f36 := (show 0 ≤ I20 23 8 ∧ I20 23 8 ≤ 999999 from gc_in hI20 R_23 rfl rfl)
    have f37 := (show (-1) ≤ I20 39 2 ∧ I20 39 2 ≤ 999999 from gc_in hI20 R_39 rfl rfl)
    obtain rfl : J = J21 := funext fun q => funext fun j => ((k19 q j).resolve_left id).symm
    have KLT_I20 := gc_LT_fr KLT_I ((g19 23 5).resolve_left (by omega)) ((g19 23 6).resolve_left (by omega)) ((g19 23 7).resolve_left (by omega)) (fun k => (g19 24 k).resolve_left (by omega))
    have KCT_I20 := gc_CT_fr KCT_I ((g19 a1 8).resolve_left (by omega)) (fun k => (g19 (a1 + 6) k).resolve_left (by omega))
    refine gv_callV hD rfl (As := [.inl 5, .inl (I 23 5)]) (st := []) rfl B_39 S_39 rfl (gc_lV6 hws rfl) (Nat.le_of_ble_eq_true rfl) (gz_Ev_mono (d := 1) (by decide) E19) ?_
    show gv_X _ _ (51, [(0, .inr (.inr (some 39)))], [.inl z19], sh, gc_h sh I20 J A)
    exact gv_zret hD rfl (by omega) ⟨I20, J, rfl, hI20, FI20, FJ, KLT_I20, KCT_I20, ⟨_, rfl, by omega⟩⟩
  have L108 : ∀ (I38 : gr_I) (J39 : gr_J) , gc_Inv ro I38 → (∀ q j : Nat, ((q = 39 ∧ j = 3) ∨ (q = 39 ∧ j = 4) ∨ (q = 23 ∧ j = 5) ∨ (q = 23 ∧ j = 6) ∨ (q = 23 ∧ j = 7) ∨ (q = 23 ∧ j = 8) ∨ (q = 39 ∧ j = 6) ∨ q = (a1 + 1) ∨ q = (a1 + 6) ∨ q = (a1 + 4) ∨ q = (a1 + 5) ∨ (q = a1 ∧ j = 8)) ∨ I38 q j = I q j) → (∀ q j : Nat, ((q = 23 ∧ j = 9)) ∨ J39 q j = J q j) → gc_LT I38 → gc_CT a1 I38 → ((I38 23 5 ≤ I38 23 6) ∧ (I38 23 7 = 5 ∨ I38 23 6 ≤ I38 23 1) ∧ (I38 23 5 ≤ I38 23 1) ∧ (I38 23 7 = 4 ∨ (I38 23 5 < I38 23 6 ∧ I38 23 5 < I38 23 1)) ∧ (I38 23 7 = 3 → 2 ≤ I38 23 6 - I38 23 5 ∧ I38 23 6 - I38 23 5 ≤ 14) ∧ (I38 23 1 = I 23 1) ∧ (I 23 5 ≤ I38 23 5) ∧ (I38 39 2 = (t : Int))) → gv_X (gc_E6 ws0 tb 3 (yX6_readArgument, cX6_readArgument, 3, (some .boolean)) kX6_readArgument) (gv_Q cX6_readArgument (some .boolean) sh (fun r h' => (∃ (I' : gr_I) (J' : gr_J), h' = gc_h sh I' J' A ∧ gc_Inv ro I' ∧ (∀ q j : Nat, ((q = 39 ∧ j = 3) ∨ (q = 39 ∧ j = 4) ∨ (q = 23 ∧ j = 5) ∨ (q = 23 ∧ j = 6) ∨ (q = 23 ∧ j = 7) ∨ (q = 23 ∧ j = 8) ∨ (q = 39 ∧ j = 6) ∨ q = (a1 + 1) ∨ q = (a1 + 6) ∨ q = (a1 + 4) ∨ q = (a1 + 5) ∨ (q = a1 ∧ j = 8)) ∨ I' q j = I q j) ∧ (∀ q j : Nat, ((q = 23 ∧ j = 9)) ∨ J' q j = J q j) ∧ gc_LT I' ∧ gc_CT a1 I' ∧ (∃ z : Int, r = some (.inl z) ∧ 0 ≤ z ∧ z ≤ 1 ∧ (I' 23 5 ≤ I' 23 6) ∧ (I' 23 7 = 5 ∨ I' 23 6 ≤ I' 23 1) ∧ (I' 23 5 ≤ I' 23 1) ∧ (I' 23 7 = 4 ∨ (I' 23 5 < I' 23 6 ∧ I' 23 5 < I' 23 1)) ∧ (I' 23 7 = 3 → 2 ≤ I' 23 6 - I' 23 5 ∧ I' 23 6 - I' 23 5 ≤ 14) ∧ (I' 23 1 = I 23 1) ∧ (I 23 5 ≤ I' 23 5))))) (108, [], [], sh, gc_h sh I38 J39 A) := by
    intro I38 J39 hI38 FI38 FJ39 KLT_I38 KCT_I38 m_40
    clear x0 x1 x2 x3 x4
    obtain ⟨e0_40, e1_40, e2_40, e3_40, e4_40, e5_40, e6_40, e7_40⟩ := m_40
    have f41 := (show 0 ≤ I38 23 1 ∧ I38 23 1 ≤ 1000 from gc_in hI38 R_23 rfl rfl)
    have f42 := (show 0 ≤ I38 23 5 ∧ I38 23 5 ≤ 1000 from gc_in hI38 R_23 rfl rfl)
    have f43 := (show 0 ≤ I38 23 6 ∧ I38 23 6 ≤ 1001 from gc_in hI38 R_23 rfl rfl)
    have f44 := (show 0 ≤ I38 23 7 ∧ I38 23 7 ≤ 125 from gc_in hI38 R_23 rfl rfl)
    have f45 := (show 0 ≤ I38 a1 4 ∧ I38 a1 4 ≤ 6 from gc_in hI38 R_a1 rfl rfl)
    have f46 := (show 0 ≤ I38 a1 8 ∧ I38 a1 8 ≤ 4 from gc_in hI38 R_a1 rfl rfl)
    have f47 := (show 0 ≤ I38 23 8 ∧ I38 23 8 ≤ 999999 from gc_in hI38 R_23 rfl rfl)
    have f48 := (show (-1) ≤ I38 39 2 ∧ I38 39 2 ≤ 999999 from gc_in hI38 R_39 rfl rfl)
    refine gv_run 1 true hD (pc' := 109) (lv' := []) (st' := [.inl 0]) (h' := gc_h sh I38 J39 A) (C := (True ∧ True)) rfl ⟨trivial, trivial⟩ ?_
    exact gv_zret hD rfl (by omega) ⟨I38, J39, rfl, hI38, FI38, FJ39, KLT_I38, KCT_I38, ⟨_, rfl, by omega⟩⟩
  have L110 : ∀ (I49 : gr_I) (J50 : gr_J) (v2_51 : Int), gc_Inv ro I49 → (∀ q j : Nat, ((q = 39 ∧ j = 3) ∨ (q = 39 ∧ j = 4) ∨ (q = 23 ∧ j = 5) ∨ (q = 23 ∧ j = 6) ∨ (q = 23 ∧ j = 7) ∨ (q = 23 ∧ j = 8) ∨ (q = 39 ∧ j = 6) ∨ q = (a1 + 1) ∨ q = (a1 + 6) ∨ q = (a1 + 4) ∨ q = (a1 + 5) ∨ (q = a1 ∧ j = 8)) ∨ I49 q j = I q j) → (∀ q j : Nat, ((q = 23 ∧ j = 9)) ∨ J50 q j = J q j) → gc_LT I49 → gc_CT a1 I49 → ((0 ≤ v2_51 ∧ v2_51 ≤ 3) ∧ (I49 (a1 + 6) (Int.toNat v2_51) < 0) ∧ (I49 a1 4 ≤ 5) ∧ (I49 23 5 ≤ I49 23 6) ∧ (I49 23 7 = 5 ∨ I49 23 6 ≤ I49 23 1) ∧ (I49 23 5 ≤ I49 23 1) ∧ (I49 23 7 = 4 ∨ (I49 23 5 < I49 23 6 ∧ I49 23 5 < I49 23 1)) ∧ (I49 23 7 = 3 → 2 ≤ I49 23 6 - I49 23 5 ∧ I49 23 6 - I49 23 5 ≤ 14) ∧ (I49 23 1 = I 23 1) ∧ (I 23 5 ≤ I49 23 5) ∧ (I49 39 2 = (t : Int))) → gv_X (gc_E6 ws0 tb 3 (yX6_readArgument, cX6_readArgument, 3, (some .boolean)) kX6_readArgument) (gv_Q cX6_readArgument (some .boolean) sh (fun r h' => (∃ (I' : gr_I) (J' : gr_J), h' = gc_h sh I' J' A ∧ gc_Inv ro I' ∧ (∀ q j : Nat, ((q = 39 ∧ j = 3) ∨ (q = 39 ∧ j = 4) ∨ (q = 23 ∧ j = 5) ∨ (q = 23 ∧ j = 6) ∨ (q = 23 ∧ j = 7) ∨ (q = 23 ∧ j = 8) ∨ (q = 39 ∧ j = 6) ∨ q = (a1 + 1) ∨ q = (a1 + 6) ∨ q = (a1 + 4) ∨ q = (a1 + 5) ∨ (q = a1 ∧ j = 8)) ∨ I' q j = I q j) ∧ (∀ q j : Nat, ((q = 23 ∧ j = 9)) ∨ J' q j = J q j) ∧ gc_LT I' ∧ gc_CT a1 I' ∧ (∃ z : Int, r = some (.inl z) ∧ 0 ≤ z ∧ z ≤ 1 ∧ (I' 23 5 ≤ I' 23 6) ∧ (I' 23 7 = 5 ∨ I' 23 6 ≤ I' 23 1) ∧ (I' 23 5 ≤ I' 23 1) ∧ (I' 23 7 = 4 ∨ (I' 23 5 < I' 23 6 ∧ I' 23 5 < I' 23 1)) ∧ (I' 23 7 = 3 → 2 ≤ I' 23 6 - I' 23 5 ∧ I' 23 6 - I' 23 5 ≤ 14) ∧ (I' 23 1 = I 23 1) ∧ (I 23 5 ≤ I' 23 5))))) (110, [(0, .inr (.inr (some 39))), (1, .inr (.inr (some a1))), (2, .inl v2_51)], [], sh, gc_h sh I49 J50 A) := by
    intro I49 J50 v2_51 hI49 FI49 FJ50 KLT_I49 KCT_I49 m_51
    clear x0 x1 x2 x3 x4
    obtain ⟨hv2_51, e0_51, e1_51, e2_51, e3_51, e4_51, e5_51, e6_51, e7_51, e8_51, e9_51⟩ := m_51
    have f52 := (show 0 ≤ I49 23 1 ∧ I49 23 1 ≤ 1000 from gc_in hI49 R_23 rfl rfl)
    have f53 := (show 0 ≤ I49 23 5 ∧ I49 23 5 ≤ 1000 from gc_in hI49 R_23 rfl rfl)
    have f54 := (show 0 ≤ I49 23 6 ∧ I49 23 6 ≤ 1001 from gc_in hI49 R_23 rfl rfl)
    have f55 := (show 0 ≤ I49 23 7 ∧ I49 23 7 ≤ 125 from gc_in hI49 R_23 rfl rfl)
    have f56 := (show 0 ≤ I49 a1 4 ∧ I49 a1 4 ≤ 6 from gc_in hI49 R_a1 rfl rfl)
    have f57 := (show 0 ≤ I49 a1 8 ∧ I49 a1 8 ≤ 4 from gc_in hI49 R_a1 rfl rfl)
    have f58 := (show 0 ≤ I49 23 8 ∧ I49 23 8 ≤ 999999 from gc_in hI49 R_23 rfl rfl)
    have f59 := (show (-1) ≤ I49 39 2 ∧ I49 39 2 ≤ 999999 from gc_in hI49 R_39 rfl rfl)
    have t60 := gc_CT_lt (a := v2_51) KCT_I49 (by omega) (by omega)
    refine gv_run 1 true hD (pc' := 111) (lv' := [(0, .inr (.inr (some 39))), (1, .inr (.inr (some a1))), (2, .inl v2_51)]) (st' := [.inr (.inr (some a1))]) (h' := gc_h sh I49 J50 A) (C := (True ∧ True)) rfl ⟨trivial, trivial⟩ ?_
    refine gv_get hD rfl rfl S_a1 ⟨by decide, B_a1⟩ (gc_hA S_a1 rfl A_a1_5) ?_
    show gv_X _ _ (114, [(0, .inr (.inr (some 39))), (1, .inr (.inr (some a1))), (2, .inl v2_51)], [.inr (.inr (some (a1 + 1)))], sh, gc_h sh I49 J50 A)
    refine gv_run 1 true hD (pc' := 115) (lv' := [(0, .inr (.inr (some 39))), (1, .inr (.inr (some a1))), (2, .inl v2_51)]) (st' := [.inr (.inr (some a1)), .inr (.inr (some (a1 + 1)))]) (h' := gc_h sh I49 J50 A) (C := (True ∧ True)) rfl ⟨trivial, trivial⟩ ?_
    have f61 := (show 0 ≤ I49 a1 4 ∧ I49 a1 4 ≤ 6 from gc_in hI49 R_a1 rfl rfl)
    refine gv_get hD rfl rfl S_a1 ⟨by decide, B_a1⟩ (gc_hI S_a1 rfl) ?_
    show gv_X _ _ (118, [(0, .inr (.inr (some 39))), (1, .inr (.inr (some a1))), (2, .inl v2_51)], [.inl (I49 a1 4), .inr (.inr (some (a1 + 1)))], sh, gc_h sh I49 J50 A)
    refine gv_run 1 true hD (pc' := 119) (lv' := [(0, .inr (.inr (some 39))), (1, .inr (.inr (some a1))), (2, .inl v2_51)]) (st' := [.inl v2_51, .inl (I49 a1 4), .inr (.inr (some (a1 + 1)))]) (h' := gc_h sh I49 J50 A) (C := (True ∧ True)) rfl ⟨trivial, trivial⟩ ?_
    refine gv_iast hD rfl S_a1_1 ⟨by decide, B_a1_1⟩ ⟨by omega, by omega⟩ ?_
    refine gc_st hI49 S_a1_1 rfl R_a1_1 (lo := (-1)) (hi := 3) rfl rfl (by omega) (by omega) (fun I62 hI62 q63 p63 => ?_)
    have FI62 := gc_frs (W := fun q j => (q = 39 ∧ j = 3) ∨ (q = 39 ∧ j = 4) ∨ (q = 23 ∧ j = 5) ∨ (q = 23 ∧ j = 6) ∨ (q = 23 ∧ j = 7) ∨ (q = 23 ∧ j = 8) ∨ (q = 39 ∧ j = 6) ∨ q = (a1 + 1) ∨ q = (a1 + 6) ∨ q = (a1 + 4) ∨ q = (a1 + 5) ∨ (q = a1 ∧ j = 8)) FI49 (Or.inr (Or.inr (Or.inr (Or.inr (Or.inr (Or.inr (Or.inr (Or.inl rfl)))))))) p63
    have t64 := p63 23 1 (fun h => absurd h.1 (by omega))
    have t65 := p63 23 5 (fun h => absurd h.1 (by omega))
    have t66 := p63 23 6 (fun h => absurd h.1 (by omega))
    have t67 := p63 23 7 (fun h => absurd h.1 (by omega))
    have t68 := p63 a1 4 (fun h => absurd h.1 (by omega))
    have t69 := p63 a1 8 (fun h => absurd h.1 (by omega))
    have t70 := p63 23 8 (fun h => absurd h.1 (by omega))
    have t71 := p63 39 2 (fun h => absurd h.1 (by omega))
    have t72 := p63 (a1 + 6) (Int.toNat v2_51) (fun h => absurd h.1 (by omega))
    have f73 := (show 0 ≤ I62 23 1 ∧ I62 23 1 ≤ 1000 from gc_in hI62 R_23 rfl rfl)
    have f74 := (show 0 ≤ I62 23 5 ∧ I62 23 5 ≤ 1000 from gc_in hI62 R_23 rfl rfl)
    have f75 := (show 0 ≤ I62 23 6 ∧ I62 23 6 ≤ 1001 from gc_in hI62 R_23 rfl rfl)
    have f76 := (show 0 ≤ I62 23 7 ∧ I62 23 7 ≤ 125 from gc_in hI62 R_23 rfl rfl)
    have f77 := (show 0 ≤ I62 a1 4 ∧ I62 a1 4 ≤ 6 from gc_in hI62 R_a1 rfl rfl)
    have f78 := (show 0 ≤ I62 a1 8 ∧ I62 a1 8 ≤ 4 from gc_in hI62 R_a1 rfl rfl)
    have f79 := (show 0 ≤ I62 23 8 ∧ I62 23 8 ≤ 999999 from gc_in hI62 R_23 rfl rfl)
    have f80 := (show (-1) ≤ I62 39 2 ∧ I62 39 2 ≤ 999999 from gc_in hI62 R_39 rfl rfl)
    have KLT_I62 := gc_LT_fr KLT_I49 (p63 23 5 (fun h => absurd h.1 (by omega))) (p63 23 6 (fun h => absurd h.1 (by omega))) (p63 23 7 (fun h => absurd h.1 (by omega))) (fun k => p63 24 k (fun h => absurd h.1 (by omega)))
    have KCT_I62 := gc_CT_fr KCT_I49 (p63 a1 8 (fun h => absurd h.1 (by omega))) (fun k => p63 (a1 + 6) k (fun h => absurd h.1 (by omega)))
    show gv_X _ _ (120, [(0, .inr (.inr (some 39))), (1, .inr (.inr (some a1))), (2, .inl v2_51)], [], sh, gc_h sh I62 J50 A)
    refine gv_run 1 true hD (pc' := 121) (lv' := [(0, .inr (.inr (some 39))), (1, .inr (.inr (some a1))), (2, .inl v2_51)]) (st' := [.inr (.inr (some a1))]) (h' := gc_h sh I62 J50 A) (C := (True ∧ True)) rfl ⟨trivial, trivial⟩ ?_
    refine gv_get hD rfl rfl S_a1 ⟨by decide, B_a1⟩ (gc_hA S_a1 rfl A_a1_11) ?_
    show gv_X _ _ (124, [(0, .inr (.inr (some 39))), (1, .inr (.inr (some a1))), (2, .inl v2_51)], [.inr (.inr (some (a1 + 6)))], sh, gc_h sh I62 J50 A)
    refine gv_run 2 true hD (pc' := 126) (lv' := [(0, .inr (.inr (some 39))), (1, .inr (.inr (some a1))), (2, .inl v2_51)]) (st' := [.inr (.inr (some a1)), .inl v2_51, .inr (.inr (some (a1 + 6)))]) (h' := gc_h sh I62 J50 A) (C := ((True ∧ True) ∧ True)) rfl ⟨⟨trivial, trivial⟩, trivial⟩ ?_
    have f81 := (show 0 ≤ I62 a1 8 ∧ I62 a1 8 ≤ 4 from gc_in hI62 R_a1 rfl rfl)
    refine gv_get hD rfl rfl S_a1 ⟨by decide, B_a1⟩ (gc_hI S_a1 rfl) ?_
    show gv_X _ _ (129, [(0, .inr (.inr (some 39))), (1, .inr (.inr (some a1))), (2, .inl v2_51)], [.inl (I62 a1 8), .inl v2_51, .inr (.inr (some (a1 + 6)))], sh, gc_h sh I62 J50 A)
    refine gv_iast hD rfl S_a1_6 ⟨by decide, B_a1_6⟩ ⟨by omega, by omega⟩ ?_
    refine gc_st hI62 S_a1_6 rfl R_a1_6 (lo := (-1)) (hi := 3) rfl rfl (by omega) (by omega) (fun I82 hI82 q83 p83 => ?_)
    have FI82 := gc_frs (W := fun q j => (q = 39 ∧ j = 3) ∨ (q = 39 ∧ j = 4) ∨ (q = 23 ∧ j = 5) ∨ (q = 23 ∧ j = 6) ∨ (q = 23 ∧ j = 7) ∨ (q = 23 ∧ j = 8) ∨ (q = 39 ∧ j = 6) ∨ q = (a1 + 1) ∨ q = (a1 + 6) ∨ q = (a1 + 4) ∨ q = (a1 + 5) ∨ (q = a1 ∧ j = 8)) FI62 (Or.inr (Or.inr (Or.inr (Or.inr (Or.inr (Or.inr (Or.inr (Or.inr (Or.inl rfl))))))))) p83
    have t84 := p83 23 1 (fun h => absurd h.1 (by omega))
    have t85 := p83 23 5 (fun h => absurd h.1 (by omega))
    have t86 := p83 23 6 (fun h => absurd h.1 (by omega))
    have t87 := p83 23 7 (fun h => absurd h.1 (by omega))
    have t88 := p83 a1 4 (fun h => absurd h.1 (by omega))
    have t89 := p83 a1 8 (fun h => absurd h.1 (by omega))
    have t90 := p83 23 8 (fun h => absurd h.1 (by omega))
    have t91 := p83 39 2 (fun h => absurd h.1 (by omega))
    have f92 := (show 0 ≤ I82 23 1 ∧ I82 23 1 ≤ 1000 from gc_in hI82 R_23 rfl rfl)
    have f93 := (show 0 ≤ I82 23 5 ∧ I82 23 5 ≤ 1000 from gc_in hI82 R_23 rfl rfl)
    have f94 := (show 0 ≤ I82 23 6 ∧ I82 23 6 ≤ 1001 from gc_in hI82 R_23 rfl rfl)
    have f95 := (show 0 ≤ I82 23 7 ∧ I82 23 7 ≤ 125 from gc_in hI82 R_23 rfl rfl)
    have f96 := (show 0 ≤ I82 a1 4 ∧ I82 a1 4 ≤ 6 from gc_in hI82 R_a1 rfl rfl)
    have f97 := (show 0 ≤ I82 a1 8 ∧ I82 a1 8 ≤ 4 from gc_in hI82 R_a1 rfl rfl)
    have f98 := (show 0 ≤ I82 23 8 ∧ I82 23 8 ≤ 999999 from gc_in hI82 R_23 rfl rfl)
    have f99 := (show (-1) ≤ I82 39 2 ∧ I82 39 2 ≤ 999999 from gc_in hI82 R_39 rfl rfl)
    have KLT_I82 := gc_LT_fr KLT_I62 (p83 23 5 (fun h => absurd h.1 (by omega))) (p83 23 6 (fun h => absurd h.1 (by omega))) (p83 23 7 (fun h => absurd h.1 (by omega))) (fun k => p83 24 k (fun h => absurd h.1 (by omega)))
    show gv_X _ _ (130, [(0, .inr (.inr (some 39))), (1, .inr (.inr (some a1))), (2, .inl v2_51)], [], sh, gc_h sh I82 J50 A)
    refine gv_run 1 true hD (pc' := 131) (lv' := [(0, .inr (.inr (some 39))), (1, .inr (.inr (some a1))), (2, .inl v2_51)]) (st' := [.inr (.inr (some a1))]) (h' := gc_h sh I82 J50 A) (C := (True ∧ True)) rfl ⟨trivial, trivial⟩ ?_
    refine gv_get hD rfl rfl S_a1 ⟨by decide, B_a1⟩ (gc_hA S_a1 rfl A_a1_9) ?_
    show gv_X _ _ (134, [(0, .inr (.inr (some 39))), (1, .inr (.inr (some a1))), (2, .inl v2_51)], [.inr (.inr (some (a1 + 4)))], sh, gc_h sh I82 J50 A)
    refine gv_run 1 true hD (pc' := 135) (lv' := [(0, .inr (.inr (some 39))), (1, .inr (.inr (some a1))), (2, .inl v2_51)]) (st' := [.inr (.inr (some a1)), .inr (.inr (some (a1 + 4)))]) (h' := gc_h sh I82 J50 A) (C := (True ∧ True)) rfl ⟨trivial, trivial⟩ ?_
    have f100 := (show 0 ≤ I82 a1 8 ∧ I82 a1 8 ≤ 4 from gc_in hI82 R_a1 rfl rfl)
    refine gv_get hD rfl rfl S_a1 ⟨by decide, B_a1⟩ (gc_hI S_a1 rfl) ?_
    show gv_X _ _ (138, [(0, .inr (.inr (some 39))), (1, .inr (.inr (some a1))), (2, .inl v2_51)], [.inl (I82 a1 8), .inr (.inr (some (a1 + 4)))], sh, gc_h sh I82 J50 A)
    refine gv_run 1 true hD (pc' := 139) (lv' := [(0, .inr (.inr (some 39))), (1, .inr (.inr (some a1))), (2, .inl v2_51)]) (st' := [.inl v2_51, .inl (I82 a1 8), .inr (.inr (some (a1 + 4)))]) (h' := gc_h sh I82 J50 A) (C := (True ∧ True)) rfl ⟨trivial, trivial⟩ ?_
    refine gv_iast hD rfl S_a1_4 ⟨by decide, B_a1_4⟩ ⟨by omega, by omega⟩ ?_
    refine gc_st hI82 S_a1_4 rfl R_a1_4 (lo := 0) (hi := 3) rfl rfl (by omega) (by omega) (fun I101 hI101 q102 p102 => ?_)
    have FI101 := gc_frs (W := fun q j => (q = 39 ∧ j = 3) ∨ (q = 39 ∧ j = 4) ∨ (q = 23 ∧ j = 5) ∨ (q = 23 ∧ j = 6) ∨ (q = 23 ∧ j = 7) ∨ (q = 23 ∧ j = 8) ∨ (q = 39 ∧ j = 6) ∨ q = (a1 + 1) ∨ q = (a1 + 6) ∨ q = (a1 + 4) ∨ q = (a1 + 5) ∨ (q = a1 ∧ j = 8)) FI82 (Or.inr (Or.inr (Or.inr (Or.inr (Or.inr (Or.inr (Or.inr (Or.inr (Or.inr (Or.inl rfl)))))))))) p102
    have t103 := p102 23 1 (fun h => absurd h.1 (by omega))
    have t104 := p102 23 5 (fun h => absurd h.1 (by omega))
    have t105 := p102 23 6 (fun h => absurd h.1 (by omega))
    have t106 := p102 23 7 (fun h => absurd h.1 (by omega))
    have t107 := p102 a1 4 (fun h => absurd h.1 (by omega))
    have t108 := p102 a1 8 (fun h => absurd h.1 (by omega))
    have t109 := p102 23 8 (fun h => absurd h.1 (by omega))
    have t110 := p102 39 2 (fun h => absurd h.1 (by omega))
    have t111 := p102 (a1 + 6) (Int.toNat v2_51) (fun h => absurd h.1 (by omega))
    have f112 := (show 0 ≤ I101 23 1 ∧ I101 23 1 ≤ 1000 from gc_in hI101 R_23 rfl rfl)
    have f113 := (show 0 ≤ I101 23 5 ∧ I101 23 5 ≤ 1000 from gc_in hI101 R_23 rfl rfl)
    have f114 := (show 0 ≤ I101 23 6 ∧ I101 23 6 ≤ 1001 from gc_in hI101 R_23 rfl rfl)
    have f115 := (show 0 ≤ I101 23 7 ∧ I101 23 7 ≤ 125 from gc_in hI101 R_23 rfl rfl)
    have f116 := (show 0 ≤ I101 a1 4 ∧ I101 a1 4 ≤ 6 from gc_in hI101 R_a1 rfl rfl)
    have f117 := (show 0 ≤ I101 a1 8 ∧ I101 a1 8 ≤ 4 from gc_in hI101 R_a1 rfl rfl)
    have f118 := (show 0 ≤ I101 23 8 ∧ I101 23 8 ≤ 999999 from gc_in hI101 R_23 rfl rfl)
    have f119 := (show (-1) ≤ I101 39 2 ∧ I101 39 2 ≤ 999999 from gc_in hI101 R_39 rfl rfl)
    have KLT_I101 := gc_LT_fr KLT_I82 (p102 23 5 (fun h => absurd h.1 (by omega))) (p102 23 6 (fun h => absurd h.1 (by omega))) (p102 23 7 (fun h => absurd h.1 (by omega))) (fun k => p102 24 k (fun h => absurd h.1 (by omega)))
    show gv_X _ _ (140, [(0, .inr (.inr (some 39))), (1, .inr (.inr (some a1))), (2, .inl v2_51)], [], sh, gc_h sh I101 J50 A)
    refine gv_run 1 true hD (pc' := 141) (lv' := [(0, .inr (.inr (some 39))), (1, .inr (.inr (some a1))), (2, .inl v2_51)]) (st' := [.inr (.inr (some a1))]) (h' := gc_h sh I101 J50 A) (C := (True ∧ True)) rfl ⟨trivial, trivial⟩ ?_
    refine gv_get hD rfl rfl S_a1 ⟨by decide, B_a1⟩ (gc_hA S_a1 rfl A_a1_10) ?_
    show gv_X _ _ (144, [(0, .inr (.inr (some 39))), (1, .inr (.inr (some a1))), (2, .inl v2_51)], [.inr (.inr (some (a1 + 5)))], sh, gc_h sh I101 J50 A)
    refine gv_run 1 true hD (pc' := 145) (lv' := [(0, .inr (.inr (some 39))), (1, .inr (.inr (some a1))), (2, .inl v2_51)]) (st' := [.inr (.inr (some a1)), .inr (.inr (some (a1 + 5)))]) (h' := gc_h sh I101 J50 A) (C := (True ∧ True)) rfl ⟨trivial, trivial⟩ ?_
    have f120 := (show 0 ≤ I101 a1 8 ∧ I101 a1 8 ≤ 4 from gc_in hI101 R_a1 rfl rfl)
    refine gv_get hD rfl rfl S_a1 ⟨by decide, B_a1⟩ (gc_hI S_a1 rfl) ?_
    show gv_X _ _ (148, [(0, .inr (.inr (some 39))), (1, .inr (.inr (some a1))), (2, .inl v2_51)], [.inl (I101 a1 8), .inr (.inr (some (a1 + 5)))], sh, gc_h sh I101 J50 A)
    refine gv_run 1 true hD (pc' := 149) (lv' := [(0, .inr (.inr (some 39))), (1, .inr (.inr (some a1))), (2, .inl v2_51)]) (st' := [.inr (.inr (some 39)), .inl (I101 a1 8), .inr (.inr (some (a1 + 5)))]) (h' := gc_h sh I101 J50 A) (C := (True ∧ True)) rfl ⟨trivial, trivial⟩ ?_
    have f121 := (show 0 ≤ I101 39 6 ∧ I101 39 6 ≤ 16777215 from gc_in hI101 R_39 rfl rfl)
    refine gv_get hD rfl rfl S_39 ⟨by decide, B_39⟩ (gc_hI S_39 rfl) ?_
    show gv_X _ _ (152, [(0, .inr (.inr (some 39))), (1, .inr (.inr (some a1))), (2, .inl v2_51)], [.inl (I101 39 6), .inl (I101 a1 8), .inr (.inr (some (a1 + 5)))], sh, gc_h sh I101 J50 A)
    refine gv_iast hD rfl S_a1_5 ⟨by decide, B_a1_5⟩ ⟨by omega, by omega⟩ ?_
    refine gc_st hI101 S_a1_5 rfl R_a1_5 (lo := 0) (hi := 16777215) rfl rfl (by omega) (by omega) (fun I122 hI122 q123 p123 => ?_)
    have FI122 := gc_frs (W := fun q j => (q = 39 ∧ j = 3) ∨ (q = 39 ∧ j = 4) ∨ (q = 23 ∧ j = 5) ∨ (q = 23 ∧ j = 6) ∨ (q = 23 ∧ j = 7) ∨ (q = 23 ∧ j = 8) ∨ (q = 39 ∧ j = 6) ∨ q = (a1 + 1) ∨ q = (a1 + 6) ∨ q = (a1 + 4) ∨ q = (a1 + 5) ∨ (q = a1 ∧ j = 8)) FI101 (Or.inr (Or.inr (Or.inr (Or.inr (Or.inr (Or.inr (Or.inr (Or.inr (Or.inr (Or.inr (Or.inl rfl))))))))))) p123
    have t124 := p123 23 1 (fun h => absurd h.1 (by omega))
    have t125 := p123 23 5 (fun h => absurd h.1 (by omega))
    have t126 := p123 23 6 (fun h => absurd h.1 (by omega))
    have t127 := p123 23 7 (fun h => absurd h.1 (by omega))
    have t128 := p123 a1 4 (fun h => absurd h.1 (by omega))
    have t129 := p123 a1 8 (fun h => absurd h.1 (by omega))
    have t130 := p123 23 8 (fun h => absurd h.1 (by omega))
    have t131 := p123 39 2 (fun h => absurd h.1 (by omega))
    have t132 := p123 (a1 + 6) (Int.toNat v2_51) (fun h => absurd h.1 (by omega))
    have f133 := (show 0 ≤ I122 23 1 ∧ I122 23 1 ≤ 1000 from gc_in hI122 R_23 rfl rfl)
    have f134 := (show 0 ≤ I122 23 5 ∧ I122 23 5 ≤ 1000 from gc_in hI122 R_23 rfl rfl)
    have f135 := (show 0 ≤ I122 23 6 ∧ I122 23 6 ≤ 1001 from gc_in hI122 R_23 rfl rfl)
    have f136 := (show 0 ≤ I122 23 7 ∧ I122 23 7 ≤ 125 from gc_in hI122 R_23 rfl rfl)
    have f137 := (show 0 ≤ I122 a1 4 ∧ I122 a1 4 ≤ 6 from gc_in hI122 R_a1 rfl rfl)
    have f138 := (show 0 ≤ I122 a1 8 ∧ I122 a1 8 ≤ 4 from gc_in hI122 R_a1 rfl rfl)
    have f139 := (show 0 ≤ I122 23 8 ∧ I122 23 8 ≤ 999999 from gc_in hI122 R_23 rfl rfl)
    have f140 := (show (-1) ≤ I122 39 2 ∧ I122 39 2 ≤ 999999 from gc_in hI122 R_39 rfl rfl)
    have KLT_I122 := gc_LT_fr KLT_I101 (p123 23 5 (fun h => absurd h.1 (by omega))) (p123 23 6 (fun h => absurd h.1 (by omega))) (p123 23 7 (fun h => absurd h.1 (by omega))) (fun k => p123 24 k (fun h => absurd h.1 (by omega)))
    show gv_X _ _ (153, [(0, .inr (.inr (some 39))), (1, .inr (.inr (some a1))), (2, .inl v2_51)], [], sh, gc_h sh I122 J50 A)
    refine gv_run 2 true hD (pc' := 155) (lv' := [(0, .inr (.inr (some 39))), (1, .inr (.inr (some a1))), (2, .inl v2_51)]) (st' := [.inr (.inr (some a1)), .inr (.inr (some a1))]) (h' := gc_h sh I122 J50 A) (C := ((True ∧ True) ∧ True)) rfl ⟨⟨trivial, trivial⟩, trivial⟩ ?_
    have f141 := (show 0 ≤ I122 a1 8 ∧ I122 a1 8 ≤ 4 from gc_in hI122 R_a1 rfl rfl)
    refine gv_get hD rfl rfl S_a1 ⟨by decide, B_a1⟩ (gc_hI S_a1 rfl) ?_
    show gv_X _ _ (158, [(0, .inr (.inr (some 39))), (1, .inr (.inr (some a1))), (2, .inl v2_51)], [.inl (I122 a1 8), .inr (.inr (some a1))], sh, gc_h sh I122 J50 A)
    refine gv_run 2 true hD (pc' := 160) (lv' := [(0, .inr (.inr (some 39))), (1, .inr (.inr (some a1))), (2, .inl v2_51)]) (st' := [.inl ((I122 a1 8) + 1), .inr (.inr (some a1))]) (h' := gc_h sh I122 J50 A) (C := ((True ∧ True) ∧ True)) rfl ⟨⟨trivial, trivial⟩, trivial⟩ ?_
    refine gv_put hD rfl rfl S_a1 ⟨by decide, B_a1⟩ rfl trivial ?_
    refine gc_st (k := 8) hI122 S_a1 rfl R_a1 (lo := 0) (hi := 4) rfl rfl (by omega) (by omega) (fun I142 hI142 q143 p143 => ?_)
    have FI142 := gc_frs (W := fun q j => (q = 39 ∧ j = 3) ∨ (q = 39 ∧ j = 4) ∨ (q = 23 ∧ j = 5) ∨ (q = 23 ∧ j = 6) ∨ (q = 23 ∧ j = 7) ∨ (q = 23 ∧ j = 8) ∨ (q = 39 ∧ j = 6) ∨ q = (a1 + 1) ∨ q = (a1 + 6) ∨ q = (a1 + 4) ∨ q = (a1 + 5) ∨ (q = a1 ∧ j = 8)) FI122 (Or.inr (Or.inr (Or.inr (Or.inr (Or.inr (Or.inr (Or.inr (Or.inr (Or.inr (Or.inr (Or.inr ⟨rfl, rfl⟩))))))))))) p143
    have t144 := p143 23 1 (fun h => absurd h.1 (by omega))
    have t145 := p143 23 5 (fun h => absurd h.1 (by omega))
    have t146 := p143 23 6 (fun h => absurd h.1 (by omega))
    have t147 := p143 23 7 (fun h => absurd h.1 (by omega))
    have t148 := p143 a1 4 (fun h => absurd h.2 (by decide))
    have t149 := p143 23 8 (fun h => absurd h.1 (by omega))
    have t150 := p143 39 2 (fun h => absurd h.1 (by omega))
    have t151 := p143 (a1 + 6) (Int.toNat v2_51) (fun h => absurd h.1 (by omega))
    have f152 := (show 0 ≤ I142 23 1 ∧ I142 23 1 ≤ 1000 from gc_in hI142 R_23 rfl rfl)
    have f153 := (show 0 ≤ I142 23 5 ∧ I142 23 5 ≤ 1000 from gc_in hI142 R_23 rfl rfl)
    have f154 := (show 0 ≤ I142 23 6 ∧ I142 23 6 ≤ 1001 from gc_in hI142 R_23 rfl rfl)
    have f155 := (show 0 ≤ I142 23 7 ∧ I142 23 7 ≤ 125 from gc_in hI142 R_23 rfl rfl)
    have f156 := (show 0 ≤ I142 a1 4 ∧ I142 a1 4 ≤ 6 from gc_in hI142 R_a1 rfl rfl)
    have f157 := (show 0 ≤ I142 a1 8 ∧ I142 a1 8 ≤ 4 from gc_in hI142 R_a1 rfl rfl)
    have f158 := (show 0 ≤ I142 23 8 ∧ I142 23 8 ≤ 999999 from gc_in hI142 R_23 rfl rfl)
    have f159 := (show (-1) ≤ I142 39 2 ∧ I142 39 2 ≤ 999999 from gc_in hI142 R_39 rfl rfl)
    have KLT_I142 := gc_LT_fr KLT_I122 (p143 23 5 (fun h => absurd h.1 (by omega))) (p143 23 6 (fun h => absurd h.1 (by omega))) (p143 23 7 (fun h => absurd h.1 (by omega))) (fun k => p143 24 k (fun h => absurd h.1 (by omega)))
    show gv_X _ _ (163, [(0, .inr (.inr (some 39))), (1, .inr (.inr (some a1))), (2, .inl v2_51)], [], sh, gc_h sh I142 J50 A)
    refine gv_run 1 true hD (pc' := 164) (lv' := [(0, .inr (.inr (some 39))), (1, .inr (.inr (some a1))), (2, .inl v2_51)]) (st' := [.inl 1]) (h' := gc_h sh I142 J50 A) (C := (True ∧ True)) rfl ⟨trivial, trivial⟩ ?_
    exact gv_zret hD rfl (by omega) ⟨I142, J50, rfl, hI142, FI142, FJ50, KLT_I142, (gc_CT_push (a := v2_51) KCT_I49 (by omega) (by omega) (by omega) (by omega) (fun k hk => by rw [p143 (a1 + 6) k (fun h => absurd h.1 (by omega)), p123 (a1 + 6) k (fun h => absurd h.1 (by omega)), p102 (a1 + 6) k (fun h => absurd h.1 (by omega)), p83 (a1 + 6) k (fun h => hk h.2), p63 (a1 + 6) k (fun h => absurd h.1 (by omega))])), ⟨_, rfl, by omega⟩⟩
  refine gv_run 1 true hD (pc' := 1) (lv' := [(0, .inr (.inr (some 39))), (1, .inr (.inr (some a1)))]) (st' := [.inr (.inr (some 39))]) (h' := gc_h sh I J A) (C := (True ∧ True)) rfl ⟨trivial, trivial⟩ ?_
  refine gv_get hD rfl rfl S_39 ⟨by decide, B_39⟩ (gc_hA S_39 rfl A_39_1) ?_
  show gv_X _ _ (4, [(0, .inr (.inr (some 39))), (1, .inr (.inr (some a1)))], [.inr (.inr (some 23))], sh, gc_h sh I J A)
  have f160 := (show 0 ≤ I 23 8 ∧ I 23 8 ≤ 999999 from gc_in hI R_23 rfl rfl)
  refine gv_get hD rfl rfl S_23 ⟨by decide, B_23⟩ (gc_hI S_23 rfl) ?_
  show gv_X _ _ (7, [(0, .inr (.inr (some 39))), (1, .inr (.inr (some a1)))], [.inl (I 23 8)], sh, gc_h sh I J A)
  refine gv_run 4 true hD (pc' := 11) (lv' := [(2, .inl ((I 23 8) - 1)), (0, .inr (.inr (some 39))), (1, .inr (.inr (some a1)))]) (st' := [.inl ((I 23 8) - 1)]) (h' := gc_h sh I J A) (C := ((((True ∧ True) ∧ True) ∧ True) ∧ True)) rfl ⟨⟨⟨⟨trivial, trivial⟩, trivial⟩, trivial⟩, trivial⟩ ?_
  refine gv_if_lt (t := 39) hD rfl rfl ⟨by omega, by omega⟩ (fun c161 => ?_) (fun c161 => ?_)
  · show gv_X _ _ (39, [(2, .inl ((I 23 8) - 1)), (0, .inr (.inr (some 39))), (1, .inr (.inr (some a1)))], [], sh, gc_h sh I J A)
    refine gv_pick [1] rfl ?_
    exact L39 (by omega)
  · show gv_X _ _ (14, [(2, .inl ((I 23 8) - 1)), (0, .inr (.inr (some 39))), (1, .inr (.inr (some a1)))], [], sh, gc_h sh I J A)
    refine gv_run 2 true hD (pc' := 16) (lv' := [(2, .inl ((I 23 8) - 1)), (0, .inr (.inr (some 39))), (1, .inr (.inr (some a1)))]) (st' := [.inr (.inr (some 39)), .inl ((I 23 8) - 1)]) (h' := gc_h sh I J A) (C := ((True ∧ True) ∧ True)) rfl ⟨⟨trivial, trivial⟩, trivial⟩ ?_
    refine gv_get hD rfl rfl S_39 ⟨by decide, B_39⟩ (gc_hA S_39 rfl A_39_0) ?_
    show gv_X _ _ (19, [(2, .inl ((I 23 8) - 1)), (0, .inr (.inr (some 39))), (1, .inr (.inr (some a1)))], [.inr (.inr (some 1)), .inl ((I 23 8) - 1)], sh, gc_h sh I J A)
    refine gv_get hD rfl rfl S_1 ⟨by decide, B_1⟩ (gc_hA S_1 rfl A_1_7) ?_
    show gv_X _ _ (22, [(2, .inl ((I 23 8) - 1)), (0, .inr (.inr (some 39))), (1, .inr (.inr (some a1)))], [.inr (.inr (some 12)), .inl ((I 23 8) - 1)], sh, gc_h sh I J A)
    refine gv_run 1 true hD (pc' := 23) (lv' := [(2, .inl ((I 23 8) - 1)), (0, .inr (.inr (some 39))), (1, .inr (.inr (some a1)))]) (st' := [.inr (.inr (some a1)), .inr (.inr (some 12)), .inl ((I 23 8) - 1)]) (h' := gc_h sh I J A) (C := (True ∧ True)) rfl ⟨trivial, trivial⟩ ?_
    have f162 := (show 0 ≤ I a1 1 ∧ I a1 1 ≤ 95 from gc_in hI R_a1 rfl rfl)
    refine gv_get hD rfl rfl S_a1 ⟨by decide, B_a1⟩ (gc_hI S_a1 rfl) ?_
    show gv_X _ _ (26, [(2, .inl ((I 23 8) - 1)), (0, .inr (.inr (some 39))), (1, .inr (.inr (some a1)))], [.inl (I a1 1), .inr (.inr (some 12)), .inl ((I 23 8) - 1)], sh, gc_h sh I J A)
    have f163 := (show 0 ≤ I 12 (Int.toNat (I a1 1)) ∧ I 12 (Int.toNat (I a1 1)) ≤ 4 from gc_in hI R_12 rfl rfl)
    refine gv_iald hD rfl S_12 rfl ⟨by decide, B_12⟩ ⟨by omega, by omega⟩ (gc_iI S_12 rfl) ?_
    show gv_X _ _ (27, [(2, .inl ((I 23 8) - 1)), (0, .inr (.inr (some 39))), (1, .inr (.inr (some a1)))], [.inl (I 12 (Int.toNat (I a1 1))), .inl ((I 23 8) - 1)], sh, gc_h sh I J A)
    refine gv_icmp_ge (t := 39) hD rfl rfl ⟨⟨by omega, by omega⟩, ⟨by omega, by omega⟩⟩ (fun c164 => ?_) (fun c164 => ?_)
    · show gv_X _ _ (39, [(2, .inl ((I 23 8) - 1)), (0, .inr (.inr (some 39))), (1, .inr (.inr (some a1)))], [], sh, gc_h sh I J A)
      refine gv_pick [1] rfl ?_
      exact L39 (by omega)
    · show gv_X _ _ (30, [(2, .inl ((I 23 8) - 1)), (0, .inr (.inr (some 39))), (1, .inr (.inr (some a1)))], [], sh, gc_h sh I J A)
      refine gv_run 1 true hD (pc' := 31) (lv' := [(2, .inl ((I 23 8) - 1)), (0, .inr (.inr (some 39))), (1, .inr (.inr (some a1)))]) (st' := [.inr (.inr (some a1))]) (h' := gc_h sh I J A) (C := (True ∧ True)) rfl ⟨trivial, trivial⟩ ?_
      refine gv_get hD rfl rfl S_a1 ⟨by decide, B_a1⟩ (gc_hA S_a1 rfl A_a1_11) ?_
      show gv_X _ _ (34, [(2, .inl ((I 23 8) - 1)), (0, .inr (.inr (some 39))), (1, .inr (.inr (some a1)))], [.inr (.inr (some (a1 + 6)))], sh, gc_h sh I J A)
      refine gv_run 1 true hD (pc' := 35) (lv' := [(2, .inl ((I 23 8) - 1)), (0, .inr (.inr (some 39))), (1, .inr (.inr (some a1)))]) (st' := [.inl ((I 23 8) - 1), .inr (.inr (some (a1 + 6)))]) (h' := gc_h sh I J A) (C := (True ∧ True)) rfl ⟨trivial, trivial⟩ ?_
      have f165 := (show (-1) ≤ I (a1 + 6) (Int.toNat (((I 23 8) - 1))) ∧ I (a1 + 6) (Int.toNat (((I 23 8) - 1))) ≤ 3 from gc_in hI R_a1_6 rfl rfl)
      refine gv_iald hD rfl S_a1_6 rfl ⟨by decide, B_a1_6⟩ ⟨by omega, by omega⟩ (gc_iI S_a1_6 rfl) ?_
      show gv_X _ _ (36, [(2, .inl ((I 23 8) - 1)), (0, .inr (.inr (some 39))), (1, .inr (.inr (some a1)))], [.inl (I (a1 + 6) (Int.toNat (((I 23 8) - 1))))], sh, gc_h sh I J A)
      refine gv_if_lt (t := 52) hD rfl rfl ⟨by omega, by omega⟩ (fun c166 => ?_) (fun c166 => ?_)
      · show gv_X _ _ (52, [(2, .inl ((I 23 8) - 1)), (0, .inr (.inr (some 39))), (1, .inr (.inr (some a1)))], [], sh, gc_h sh I J A)
        refine gv_run 1 true hD (pc' := 53) (lv' := [(2, .inl ((I 23 8) - 1)), (0, .inr (.inr (some 39))), (1, .inr (.inr (some a1)))]) (st' := [.inr (.inr (some 39))]) (h' := gc_h sh I J A) (C := (True ∧ True)) rfl ⟨trivial, trivial⟩ ?_
        refine gv_get hD rfl rfl S_39 ⟨by decide, B_39⟩ (gc_hA S_39 rfl A_39_1) ?_
        show gv_X _ _ (56, [(2, .inl ((I 23 8) - 1)), (0, .inr (.inr (some 39))), (1, .inr (.inr (some a1)))], [.inr (.inr (some 23))], sh, gc_h sh I J A)
        obtain ⟨r167, h167, E167, P167⟩ := d_X9_advance (ws0 := ws0) (tb := tb) hws htb sh ro I J A hI 23  (gc_b23 hb)    (by omega) 
        obtain ⟨I168, J169, rfl, hI168, g167, k167, ⟨rfl, q167⟩⟩ := P167
        have FI168 := gc_frc (W := fun q j => (q = 39 ∧ j = 3) ∨ (q = 39 ∧ j = 4) ∨ (q = 23 ∧ j = 5) ∨ (q = 23 ∧ j = 6) ∨ (q = 23 ∧ j = 7) ∨ (q = 23 ∧ j = 8) ∨ (q = 39 ∧ j = 6) ∨ q = (a1 + 1) ∨ q = (a1 + 6) ∨ q = (a1 + 4) ∨ q = (a1 + 5) ∨ (q = a1 ∧ j = 8)) (V := fun q j => (q = 23 ∧ j = 5) ∨ (q = 23 ∧ j = 6) ∨ (q = 23 ∧ j = 7) ∨ (q = 23 ∧ j = 8)) FI (fun q j h => (h.elim (fun h => (Or.inr (Or.inr (Or.inl h)))) (fun h => (h.elim (fun h => (Or.inr (Or.inr (Or.inr (Or.inl h))))) (fun h => (h.elim (fun h => (Or.inr (Or.inr (Or.inr (Or.inr (Or.inl h)))))) (fun h => (Or.inr (Or.inr (Or.inr (Or.inr (Or.inr (Or.inl h))))))))))))) g167
        have FJ169 := gc_frc (W := fun q j => (q = 23 ∧ j = 9)) (V := fun q j => (q = 23 ∧ j = 9)) FJ (fun q j h => h) k167
        have t170 := (g167 23 1).resolve_left (by omega)
        have t171 := (g167 a1 4).resolve_left (by omega)
        have t172 := (g167 a1 8).resolve_left (by omega)
        have t173 := (g167 39 2).resolve_left (by omega)
        have t174 := (g167 (a1 + 6) (Int.toNat (((I 23 8) - 1)))).resolve_left (by omega)
        have f175 := (show 0 ≤ I168 23 1 ∧ I168 23 1 ≤ 1000 from gc_in hI168 R_23 rfl rfl)
        have f176 := (show 0 ≤ I168 23 5 ∧ I168 23 5 ≤ 1000 from gc_in hI168 R_23 rfl rfl)
        have f177 := (show 0 ≤ I168 23 6 ∧ I168 23 6 ≤ 1001 from gc_in hI168 R_23 rfl rfl)
        have f178 := (show 0 ≤ I168 23 7 ∧ I168 23 7 ≤ 125 from gc_in hI168 R_23 rfl rfl)
        have f179 := (show 0 ≤ I168 a1 4 ∧ I168 a1 4 ≤ 6 from gc_in hI168 R_a1 rfl rfl)
        have f180 := (show 0 ≤ I168 a1 8 ∧ I168 a1 8 ≤ 4 from gc_in hI168 R_a1 rfl rfl)
        have f181 := (show 0 ≤ I168 23 8 ∧ I168 23 8 ≤ 999999 from gc_in hI168 R_23 rfl rfl)
        have f182 := (show (-1) ≤ I168 39 2 ∧ I168 39 2 ≤ 999999 from gc_in hI168 R_39 rfl rfl)
        have KLT_I168 : gc_LT I168 := q167.2.2.2.2.2.2.2
        have KCT_I168 := gc_CT_fr KCT_I ((g167 a1 8).resolve_left (by omega)) (fun k => (g167 (a1 + 6) k).resolve_left (by omega))
        refine gv_callV hD rfl (As := []) (st := []) rfl B_23 S_23 rfl (gc_lV6 hws rfl) (Nat.le_of_ble_eq_true rfl) (gz_Ev_mono (d := 2) (by decide) E167) ?_
        show gv_X _ _ (59, [(2, .inl ((I 23 8) - 1)), (0, .inr (.inr (some 39))), (1, .inr (.inr (some a1)))], [], sh, gc_h sh I168 J169 A)
        refine gv_run 2 true hD (pc' := 61) (lv' := [(2, .inl ((I 23 8) - 1)), (0, .inr (.inr (some 39))), (1, .inr (.inr (some a1)))]) (st' := [.inl 0, .inr (.inr (some 39))]) (h' := gc_h sh I168 J169 A) (C := ((True ∧ True) ∧ True)) rfl ⟨⟨trivial, trivial⟩, trivial⟩ ?_
        refine gv_put hD rfl rfl S_39 ⟨by decide, B_39⟩ rfl trivial ?_
        refine gc_st (k := 6) hI168 S_39 rfl R_39 (lo := 0) (hi := 16777215) rfl rfl (by omega) (by omega) (fun I183 hI183 q184 p184 => ?_)
        have FI183 := gc_frs (W := fun q j => (q = 39 ∧ j = 3) ∨ (q = 39 ∧ j = 4) ∨ (q = 23 ∧ j = 5) ∨ (q = 23 ∧ j = 6) ∨ (q = 23 ∧ j = 7) ∨ (q = 23 ∧ j = 8) ∨ (q = 39 ∧ j = 6) ∨ q = (a1 + 1) ∨ q = (a1 + 6) ∨ q = (a1 + 4) ∨ q = (a1 + 5) ∨ (q = a1 ∧ j = 8)) FI168 (Or.inr (Or.inr (Or.inr (Or.inr (Or.inr (Or.inr (Or.inl ⟨rfl, rfl⟩))))))) p184
        have t185 := p184 23 1 (fun h => absurd h.1 (by omega))
        have t186 := p184 23 5 (fun h => absurd h.1 (by omega))
        have t187 := p184 23 6 (fun h => absurd h.1 (by omega))
        have t188 := p184 23 7 (fun h => absurd h.1 (by omega))
        have t189 := p184 a1 4 (fun h => absurd h.1 (by omega))
        have t190 := p184 a1 8 (fun h => absurd h.1 (by omega))
        have t191 := p184 23 8 (fun h => absurd h.1 (by omega))
        have t192 := p184 39 2 (fun h => absurd h.2 (by decide))
        have t193 := p184 (a1 + 6) (Int.toNat (((I 23 8) - 1))) (fun h => absurd h.1 (by omega))
        have f194 := (show 0 ≤ I183 23 1 ∧ I183 23 1 ≤ 1000 from gc_in hI183 R_23 rfl rfl)
        have f195 := (show 0 ≤ I183 23 5 ∧ I183 23 5 ≤ 1000 from gc_in hI183 R_23 rfl rfl)
        have f196 := (show 0 ≤ I183 23 6 ∧ I183 23 6 ≤ 1001 from gc_in hI183 R_23 rfl rfl)
        have f197 := (show 0 ≤ I183 23 7 ∧ I183 23 7 ≤ 125 from gc_in hI183 R_23 rfl rfl)
        have f198 := (show 0 ≤ I183 a1 4 ∧ I183 a1 4 ≤ 6 from gc_in hI183 R_a1 rfl rfl)
        have f199 := (show 0 ≤ I183 a1 8 ∧ I183 a1 8 ≤ 4 from gc_in hI183 R_a1 rfl rfl)
        have f200 := (show 0 ≤ I183 23 8 ∧ I183 23 8 ≤ 999999 from gc_in hI183 R_23 rfl rfl)
        have f201 := (show (-1) ≤ I183 39 2 ∧ I183 39 2 ≤ 999999 from gc_in hI183 R_39 rfl rfl)
        have KLT_I183 := gc_LT_fr KLT_I168 (p184 23 5 (fun h => absurd h.1 (by omega))) (p184 23 6 (fun h => absurd h.1 (by omega))) (p184 23 7 (fun h => absurd h.1 (by omega))) (fun k => p184 24 k (fun h => absurd h.1 (by omega)))
        have KCT_I183 := gc_CT_fr KCT_I168 (p184 a1 8 (fun h => absurd h.1 (by omega))) (fun k => p184 (a1 + 6) k (fun h => absurd h.1 (by omega)))
        show gv_X _ _ (64, [(2, .inl ((I 23 8) - 1)), (0, .inr (.inr (some 39))), (1, .inr (.inr (some a1)))], [], sh, gc_h sh I183 J169 A)
        refine gv_run 1 true hD (pc' := 65) (lv' := [(2, .inl ((I 23 8) - 1)), (0, .inr (.inr (some 39))), (1, .inr (.inr (some a1)))]) (st' := [.inr (.inr (some 39))]) (h' := gc_h sh I183 J169 A) (C := (True ∧ True)) rfl ⟨trivial, trivial⟩ ?_
        refine gv_get hD rfl rfl S_39 ⟨by decide, B_39⟩ (gc_hA S_39 rfl A_39_1) ?_
        show gv_X _ _ (68, [(2, .inl ((I 23 8) - 1)), (0, .inr (.inr (some 39))), (1, .inr (.inr (some a1)))], [.inr (.inr (some 23))], sh, gc_h sh I183 J169 A)
        have f202 := (show 0 ≤ I183 23 7 ∧ I183 23 7 ≤ 125 from gc_in hI183 R_23 rfl rfl)
        refine gv_get hD rfl rfl S_23 ⟨by decide, B_23⟩ (gc_hI S_23 rfl) ?_
        show gv_X _ _ (71, [(2, .inl ((I 23 8) - 1)), (0, .inr (.inr (some 39))), (1, .inr (.inr (some a1)))], [.inl (I183 23 7)], sh, gc_h sh I183 J169 A)
        refine gv_run 1 true hD (pc' := 73) (lv' := [(2, .inl ((I 23 8) - 1)), (0, .inr (.inr (some 39))), (1, .inr (.inr (some a1)))]) (st' := [.inl 91, .inl (I183 23 7)]) (h' := gc_h sh I183 J169 A) (C := (True ∧ True)) rfl ⟨trivial, trivial⟩ ?_
        refine gv_icmp_ne (t := 110) hD rfl rfl ⟨⟨by omega, by omega⟩, ⟨by omega, by omega⟩⟩ (fun c203 => ?_) (fun c203 => ?_)
        · show gv_X _ _ (110, [(2, .inl ((I 23 8) - 1)), (0, .inr (.inr (some 39))), (1, .inr (.inr (some a1)))], [], sh, gc_h sh I183 J169 A)
          refine gv_pick [1, 2, 0] rfl ?_
          exact L110 I183 J169 (((I 23 8) - 1)) hI183 FI183 FJ169 KLT_I183 KCT_I183 (by omega)
        · show gv_X _ _ (76, [(2, .inl ((I 23 8) - 1)), (0, .inr (.inr (some 39))), (1, .inr (.inr (some a1)))], [], sh, gc_h sh I183 J169 A)
          refine gv_run 1 true hD (pc' := 77) (lv' := [(2, .inl ((I 23 8) - 1)), (0, .inr (.inr (some 39))), (1, .inr (.inr (some a1)))]) (st' := [.inr (.inr (some 39))]) (h' := gc_h sh I183 J169 A) (C := (True ∧ True)) rfl ⟨trivial, trivial⟩ ?_
          refine gv_get hD rfl rfl S_39 ⟨by decide, B_39⟩ (gc_hA S_39 rfl A_39_1) ?_
          show gv_X _ _ (80, [(2, .inl ((I 23 8) - 1)), (0, .inr (.inr (some 39))), (1, .inr (.inr (some a1)))], [.inr (.inr (some 23))], sh, gc_h sh I183 J169 A)
          obtain ⟨r204, h204, E204, P204⟩ := d_X9_advance (ws0 := ws0) (tb := tb) hws htb sh ro I183 J169 A hI183 23  (gc_b23 hb)    (by omega) 
          obtain ⟨I205, J206, rfl, hI205, g204, k204, ⟨rfl, q204⟩⟩ := P204
          have FI205 := gc_frc (W := fun q j => (q = 39 ∧ j = 3) ∨ (q = 39 ∧ j = 4) ∨ (q = 23 ∧ j = 5) ∨ (q = 23 ∧ j = 6) ∨ (q = 23 ∧ j = 7) ∨ (q = 23 ∧ j = 8) ∨ (q = 39 ∧ j = 6) ∨ q = (a1 + 1) ∨ q = (a1 + 6) ∨ q = (a1 + 4) ∨ q = (a1 + 5) ∨ (q = a1 ∧ j = 8)) (V := fun q j => (q = 23 ∧ j = 5) ∨ (q = 23 ∧ j = 6) ∨ (q = 23 ∧ j = 7) ∨ (q = 23 ∧ j = 8)) FI183 (fun q j h => (h.elim (fun h => (Or.inr (Or.inr (Or.inl h)))) (fun h => (h.elim (fun h => (Or.inr (Or.inr (Or.inr (Or.inl h))))) (fun h => (h.elim (fun h => (Or.inr (Or.inr (Or.inr (Or.inr (Or.inl h)))))) (fun h => (Or.inr (Or.inr (Or.inr (Or.inr (Or.inr (Or.inl h))))))))))))) g204
          have FJ206 := gc_frc (W := fun q j => (q = 23 ∧ j = 9)) (V := fun q j => (q = 23 ∧ j = 9)) FJ169 (fun q j h => h) k204
          have t207 := (g204 23 1).resolve_left (by omega)
          have t208 := (g204 a1 4).resolve_left (by omega)
          have t209 := (g204 a1 8).resolve_left (by omega)
          have t210 := (g204 39 2).resolve_left (by omega)
          have t211 := (g204 (a1 + 6) (Int.toNat (((I 23 8) - 1)))).resolve_left (by omega)
          have f212 := (show 0 ≤ I205 23 1 ∧ I205 23 1 ≤ 1000 from gc_in hI205 R_23 rfl rfl)
          have f213 := (show 0 ≤ I205 23 5 ∧ I205 23 5 ≤ 1000 from gc_in hI205 R_23 rfl rfl)
          have f214 := (show 0 ≤ I205 23 6 ∧ I205 23 6 ≤ 1001 from gc_in hI205 R_23 rfl rfl)
          have f215 := (show 0 ≤ I205 23 7 ∧ I205 23 7 ≤ 125 from gc_in hI205 R_23 rfl rfl)
          have f216 := (show 0 ≤ I205 a1 4 ∧ I205 a1 4 ≤ 6 from gc_in hI205 R_a1 rfl rfl)
          have f217 := (show 0 ≤ I205 a1 8 ∧ I205 a1 8 ≤ 4 from gc_in hI205 R_a1 rfl rfl)
          have f218 := (show 0 ≤ I205 23 8 ∧ I205 23 8 ≤ 999999 from gc_in hI205 R_23 rfl rfl)
          have f219 := (show (-1) ≤ I205 39 2 ∧ I205 39 2 ≤ 999999 from gc_in hI205 R_39 rfl rfl)
          have KLT_I205 : gc_LT I205 := q204.2.2.2.2.2.2.2
          have KCT_I205 := gc_CT_fr KCT_I183 ((g204 a1 8).resolve_left (by omega)) (fun k => (g204 (a1 + 6) k).resolve_left (by omega))
          refine gv_callV hD rfl (As := []) (st := []) rfl B_23 S_23 rfl (gc_lV6 hws rfl) (Nat.le_of_ble_eq_true rfl) (gz_Ev_mono (d := 2) (by decide) E204) ?_
          show gv_X _ _ (83, [(2, .inl ((I 23 8) - 1)), (0, .inr (.inr (some 39))), (1, .inr (.inr (some a1)))], [], sh, gc_h sh I205 J206 A)
          refine gv_run 2 true hD (pc' := 85) (lv' := [(2, .inl ((I 23 8) - 1)), (0, .inr (.inr (some 39))), (1, .inr (.inr (some a1)))]) (st' := [.inl 1, .inr (.inr (some 39))]) (h' := gc_h sh I205 J206 A) (C := ((True ∧ True) ∧ True)) rfl ⟨⟨trivial, trivial⟩, trivial⟩ ?_
          obtain ⟨r220, h220, E220, P220⟩ := d_X6_need (ws0 := ws0) (tb := tb) hws htb sh ro I205 J206 A hI205  1 hb   ⟨by omega, by omega⟩  
          obtain ⟨I221, J222, rfl, hI221, g220, k220, ⟨z220, rfl, q220⟩⟩ := P220
          have FI221 := gc_frc (W := fun q j => (q = 39 ∧ j = 3) ∨ (q = 39 ∧ j = 4) ∨ (q = 23 ∧ j = 5) ∨ (q = 23 ∧ j = 6) ∨ (q = 23 ∧ j = 7) ∨ (q = 23 ∧ j = 8) ∨ (q = 39 ∧ j = 6) ∨ q = (a1 + 1) ∨ q = (a1 + 6) ∨ q = (a1 + 4) ∨ q = (a1 + 5) ∨ (q = a1 ∧ j = 8)) (V := fun q j => (q = 39 ∧ j = 3) ∨ (q = 39 ∧ j = 4)) FI205 (fun q j h => (h.elim (fun h => (Or.inl h)) (fun h => (Or.inr (Or.inl h))))) g220
          have t223 := (g220 23 1).resolve_left (by omega)
          have t224 := (g220 23 5).resolve_left (by omega)
          have t225 := (g220 23 6).resolve_left (by omega)
          have t226 := (g220 23 7).resolve_left (by omega)
          have t227 := (g220 a1 4).resolve_left (by omega)
          have t228 := (g220 a1 8).resolve_left (by omega)
          have t229 := (g220 23 8).resolve_left (by omega)
          have t230 := (g220 39 2).resolve_left (by omega)
          have t231 := (g220 (a1 + 6) (Int.toNat (((I 23 8) - 1)))).resolve_left (by omega)
          have f232 := (show 0 ≤ I221 23 1 ∧ I221 23 1 ≤ 1000 from gc_in hI221 R_23 rfl rfl)
          have f233 := (show 0 ≤ I221 23 5 ∧ I221 23 5 ≤ 1000 from gc_in hI221 R_23 rfl rfl)
          have f234 := (show 0 ≤ I221 23 6 ∧ I221 23 6 ≤ 1001 from gc_in hI221 R_23 rfl rfl)
          have f235 := (show 0 ≤ I221 23 7 ∧ I221 23 7 ≤ 125 from gc_in hI221 R_23 rfl rfl)
          have f236 := (show 0 ≤ I221 a1 4 ∧ I221 a1 4 ≤ 6 from gc_in hI221 R_a1 rfl rfl)
          have f237 := (show 0 ≤ I221 a1 8 ∧ I221 a1 8 ≤ 4 from gc_in hI221 R_a1 rfl rfl)
          have f238 := (show 0 ≤ I221 23 8 ∧ I221 23 8 ≤ 999999 from gc_in hI221 R_23 rfl rfl)
          have f239 := (show (-1) ≤ I221 39 2 ∧ I221 39 2 ≤ 999999 from gc_in hI221 R_39 rfl rfl)
          obtain rfl : J206 = J222 := funext fun q => funext fun j => ((k220 q j).resolve_left id).symm
          have KLT_I221 := gc_LT_fr KLT_I205 ((g220 23 5).resolve_left (by omega)) ((g220 23 6).resolve_left (by omega)) ((g220 23 7).resolve_left (by omega)) (fun k => (g220 24 k).resolve_left (by omega))
          have KCT_I221 := gc_CT_fr KCT_I205 ((g220 a1 8).resolve_left (by omega)) (fun k => (g220 (a1 + 6) k).resolve_left (by omega))
          refine gv_callV hD rfl (As := [.inl 1]) (st := []) rfl B_39 S_39 rfl (gc_lV6 hws rfl) (Nat.le_of_ble_eq_true rfl) (gz_Ev_mono (d := 2) (by decide) E220) ?_
          show gv_X _ _ (88, [(2, .inl ((I 23 8) - 1)), (0, .inr (.inr (some 39))), (1, .inr (.inr (some a1)))], [.inl z220], sh, gc_h sh I221 J206 A)
          refine gv_if_eq (t := 108) hD rfl rfl ⟨by omega, by omega⟩ (fun c240 => ?_) (fun c240 => ?_)
          · show gv_X _ _ (108, [(2, .inl ((I 23 8) - 1)), (0, .inr (.inr (some 39))), (1, .inr (.inr (some a1)))], [], sh, gc_h sh I221 J206 A)
            refine gv_pick [] rfl ?_
            exact L108 I221 J206 hI221 FI221 FJ206 KLT_I221 KCT_I221 (by omega)
          · show gv_X _ _ (91, [(2, .inl ((I 23 8) - 1)), (0, .inr (.inr (some 39))), (1, .inr (.inr (some a1)))], [], sh, gc_h sh I221 J206 A)
            refine gv_run 2 true hD (pc' := 93) (lv' := [(2, .inl ((I 23 8) - 1)), (0, .inr (.inr (some 39))), (1, .inr (.inr (some a1)))]) (st' := [.inl 0, .inr (.inr (some 39))]) (h' := gc_h sh I221 J206 A) (C := ((True ∧ True) ∧ True)) rfl ⟨⟨trivial, trivial⟩, trivial⟩ ?_
            obtain ⟨r241, h241, E241, P241⟩ := d_X6_readValues (ws0 := ws0) (tb := tb) hws htb sh ro I221 J206 A hI221  t 0 hb  h_t G_t  ⟨by omega, by omega⟩ (by omega) (by omega) (by omega) (by omega) (by omega) (by omega) KLT_I221
            obtain ⟨I242, J243, rfl, hI242, g241, k241, KLT_I242, ⟨z241, rfl, q241⟩⟩ := P241
            have FI242 := gc_frc (W := fun q j => (q = 39 ∧ j = 3) ∨ (q = 39 ∧ j = 4) ∨ (q = 23 ∧ j = 5) ∨ (q = 23 ∧ j = 6) ∨ (q = 23 ∧ j = 7) ∨ (q = 23 ∧ j = 8) ∨ (q = 39 ∧ j = 6) ∨ q = (a1 + 1) ∨ q = (a1 + 6) ∨ q = (a1 + 4) ∨ q = (a1 + 5) ∨ (q = a1 ∧ j = 8)) (V := fun q j => (q = 39 ∧ j = 3) ∨ (q = 39 ∧ j = 4) ∨ (q = 23 ∧ j = 5) ∨ (q = 23 ∧ j = 6) ∨ (q = 23 ∧ j = 7) ∨ (q = 23 ∧ j = 8) ∨ (q = 39 ∧ j = 6)) FI221 (fun q j h => (h.elim (fun h => (Or.inl h)) (fun h => (h.elim (fun h => (Or.inr (Or.inl h))) (fun h => (h.elim (fun h => (Or.inr (Or.inr (Or.inl h)))) (fun h => (h.elim (fun h => (Or.inr (Or.inr (Or.inr (Or.inl h))))) (fun h => (h.elim (fun h => (Or.inr (Or.inr (Or.inr (Or.inr (Or.inl h)))))) (fun h => (h.elim (fun h => (Or.inr (Or.inr (Or.inr (Or.inr (Or.inr (Or.inl h))))))) (fun h => (Or.inr (Or.inr (Or.inr (Or.inr (Or.inr (Or.inr (Or.inl h)))))))))))))))))))) g241
            have FJ243 := gc_frc (W := fun q j => (q = 23 ∧ j = 9)) (V := fun q j => (q = 23 ∧ j = 9)) FJ206 (fun q j h => h) k241
            have t244 := (g241 23 1).resolve_left (by omega)
            have t245 := (g241 a1 4).resolve_left (by omega)
            have t246 := (g241 a1 8).resolve_left (by omega)
            have t247 := (g241 39 2).resolve_left (by omega)
            have t248 := (g241 (a1 + 6) (Int.toNat (((I 23 8) - 1)))).resolve_left (by omega)
            have f249 := (show 0 ≤ I242 23 1 ∧ I242 23 1 ≤ 1000 from gc_in hI242 R_23 rfl rfl)
            have f250 := (show 0 ≤ I242 23 5 ∧ I242 23 5 ≤ 1000 from gc_in hI242 R_23 rfl rfl)
            have f251 := (show 0 ≤ I242 23 6 ∧ I242 23 6 ≤ 1001 from gc_in hI242 R_23 rfl rfl)
            have f252 := (show 0 ≤ I242 23 7 ∧ I242 23 7 ≤ 125 from gc_in hI242 R_23 rfl rfl)
            have f253 := (show 0 ≤ I242 a1 4 ∧ I242 a1 4 ≤ 6 from gc_in hI242 R_a1 rfl rfl)
            have f254 := (show 0 ≤ I242 a1 8 ∧ I242 a1 8 ≤ 4 from gc_in hI242 R_a1 rfl rfl)
            have f255 := (show 0 ≤ I242 23 8 ∧ I242 23 8 ≤ 999999 from gc_in hI242 R_23 rfl rfl)
            have f256 := (show (-1) ≤ I242 39 2 ∧ I242 39 2 ≤ 999999 from gc_in hI242 R_39 rfl rfl)
            have KCT_I242 := gc_CT_fr KCT_I221 ((g241 a1 8).resolve_left (by omega)) (fun k => (g241 (a1 + 6) k).resolve_left (by omega))
            refine gv_callV hD rfl (As := [.inl 0]) (st := []) rfl B_39 S_39 rfl (gc_lV6 hws rfl) (Nat.le_of_ble_eq_true rfl) (gz_Ev_mono (d := 3) (by decide) E241) ?_
            show gv_X _ _ (96, [(2, .inl ((I 23 8) - 1)), (0, .inr (.inr (some 39))), (1, .inr (.inr (some a1)))], [.inl z241], sh, gc_h sh I242 J243 A)
            refine gv_if_eq (t := 108) hD rfl rfl ⟨by omega, by omega⟩ (fun c257 => ?_) (fun c257 => ?_)
            · show gv_X _ _ (108, [(2, .inl ((I 23 8) - 1)), (0, .inr (.inr (some 39))), (1, .inr (.inr (some a1)))], [], sh, gc_h sh I242 J243 A)
              refine gv_pick [] rfl ?_
              exact L108 I242 J243 hI242 FI242 FJ243 KLT_I242 KCT_I242 (by omega)
            · show gv_X _ _ (99, [(2, .inl ((I 23 8) - 1)), (0, .inr (.inr (some 39))), (1, .inr (.inr (some a1)))], [], sh, gc_h sh I242 J243 A)
              refine gv_run 2 true hD (pc' := 102) (lv' := [(2, .inl ((I 23 8) - 1)), (0, .inr (.inr (some 39))), (1, .inr (.inr (some a1)))]) (st' := [.inl 93, .inr (.inr (some 39))]) (h' := gc_h sh I242 J243 A) (C := ((True ∧ True) ∧ True)) rfl ⟨⟨trivial, trivial⟩, trivial⟩ ?_
              obtain ⟨r258, h258, E258, P258⟩ := d_X6_take (ws0 := ws0) (tb := tb) hws htb sh ro I242 J243 A hI242  93 hb   ⟨by omega, by omega⟩ (by omega) (by omega) (by omega) (by omega) (by omega) (by omega) KLT_I242
              obtain ⟨I259, J260, rfl, hI259, g258, k258, KLT_I259, ⟨z258, rfl, q258⟩⟩ := P258
              have FI259 := gc_frc (W := fun q j => (q = 39 ∧ j = 3) ∨ (q = 39 ∧ j = 4) ∨ (q = 23 ∧ j = 5) ∨ (q = 23 ∧ j = 6) ∨ (q = 23 ∧ j = 7) ∨ (q = 23 ∧ j = 8) ∨ (q = 39 ∧ j = 6) ∨ q = (a1 + 1) ∨ q = (a1 + 6) ∨ q = (a1 + 4) ∨ q = (a1 + 5) ∨ (q = a1 ∧ j = 8)) (V := fun q j => (q = 39 ∧ j = 3) ∨ (q = 39 ∧ j = 4) ∨ (q = 23 ∧ j = 5) ∨ (q = 23 ∧ j = 6) ∨ (q = 23 ∧ j = 7) ∨ (q = 23 ∧ j = 8)) FI242 (fun q j h => (h.elim (fun h => (Or.inl h)) (fun h => (h.elim (fun h => (Or.inr (Or.inl h))) (fun h => (h.elim (fun h => (Or.inr (Or.inr (Or.inl h)))) (fun h => (h.elim (fun h => (Or.inr (Or.inr (Or.inr (Or.inl h))))) (fun h => (h.elim (fun h => (Or.inr (Or.inr (Or.inr (Or.inr (Or.inl h)))))) (fun h => (Or.inr (Or.inr (Or.inr (Or.inr (Or.inr (Or.inl h))))))))))))))))) g258
              have FJ260 := gc_frc (W := fun q j => (q = 23 ∧ j = 9)) (V := fun q j => (q = 23 ∧ j = 9)) FJ243 (fun q j h => h) k258
              have t261 := (g258 23 1).resolve_left (by omega)
              have t262 := (g258 a1 4).resolve_left (by omega)
              have t263 := (g258 a1 8).resolve_left (by omega)
              have t264 := (g258 39 2).resolve_left (by omega)
              have t265 := (g258 (a1 + 6) (Int.toNat (((I 23 8) - 1)))).resolve_left (by omega)
              have f266 := (show 0 ≤ I259 23 1 ∧ I259 23 1 ≤ 1000 from gc_in hI259 R_23 rfl rfl)
              have f267 := (show 0 ≤ I259 23 5 ∧ I259 23 5 ≤ 1000 from gc_in hI259 R_23 rfl rfl)
              have f268 := (show 0 ≤ I259 23 6 ∧ I259 23 6 ≤ 1001 from gc_in hI259 R_23 rfl rfl)
              have f269 := (show 0 ≤ I259 23 7 ∧ I259 23 7 ≤ 125 from gc_in hI259 R_23 rfl rfl)
              have f270 := (show 0 ≤ I259 a1 4 ∧ I259 a1 4 ≤ 6 from gc_in hI259 R_a1 rfl rfl)
              have f271 := (show 0 ≤ I259 a1 8 ∧ I259 a1 8 ≤ 4 from gc_in hI259 R_a1 rfl rfl)
              have f272 := (show 0 ≤ I259 23 8 ∧ I259 23 8 ≤ 999999 from gc_in hI259 R_23 rfl rfl)
              have f273 := (show (-1) ≤ I259 39 2 ∧ I259 39 2 ≤ 999999 from gc_in hI259 R_39 rfl rfl)
              have KCT_I259 := gc_CT_fr KCT_I242 ((g258 a1 8).resolve_left (by omega)) (fun k => (g258 (a1 + 6) k).resolve_left (by omega))
              refine gv_callV hD rfl (As := [.inl 93]) (st := []) rfl B_39 S_39 rfl (gc_lV6 hws rfl) (Nat.le_of_ble_eq_true rfl) (gz_Ev_mono (d := 3) (by decide) E258) ?_
              show gv_X _ _ (105, [(2, .inl ((I 23 8) - 1)), (0, .inr (.inr (some 39))), (1, .inr (.inr (some a1)))], [.inl z258], sh, gc_h sh I259 J260 A)
              refine gv_if_ne (t := 110) hD rfl rfl ⟨by omega, by omega⟩ (fun c274 => ?_) (fun c274 => ?_)
              · show gv_X _ _ (110, [(2, .inl ((I 23 8) - 1)), (0, .inr (.inr (some 39))), (1, .inr (.inr (some a1)))], [], sh, gc_h sh I259 J260 A)
                refine gv_pick [1, 2, 0] rfl ?_
                exact L110 I259 J260 (((I 23 8) - 1)) hI259 FI259 FJ260 KLT_I259 KCT_I259 (by omega)
              · show gv_X _ _ (108, [(2, .inl ((I 23 8) - 1)), (0, .inr (.inr (some 39))), (1, .inr (.inr (some a1)))], [], sh, gc_h sh I259 J260 A)
                refine gv_pick [] rfl ?_
                exact L108 I259 J260 hI259 FI259 FJ260 KLT_I259 KCT_I259 (by omega)
      · show gv_X _ _ (39, [(2, .inl ((I 23 8) - 1)), (0, .inr (.inr (some 39))), (1, .inr (.inr (some a1)))], [], sh, gc_h sh I J A)
        refine gv_pick [1] rfl ?_
        exact L39 (by omega)
