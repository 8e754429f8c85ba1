set_option maxHeartbeats 4000000 in
set_option maxRecDepth 100000 in
theorem d_X6_readNewName_a {ws0 : List Cond} {tb : String → gz_T} (hws : gc_Ws ws0) (htb : gc_tbs tb) (sh : gz_Sh) (ro : Nat → Nat) (I : gr_I) (J : gr_J) (A : gc_A) (hI : gc_Inv ro I) (n ρ : Nat) (a1 : Nat) (hb : gc_Base sh ro A) (h_a1 : gc_isNames sh ro A a1 n ρ)  (KLT_I : gc_LT I) (KTK_I : gc_TK I) : ∃ r h', gz_Ev ws0 tb 5 (yX6_readNewName, cX6_readNewName, 4, (some .boolean)) [.inr (.inr (some 39)), .inr (.inr (some a1))] sh (gc_h sh I J A) r sh h' 0 0 ∧ (∃ (I' : gr_I) (J' : gr_J), h' = gc_h sh I' J' A ∧ gc_Inv ro I' ∧ (∀ q j : Nat, ((q = 39 ∧ j = 3) ∨ (q = 39 ∧ j = 4) ∨ (q = 23 ∧ j = 5) ∨ (q = 23 ∧ j = 6) ∨ (q = 23 ∧ j = 7) ∨ (q = 23 ∧ j = 8) ∨ (q = a1 ∧ j = 1)) ∨ I' q j = I q j) ∧ (∀ q j : Nat, ((q = 23 ∧ j = 9) ∨ q = (a1 + 1)) ∨ J' q j = J q j) ∧ gc_LT I' ∧ gc_TK I' ∧ (∃ z : Int, r = some (.inl z) ∧ 0 ≤ z ∧ z ≤ 1 ∧ (I' 23 1 = I 23 1) ∧ (I 23 5 ≤ I' 23 5) ∧ (I a1 1 ≤ I' a1 1))) := by
  have FI : ∀ q j : Nat, ((q = 39 ∧ j = 3) ∨ (q = 39 ∧ j = 4) ∨ (q = 23 ∧ j = 5) ∨ (q = 23 ∧ j = 6) ∨ (q = 23 ∧ j = 7) ∨ (q = 23 ∧ j = 8) ∨ (q = a1 ∧ j = 1)) ∨ I q j = I q j := fun _ _ => Or.inr rfl
  have FJ : ∀ q j : Nat, ((q = 23 ∧ j = 9) ∨ q = (a1 + 1)) ∨ J q j = J q j := fun _ _ => Or.inr rfl
  have A_39_1 : A 39 1 = some 23 := gc_bA hb rfl
  have B_23 : 23 < 1000000 := by decide
  have B_39 : 39 < 1000000 := by decide
  have R_23 : ro 23 = 3 := gc_bR hb (by decide) rfl
  have S_23 : sh[23]? = some (false, 9, 10) := gc_bS hb rfl
  have S_39 : sh[39]? = some (false, 6, 19) := gc_bS hb rfl
  obtain ⟨S_a1, R_a1, B_a1, A_a1_0, S_a1_1, R_a1_1, B_a1_1, Q_lo, Q_hi, Q_n⟩ := id h_a1
  have N1 : a1 ≠ 23 := fun h => by
    have h9 := S_a1
    rw [h, S_23] at h9
    cases h9
  have N2 : a1 ≠ 39 := fun h => by
    have h9 := S_a1
    rw [h, gc_bS hb (p := 39) rfl] at h9
    cases h9
  have N3 : a1 ≠ 24 := fun h => by
    have h9 := S_a1
    rw [h, gc_bS hb (p := 24) rfl] at h9
    cases h9
  have hD : gv_D (gc_E6 ws0 tb 4 (yX6_readNewName, cX6_readNewName, 4, (some .boolean)) kX6_readNewName) := gq_ok oX6_readNewName
  refine gc_ev6 (d := 4) (l := kX6_readNewName) (Po := fun r h' => (∃ (I' : gr_I) (J' : gr_J), h' = gc_h sh I' J' A ∧ gc_Inv ro I' ∧ (∀ q j : Nat, ((q = 39 ∧ j = 3) ∨ (q = 39 ∧ j = 4) ∨ (q = 23 ∧ j = 5) ∨ (q = 23 ∧ j = 6) ∨ (q = 23 ∧ j = 7) ∨ (q = 23 ∧ j = 8) ∨ (q = a1 ∧ j = 1)) ∨ I' q j = I q j) ∧ (∀ q j : Nat, ((q = 23 ∧ j = 9) ∨ q = (a1 + 1)) ∨ J' q j = J q j) ∧ gc_LT I' ∧ gc_TK I' ∧ (∃ z : Int, r = some (.inl z) ∧ 0 ≤ z ∧ z ≤ 1 ∧ (I' 23 1 = I 23 1) ∧ (I 23 5 ≤ I' 23 5) ∧ (I a1 1 ≤ I' a1 1)))) htb rfl (Nat.le_of_ble_eq_true rfl) ?_
  have N_23__a1 : ¬ (23 = a1) := by omega
  have N_24__a1 : ¬ (24 = a1) := by omega
  have t1 := gc_TK_mo KTK_I
  have f2 := (show 0 ≤ I 23 1 ∧ I 23 1 ≤ 1000 from gc_in hI R_23 rfl rfl)
  have f3 := (show 0 ≤ I 23 5 ∧ I 23 5 ≤ 1000 from gc_in hI R_23 rfl rfl)
  have f4 := (show 0 ≤ I 23 6 ∧ I 23 6 ≤ 1001 from gc_in hI R_23 rfl rfl)
  have f5 := (show 0 ≤ I 23 7 ∧ I 23 7 ≤ 125 from gc_in hI R_23 rfl rfl)
  have f6 := (show 0 ≤ I a1 1 ∧ I a1 1 ≤ ((n : Nat) : Int) from gc_in hI R_a1 Q_lo Q_hi)
  refine gv_run 2 true hD (pc' := 2) (lv' := [(0, .inr (.inr (some 39))), (1, .inr (.inr (some a1)))]) (st' := [.inr (.inr (some a1)), .inr (.inr (some 39))]) (h' := gc_h sh I J A) (C := ((True ∧ True) ∧ True)) rfl ⟨⟨trivial, trivial⟩, trivial⟩ ?_
  obtain ⟨r7, h7, E7, P7⟩ := d_X6_needNew (ws0 := ws0) (tb := tb) hws htb sh ro I J A hI  n ρ a1 hb h_a1    
  obtain ⟨I8, J9, rfl, hI8, g7, k7, ⟨z7, rfl, q7⟩⟩ := P7
  have FI8 := gc_frc (W := fun q j => (q = 39 ∧ j = 3) ∨ (q = 39 ∧ j = 4) ∨ (q = 23 ∧ j = 5) ∨ (q = 23 ∧ j = 6) ∨ (q = 23 ∧ j = 7) ∨ (q = 23 ∧ j = 8) ∨ (q = a1 ∧ j = 1)) (V := fun q j => (q = 39 ∧ j = 3) ∨ (q = 39 ∧ j = 4)) FI (fun q j h => (h.elim (fun h => (Or.inl h)) (fun h => (Or.inr (Or.inl h))))) g7
  have t10 := (g7 23 1).resolve_left (fun h => h.elim (fun h => absurd h.2 (by decide)) (fun h => absurd h.2 (by decide)))
  have t11 := (g7 23 5).resolve_left (fun h => h.elim (fun h => absurd h.2 (by decide)) (fun h => absurd h.2 (by decide)))
  have t12 := (g7 23 6).resolve_left (fun h => h.elim (fun h => absurd h.2 (by decide)) (fun h => absurd h.2 (by decide)))
  have t13 := (g7 23 7).resolve_left (fun h => h.elim (fun h => absurd h.2 (by decide)) (fun h => absurd h.2 (by decide)))
  have t14 := (g7 a1 1).resolve_left (fun h => h.elim (fun h => absurd h.2 (by decide)) (fun h => absurd h.2 (by decide)))
  obtain rfl : J = J9 := funext fun q => funext fun j => ((k7 q j).resolve_left id).symm
  have KLT_I8 := gc_LT_fr KLT_I ((g7 23 5).resolve_left (fun h => h.elim (fun h => absurd h.2 (by decide)) (fun h => absurd h.2 (by decide)))) ((g7 23 6).resolve_left (fun h => h.elim (fun h => absurd h.2 (by decide)) (fun h => absurd h.2 (by decide)))) ((g7 23 7).resolve_left (fun h => h.elim (fun h => absurd h.2 (by decide)) (fun h => absurd h.2 (by decide)))) (fun k => (g7 24 k).resolve_left (fun h => h.elim (fun h => absurd h.1 (by decide)) (fun h => absurd h.1 (by decide))))
  have KTK_I8 := gc_TK_fr KTK_I ((g7 23 1).resolve_left (fun h => h.elim (fun h => absurd h.2 (by decide)) (fun h => absurd h.2 (by decide)))) ((g7 23 5).resolve_left (fun h => h.elim (fun h => absurd h.2 (by decide)) (fun h => absurd h.2 (by decide)))) ((g7 23 6).resolve_left (fun h => h.elim (fun h => absurd h.2 (by decide)) (fun h => absurd h.2 (by decide)))) ((g7 23 7).resolve_left (fun h => h.elim (fun h => absurd h.2 (by decide)) (fun h => absurd h.2 (by decide))))
  refine gv_callV hD rfl (As := [.inr (.inr (some a1))]) (st := []) rfl B_39 S_39 rfl (gc_lV6 hws rfl) (Nat.le_of_ble_eq_true rfl) (gz_Ev_mono (d := 3) (by decide) E7) ?_
  show gv_X _ _ (5, [(0, .inr (.inr (some 39))), (1, .inr (.inr (some a1)))], [.inl z7], sh, gc_h sh I8 J A)
  refine gv_if_ne (t := 10) hD rfl rfl ⟨by omega, by omega⟩ (fun c15 => ?_) (fun c15 => ?_)
  · show gv_X _ _ (10, [(0, .inr (.inr (some 39))), (1, .inr (.inr (some a1)))], [], sh, gc_h sh I8 J A)
    refine gv_run 1 true hD (pc' := 11) (lv' := [(0, .inr (.inr (some 39))), (1, .inr (.inr (some a1)))]) (st' := [.inr (.inr (some 39))]) (h' := gc_h sh I8 J A) (C := (True ∧ True)) rfl ⟨trivial, trivial⟩ ?_
    refine gv_get hD rfl rfl S_39 ⟨by decide, B_39⟩ (gc_hA S_39 rfl A_39_1) ?_
    show gv_X _ _ (14, [(0, .inr (.inr (some 39))), (1, .inr (.inr (some a1)))], [.inr (.inr (some 23))], sh, gc_h sh I8 J A)
    refine gv_get hD rfl rfl S_23 ⟨by decide, B_23⟩ (gc_hJ S_23 rfl) ?_
    show gv_X _ _ (17, [(0, .inr (.inr (some 39))), (1, .inr (.inr (some a1)))], [.inr (.inl (J 23 9))], sh, gc_h sh I8 J A)
    refine gv_run 2 true hD (pc' := 19) (lv' := [(2, .inr (.inl (J 23 9))), (0, .inr (.inr (some 39))), (1, .inr (.inr (some a1)))]) (st' := [.inr (.inr (some 39))]) (h' := gc_h sh I8 J A) (C := ((True ∧ True) ∧ True)) rfl ⟨⟨trivial, trivial⟩, trivial⟩ ?_
    refine gv_get hD rfl rfl S_39 ⟨by decide, B_39⟩ (gc_hA S_39 rfl A_39_1) ?_
    show gv_X _ _ (22, [(2, .inr (.inl (J 23 9))), (0, .inr (.inr (some 39))), (1, .inr (.inr (some a1)))], [.inr (.inr (some 23))], sh, gc_h sh I8 J A)
    have t17 := gc_TK_nx KTK_I8 (by omega)
    obtain ⟨r16, h16, E16, P16⟩ := d_X9_advance (ws0 := ws0) (tb := tb) hws htb sh ro I8 J A hI8 23  (gc_b23 hb)    (by omega) 
    obtain ⟨I18, J19, rfl, hI18, g16, k16, ⟨rfl, V16_0, V16_1, V16_2, V16_3, V16_4, q16⟩⟩ := P16
    have FI18 := gc_frc (W := fun q j => (q = 39 ∧ j = 3) ∨ (q = 39 ∧ j = 4) ∨ (q = 23 ∧ j = 5) ∨ (q = 23 ∧ j = 6) ∨ (q = 23 ∧ j = 7) ∨ (q = 23 ∧ j = 8) ∨ (q = a1 ∧ j = 1)) (V := fun q j => (q = 23 ∧ j = 5) ∨ (q = 23 ∧ j = 6) ∨ (q = 23 ∧ j = 7) ∨ (q = 23 ∧ j = 8)) FI8 (fun q j h => (h.elim (fun h => (Or.inr (Or.inr (Or.inl h)))) (fun h => (h.elim (fun h => (Or.inr (Or.inr (Or.inr (Or.inl h))))) (fun h => (h.elim (fun h => (Or.inr (Or.inr (Or.inr (Or.inr (Or.inl h)))))) (fun h => (Or.inr (Or.inr (Or.inr (Or.inr (Or.inr (Or.inl h))))))))))))) g16
    have FJ19 := gc_frc (W := fun q j => (q = 23 ∧ j = 9) ∨ q = (a1 + 1)) (V := fun q j => (q = 23 ∧ j = 9)) FJ (fun q j h => (Or.inl h)) k16
    have t20 := (g16 23 1).resolve_left (fun h => h.elim (fun h => absurd h.2 (by decide)) (fun h => h.elim (fun h => absurd h.2 (by decide)) (fun h => h.elim (fun h => absurd h.2 (by decide)) (fun h => absurd h.2 (by decide)))))
    have t21 := (g16 a1 1).resolve_left (fun h => h.elim (fun h => absurd h.2 (by decide)) (fun h => h.elim (fun h => absurd h.2 (by decide)) (fun h => h.elim (fun h => absurd h.2 (by decide)) (fun h => absurd h.2 (by decide)))))
    have f22 := (show 0 ≤ I18 23 5 ∧ I18 23 5 ≤ 1000 from gc_in hI18 R_23 rfl rfl)
    have f23 := (show 0 ≤ I18 23 6 ∧ I18 23 6 ≤ 1001 from gc_in hI18 R_23 rfl rfl)
    have f24 := (show 0 ≤ I18 23 7 ∧ I18 23 7 ≤ 125 from gc_in hI18 R_23 rfl rfl)
    have KLT_I18 : gc_LT I18 := q16.2.2
    have KTK_I18 : gc_TK I18 := And.intro V16_0 (And.intro V16_1 (And.intro V16_2 (And.intro V16_3 V16_4)))
    have t25 := gc_TK_mo KTK_I18
    clear V16_0 V16_1 V16_2 V16_3 V16_4
    refine gv_callV hD rfl (As := []) (st := []) rfl B_23 S_23 rfl (gc_lV6 hws rfl) (Nat.le_of_ble_eq_true rfl) (gz_Ev_mono (d := 2) (by decide) E16) ?_
    show gv_X _ _ (25, [(2, .inr (.inl (J 23 9))), (0, .inr (.inr (some 39))), (1, .inr (.inr (some a1)))], [], sh, gc_h sh I18 J19 A)
    refine gv_run 2 true hD (pc' := 27) (lv' := [(2, .inr (.inl (J 23 9))), (0, .inr (.inr (some 39))), (1, .inr (.inr (some a1)))]) (st' := [.inr (.inr (some a1)), .inr (.inr (some 39))]) (h' := gc_h sh I18 J19 A) (C := ((True ∧ True) ∧ True)) rfl ⟨⟨trivial, trivial⟩, trivial⟩ ?_
    obtain ⟨r26, h26, E26, P26⟩ := d_X4_isFull (ws0 := ws0) (tb := tb) hws htb sh ro I18 J19 A hI18 a1 n ρ  h_a1     
    obtain ⟨rfl, ⟨z26, rfl, q26⟩⟩ := P26
    refine gv_callV hD rfl (As := []) (st := [.inr (.inr (some 39))]) rfl B_a1 S_a1 rfl (gc_lV6 hws rfl) (Nat.le_of_ble_eq_true rfl) (gz_Ev_mono (d := 1) (by decide) E26) ?_
    show gv_X _ _ (30, [(2, .inr (.inl (J 23 9))), (0, .inr (.inr (some 39))), (1, .inr (.inr (some a1)))], [.inl z26, .inr (.inr (some 39))], sh, gc_h sh I18 J19 A)
    obtain ⟨r27, h27, E27, P27⟩ := d_X6_closes (ws0 := ws0) (tb := tb) hws htb sh ro I18 J19 A hI18  z26 hb   ⟨by omega, by omega⟩  KLT_I18 KTK_I18
    obtain ⟨I28, J29, rfl, hI28, g27, k27, KLT_I28, KTK_I28, ⟨z27, rfl, q27⟩⟩ := P27
    have FI28 := gc_frc (W := fun q j => (q = 39 ∧ j = 3) ∨ (q = 39 ∧ j = 4) ∨ (q = 23 ∧ j = 5) ∨ (q = 23 ∧ j = 6) ∨ (q = 23 ∧ j = 7) ∨ (q = 23 ∧ j = 8) ∨ (q = a1 ∧ j = 1)) (V := fun q j => (q = 39 ∧ j = 3) ∨ (q = 39 ∧ j = 4) ∨ (q = 23 ∧ j = 5) ∨ (q = 23 ∧ j = 6) ∨ (q = 23 ∧ j = 7) ∨ (q = 23 ∧ j = 8)) FI18 (fun q j h => (h.elim (fun h => (Or.inl h)) (fun h => (h.elim (fun h => (Or.inr (Or.inl h))) (fun h => (h.elim (fun h => (Or.inr (Or.inr (Or.inl h)))) (fun h => (h.elim (fun h => (Or.inr (Or.inr (Or.inr (Or.inl h))))) (fun h => (h.elim (fun h => (Or.inr (Or.inr (Or.inr (Or.inr (Or.inl h)))))) (fun h => (Or.inr (Or.inr (Or.inr (Or.inr (Or.inr (Or.inl h))))))))))))))))) g27
    have FJ29 := gc_frc (W := fun q j => (q = 23 ∧ j = 9) ∨ q = (a1 + 1)) (V := fun q j => (q = 23 ∧ j = 9)) FJ19 (fun q j h => (Or.inl h)) k27
    have t30 := (g27 23 1).resolve_left (fun h => h.elim (fun h => absurd h.2 (by decide)) (fun h => h.elim (fun h => absurd h.2 (by decide)) (fun h => h.elim (fun h => absurd h.2 (by decide)) (fun h => h.elim (fun h => absurd h.2 (by decide)) (fun h => h.elim (fun h => absurd h.2 (by decide)) (fun h => absurd h.2 (by decide)))))))
    have t31 := (g27 a1 1).resolve_left (fun h => h.elim (fun h => absurd h.2 (by decide)) (fun h => h.elim (fun h => absurd h.2 (by decide)) (fun h => h.elim (fun h => absurd h.2 (by decide)) (fun h => h.elim (fun h => absurd h.2 (by decide)) (fun h => h.elim (fun h => absurd h.2 (by decide)) (fun h => absurd h.2 (by decide)))))))
    have f32 := (show 0 ≤ I28 23 5 ∧ I28 23 5 ≤ 1000 from gc_in hI28 R_23 rfl rfl)
    have f33 := (show 0 ≤ I28 23 6 ∧ I28 23 6 ≤ 1001 from gc_in hI28 R_23 rfl rfl)
    have f34 := (show 0 ≤ I28 23 7 ∧ I28 23 7 ≤ 125 from gc_in hI28 R_23 rfl rfl)
    have t35 := gc_TK_mo KTK_I28
    refine gv_callV hD rfl (As := [.inl z26]) (st := []) rfl B_39 S_39 rfl (gc_lV6 hws rfl) (Nat.le_of_ble_eq_true rfl) (gz_Ev_mono (d := 4) (by decide) E27) ?_
    show gv_X _ _ (33, [(2, .inr (.inl (J 23 9))), (0, .inr (.inr (some 39))), (1, .inr (.inr (some a1)))], [.inl z27], sh, gc_h sh I28 J29 A)
    refine gv_if_ne (t := 38) hD rfl rfl ⟨by omega, by omega⟩ (fun c36 => ?_) (fun c36 => ?_)
    · show gv_X _ _ (38, [(2, .inr (.inl (J 23 9))), (0, .inr (.inr (some 39))), (1, .inr (.inr (some a1)))], [], sh, gc_h sh I28 J29 A)
      refine gv_run 2 true hD (pc' := 40) (lv' := [(2, .inr (.inl (J 23 9))), (0, .inr (.inr (some 39))), (1, .inr (.inr (some a1)))]) (st' := [.inr (.inl (J 23 9)), .inr (.inr (some a1))]) (h' := gc_h sh I28 J29 A) (C := ((True ∧ True) ∧ True)) rfl ⟨⟨trivial, trivial⟩, trivial⟩ ?_
      obtain ⟨r37, h37, E37, P37⟩ := d_X4_put (ws0 := ws0) (tb := tb) hws htb sh ro I28 J29 A hI28 a1 n ρ (J 23 9) h_a1     
      obtain ⟨I38, J39, rfl, hI38, g37, k37, ⟨rfl, q37⟩⟩ := P37
      have FI38 := gc_frc (W := fun q j => (q = 39 ∧ j = 3) ∨ (q = 39 ∧ j = 4) ∨ (q = 23 ∧ j = 5) ∨ (q = 23 ∧ j = 6) ∨ (q = 23 ∧ j = 7) ∨ (q = 23 ∧ j = 8) ∨ (q = a1 ∧ j = 1)) (V := fun q j => (q = a1 ∧ j = 1)) FI28 (fun q j h => (Or.inr (Or.inr (Or.inr (Or.inr (Or.inr (Or.inr h))))))) g37
      have FJ39 := gc_frc (W := fun q j => (q = 23 ∧ j = 9) ∨ q = (a1 + 1)) (V := fun q j => q = (a1 + 1)) FJ29 (fun q j h => (Or.inr h)) k37
      have t40 := (g37 23 1).resolve_left (fun h => absurd h.1 N_23__a1)
      have t41 := (g37 23 5).resolve_left (fun h => absurd h.2 (by decide))
      have t42 := (g37 23 6).resolve_left (fun h => absurd h.2 (by decide))
      have t43 := (g37 23 7).resolve_left (fun h => absurd h.2 (by decide))
      have f44 := (show 0 ≤ I38 a1 1 ∧ I38 a1 1 ≤ ((n : Nat) : Int) from gc_in hI38 R_a1 Q_lo Q_hi)
      have KLT_I38 := gc_LT_fr KLT_I28 ((g37 23 5).resolve_left (fun h => absurd h.2 (by decide))) ((g37 23 6).resolve_left (fun h => absurd h.2 (by decide))) ((g37 23 7).resolve_left (fun h => absurd h.2 (by decide))) (fun k => (g37 24 k).resolve_left (fun h => absurd h.1 N_24__a1))
      have KTK_I38 := gc_TK_fr KTK_I28 ((g37 23 1).resolve_left (fun h => absurd h.1 N_23__a1)) ((g37 23 5).resolve_left (fun h => absurd h.2 (by decide))) ((g37 23 6).resolve_left (fun h => absurd h.2 (by decide))) ((g37 23 7).resolve_left (fun h => absurd h.2 (by decide)))
      refine gv_callV hD rfl (As := [.inr (.inl (J 23 9))]) (st := []) rfl B_a1 S_a1 rfl (gc_lV6 hws rfl) (Nat.le_of_ble_eq_true rfl) (gz_Ev_mono (d := 1) (by decide) E37) ?_
      show gv_X _ _ (43, [(2, .inr (.inl (J 23 9))), (0, .inr (.inr (some 39))), (1, .inr (.inr (some a1)))], [], sh, gc_h sh I38 J39 A)
      refine gv_run 1 true hD (pc' := 44) (lv' := [(2, .inr (.inl (J 23 9))), (0, .inr (.inr (some 39))), (1, .inr (.inr (some a1)))]) (st' := [.inl 1]) (h' := gc_h sh I38 J39 A) (C := (True ∧ True)) rfl ⟨trivial, trivial⟩ ?_
      exact gv_zret hD rfl (by omega) ⟨I38, J39, rfl, hI38, FI38, FJ39, KLT_I38, KTK_I38, ⟨_, rfl, by omega⟩⟩
    · show gv_X _ _ (36, [(2, .inr (.inl (J 23 9))), (0, .inr (.inr (some 39))), (1, .inr (.inr (some a1)))], [], sh, gc_h sh I28 J29 A)
      refine gv_run 1 true hD (pc' := 37) (lv' := [(2, .inr (.inl (J 23 9))), (0, .inr (.inr (some 39))), (1, .inr (.inr (some a1)))]) (st' := [.inl 0]) (h' := gc_h sh I28 J29 A) (C := (True ∧ True)) rfl ⟨trivial, trivial⟩ ?_
      exact gv_zret hD rfl (by omega) ⟨I28, J29, rfl, hI28, FI28, FJ29, KLT_I28, KTK_I28, ⟨_, rfl, by omega⟩⟩
  · show gv_X _ _ (8, [(0, .inr (.inr (some 39))), (1, .inr (.inr (some a1)))], [], sh, gc_h sh I8 J A)
    refine gv_run 1 true hD (pc' := 9) (lv' := [(0, .inr (.inr (some 39))), (1, .inr (.inr (some a1)))]) (st' := [.inl 0]) (h' := gc_h sh I8 J A) (C := (True ∧ True)) rfl ⟨trivial, trivial⟩ ?_
    exact gv_zret hD rfl (by omega) ⟨I8, J, rfl, hI8, FI8, FJ, KLT_I8, KTK_I8, ⟨_, rfl, by omega⟩⟩
