set_option maxHeartbeats 4000000 in
set_option maxRecDepth 100000 in
theorem d_X6_readBinder {ws0 : List Cond} {tb : String → gz_T} (hws : gc_Ws ws0) (htb : gc_tbs tb) (sh : gz_Sh) (ro : Nat → Nat) (A : gc_A) (b : Int)  (hb : gc_Base sh ro A) (nr : Nat) (ihR : ∀ (I : gr_I) (J : gr_J) (hI : gc_Inv ro I) (a1 : Int) (a2 : Int) (ha1 : 0 ≤ a1 ∧ a1 ≤ 95) (ha2 : 1 ≤ a2 ∧ a2 ≤ 41) (x0 : I 39 12 ≤ I 23 5) (x1 : I 39 15 ≤ a2 - 1) (x2 : b ≤ -3 - I 12 (Int.toNat a1)) (x3 : b ≤ -3) (KLT_I : gc_LT I) (KTK_I : gc_TK I) (KTO_I : gc_TO b I) (_ : (42 - a2).toNat < nr), ∃ r h', gz_Ev ws0 tb (6 + 2 * nr) (yX6_readTerm, cX6_readTerm, 7, (some .boolean)) [.inr (.inr (some 39)), .inl a1, .inl a2] sh (gc_h sh I J A) r sh h' 0 0 ∧ (∃ (I' : gr_I) (J' : gr_J), h' = gc_h sh I' J' A ∧ gc_Inv ro I' ∧ (∀ q j : Nat, ((q = 39 ∧ j = 3) ∨ (q = 39 ∧ j = 4) ∨ (q = 23 ∧ j = 5) ∨ (q = 23 ∧ j = 6) ∨ (q = 23 ∧ j = 7) ∨ (q = 23 ∧ j = 8) ∨ (q = 39 ∧ j = 12) ∨ (q = 39 ∧ j = 15) ∨ q = 43) ∨ I' q j = I q j) ∧ (∀ q j : Nat, ((q = 23 ∧ j = 9) ∨ q = 44 ∨ q = 45) ∨ J' q j = J q j) ∧ gc_LT I' ∧ gc_TK I' ∧ gc_TO b I' ∧ (∃ z : Int, r = some (.inl z) ∧ 0 ≤ z ∧ z ≤ 1 ∧ (I' 23 1 = I 23 1) ∧ (I 23 5 ≤ I' 23 5) ∧ (I' 39 12 ≤ I' 23 5) ∧ (z = 0 ∨ I' 39 15 = I 39 15) ∧ (I 39 12 ≤ I' 39 12) ∧ (gc_TE z I I')))) (I : gr_I) (J : gr_J) (hI : gc_Inv ro I) (a1 : Int) (a2 : Int) (ha1 : 0 ≤ a1 ∧ a1 ≤ 95) (ha2 : 1 ≤ a2 ∧ a2 ≤ 40) (x0 : I 39 12 ≤ I 23 5) (x1 : I 39 15 ≤ a2 - 1) (x2 : b ≤ -3 - I 12 (Int.toNat a1)) (x3 : b ≤ -3) (x4 : I 23 7 = 92) (KLT_I : gc_LT I) (KTK_I : gc_TK I) (KTO_I : gc_TO b I) (hnr : (41 - a2).toNat < nr) : ∃ r h', gz_Ev ws0 tb (6 + 2 * nr + 1) (yX6_readBinder, cX6_readBinder, 3, (some .boolean)) [.inr (.inr (some 39)), .inl a1, .inl a2] sh (gc_h sh I J A) r sh h' 0 0 ∧ (∃ (I' : gr_I) (J' : gr_J), h' = gc_h sh I' J' A ∧ gc_Inv ro I' ∧ (∀ q j : Nat, ((q = 39 ∧ j = 3) ∨ (q = 39 ∧ j = 4) ∨ (q = 23 ∧ j = 5) ∨ (q = 23 ∧ j = 6) ∨ (q = 23 ∧ j = 7) ∨ (q = 23 ∧ j = 8) ∨ (q = 39 ∧ j = 12) ∨ (q = 39 ∧ j = 15) ∨ q = 43) ∨ I' q j = I q j) ∧ (∀ q j : Nat, ((q = 23 ∧ j = 9) ∨ q = 44 ∨ q = 45) ∨ J' q j = J q j) ∧ gc_LT I' ∧ gc_TK I' ∧ gc_TO b I' ∧ (∃ z : Int, r = some (.inl z) ∧ 0 ≤ z ∧ z ≤ 1 ∧ (I' 23 1 = I 23 1) ∧ (I 23 5 ≤ I' 23 5) ∧ (I' 39 12 ≤ I' 23 5) ∧ (z = 0 ∨ I' 39 15 = I 39 15) ∧ (I 39 12 ≤ I' 39 12) ∧ (gc_TE z I I'))) := by
  have FI : ∀ q j : Nat, ((q = 39 ∧ j = 3) ∨ (q = 39 ∧ j = 4) ∨ (q = 23 ∧ j = 5) ∨ (q = 23 ∧ j = 6) ∨ (q = 23 ∧ j = 7) ∨ (q = 23 ∧ j = 8) ∨ (q = 39 ∧ j = 12) ∨ (q = 39 ∧ j = 15) ∨ q = 43) ∨ I q j = I q j := fun _ _ => Or.inr rfl
  have FJ : ∀ q j : Nat, ((q = 23 ∧ j = 9) ∨ q = 44 ∨ q = 45) ∨ J q j = J q j := fun _ _ => Or.inr rfl
  have A_39_1 : A 39 1 = some 23 := gc_bA hb rfl
  have A_39_16 : A 39 16 = some 45 := gc_bA hb rfl
  have B_23 : 23 < 1000000 := by decide
  have B_39 : 39 < 1000000 := by decide
  have B_45 : 45 < 1000000 := by decide
  have R_23 : ro 23 = 3 := gc_bR hb (by decide) rfl
  have R_39 : ro 39 = 42 := gc_bR hb (by decide) rfl
  have S_23 : sh[23]? = some (false, 9, 10) := gc_bS hb rfl
  have S_39 : sh[39]? = some (false, 6, 19) := gc_bS hb rfl
  have S_45 : sh[45]? = some (true, 2, 41) := gc_bS hb rfl
  have hD : gv_D (gc_E6 ws0 tb (6 + 2 * nr) (yX6_readBinder, cX6_readBinder, 3, (some .boolean)) kX6_readBinder) := gq_ok oX6_readBinder
  refine gc_ev6 (d := (6 + 2 * nr)) (l := kX6_readBinder) (Po := fun r h' => (∃ (I' : gr_I) (J' : gr_J), h' = gc_h sh I' J' A ∧ gc_Inv ro I' ∧ (∀ q j : Nat, ((q = 39 ∧ j = 3) ∨ (q = 39 ∧ j = 4) ∨ (q = 23 ∧ j = 5) ∨ (q = 23 ∧ j = 6) ∨ (q = 23 ∧ j = 7) ∨ (q = 23 ∧ j = 8) ∨ (q = 39 ∧ j = 12) ∨ (q = 39 ∧ j = 15) ∨ q = 43) ∨ I' q j = I q j) ∧ (∀ q j : Nat, ((q = 23 ∧ j = 9) ∨ q = 44 ∨ q = 45) ∨ J' q j = J q j) ∧ gc_LT I' ∧ gc_TK I' ∧ gc_TO b I' ∧ (∃ z : Int, r = some (.inl z) ∧ 0 ≤ z ∧ z ≤ 1 ∧ (I' 23 1 = I 23 1) ∧ (I 23 5 ≤ I' 23 5) ∧ (I' 39 12 ≤ I' 23 5) ∧ (z = 0 ∨ I' 39 15 = I 39 15) ∧ (I 39 12 ≤ I' 39 12) ∧ (gc_TE z I I')))) htb rfl (Nat.le_of_ble_eq_true rfl) ?_
  have t1 := gc_TK_mo KTK_I
  have f2 := (show 0 ≤ I 23 1 ∧ I 23 1 ≤ 1000 from gc_in hI R_23 rfl rfl)
  have f3 := (show 0 ≤ I 23 5 ∧ I 23 5 ≤ 1000 from gc_in hI R_23 rfl rfl)
  have f4 := (show 0 ≤ I 23 6 ∧ I 23 6 ≤ 1001 from gc_in hI R_23 rfl rfl)
  have f5 := (show 0 ≤ I 23 7 ∧ I 23 7 ≤ 125 from gc_in hI R_23 rfl rfl)
  have f6 := (show 0 ≤ I 39 12 ∧ I 39 12 ≤ 2000 from gc_in hI R_39 rfl rfl)
  have f7 := (show 0 ≤ I 39 15 ∧ I 39 15 ≤ 41 from gc_in hI R_39 rfl rfl)
  have L78 : ∀ (I8 : gr_I) (J9 : gr_J) , gc_Inv ro I8 → (∀ q j : Nat, ((q = 39 ∧ j = 3) ∨ (q = 39 ∧ j = 4) ∨ (q = 23 ∧ j = 5) ∨ (q = 23 ∧ j = 6) ∨ (q = 23 ∧ j = 7) ∨ (q = 23 ∧ j = 8) ∨ (q = 39 ∧ j = 12) ∨ (q = 39 ∧ j = 15) ∨ q = 43) ∨ I8 q j = I q j) → (∀ q j : Nat, ((q = 23 ∧ j = 9) ∨ q = 44 ∨ q = 45) ∨ J9 q j = J q j) → gc_LT I8 → gc_TK I8 → gc_TO b I8 → ((I8 39 12 ≤ I8 23 5) ∧ (I 39 12 ≤ I8 39 12) ∧ (b ≤ -3 - I8 12 (Int.toNat a1)) ∧ (I8 23 1 = I 23 1) ∧ (I 23 5 ≤ I8 23 5)) → gv_X (gc_E6 ws0 tb (6 + 2 * nr) (yX6_readBinder, cX6_readBinder, 3, (some .boolean)) kX6_readBinder) (gv_Q cX6_readBinder (some .boolean) sh (fun r h' => (∃ (I' : gr_I) (J' : gr_J), h' = gc_h sh I' J' A ∧ gc_Inv ro I' ∧ (∀ q j : Nat, ((q = 39 ∧ j = 3) ∨ (q = 39 ∧ j = 4) ∨ (q = 23 ∧ j = 5) ∨ (q = 23 ∧ j = 6) ∨ (q = 23 ∧ j = 7) ∨ (q = 23 ∧ j = 8) ∨ (q = 39 ∧ j = 12) ∨ (q = 39 ∧ j = 15) ∨ q = 43) ∨ I' q j = I q j) ∧ (∀ q j : Nat, ((q = 23 ∧ j = 9) ∨ q = 44 ∨ q = 45) ∨ J' q j = J q j) ∧ gc_LT I' ∧ gc_TK I' ∧ gc_TO b I' ∧ (∃ z : Int, r = some (.inl z) ∧ 0 ≤ z ∧ z ≤ 1 ∧ (I' 23 1 = I 23 1) ∧ (I 23 5 ≤ I' 23 5) ∧ (I' 39 12 ≤ I' 23 5) ∧ (z = 0 ∨ I' 39 15 = I 39 15) ∧ (I 39 12 ≤ I' 39 12) ∧ (gc_TE z I I'))))) (78, [], [], sh, gc_h sh I8 J9 A) := by
    intro I8 J9 hI8 FI8 FJ9 KLT_I8 KTK_I8 KTO_I8 m_10
    obtain ⟨e0_10, e1_10, e2_10, e3_10, e4_10⟩ := m_10
    have t11 := gc_TK_mo KTK_I8
    have f12 := (show 0 ≤ I8 23 1 ∧ I8 23 1 ≤ 1000 from gc_in hI8 R_23 rfl rfl)
    have f13 := (show 0 ≤ I8 23 5 ∧ I8 23 5 ≤ 1000 from gc_in hI8 R_23 rfl rfl)
    have f14 := (show 0 ≤ I8 23 6 ∧ I8 23 6 ≤ 1001 from gc_in hI8 R_23 rfl rfl)
    have f15 := (show 0 ≤ I8 23 7 ∧ I8 23 7 ≤ 125 from gc_in hI8 R_23 rfl rfl)
    have f16 := (show 0 ≤ I8 39 12 ∧ I8 39 12 ≤ 2000 from gc_in hI8 R_39 rfl rfl)
    have f17 := (show 0 ≤ I8 39 15 ∧ I8 39 15 ≤ 41 from gc_in hI8 R_39 rfl rfl)
    refine gv_run 1 true hD (pc' := 79) (lv' := []) (st' := [.inl 0]) (h' := gc_h sh I8 J9 A) (C := (True ∧ True)) rfl ⟨trivial, trivial⟩ ?_
    exact gv_zret hD rfl (by omega) ⟨I8, J9, rfl, hI8, FI8, FJ9, KLT_I8, KTK_I8, KTO_I8, ⟨_, rfl, by omega, by omega, by omega, by omega, by omega, by omega, by omega, (Or.inl (by omega))⟩⟩
  refine gv_run 1 true hD (pc' := 1) (lv' := [(0, .inr (.inr (some 39))), (1, .inl a1), (2, .inl a2)]) (st' := [.inr (.inr (some 39))]) (h' := gc_h sh I J A) (C := (True ∧ True)) rfl ⟨trivial, trivial⟩ ?_
  refine gv_get hD rfl rfl S_39 ⟨by decide, B_39⟩ (gc_hA S_39 rfl A_39_1) ?_
  show gv_X _ _ (4, [(0, .inr (.inr (some 39))), (1, .inl a1), (2, .inl a2)], [.inr (.inr (some 23))], sh, gc_h sh I J A)
  have t19 := gc_TK_nx KTK_I (by omega)
  have t20 := gc_TK_st KTK_I (by omega)
  obtain ⟨r18, h18, E18, P18⟩ := d_X9_advance (ws0 := ws0) (tb := tb) hws htb sh ro I J A hI 23  (gc_b23 hb)    (by omega) 
  obtain ⟨I21, J22, rfl, hI21, g18, k18, ⟨rfl, V18_0, V18_1, V18_2, V18_3, V18_4, q18⟩⟩ := P18
  have FI21 := gc_frc (W := fun q j => (q = 39 ∧ j = 3) ∨ (q = 39 ∧ j = 4) ∨ (q = 23 ∧ j = 5) ∨ (q = 23 ∧ j = 6) ∨ (q = 23 ∧ j = 7) ∨ (q = 23 ∧ j = 8) ∨ (q = 39 ∧ j = 12) ∨ (q = 39 ∧ j = 15) ∨ q = 43) (V := fun q j => (q = 23 ∧ j = 5) ∨ (q = 23 ∧ j = 6) ∨ (q = 23 ∧ j = 7) ∨ (q = 23 ∧ j = 8)) FI (fun q j h => (h.elim (fun h => (Or.inr (Or.inr (Or.inl h)))) (fun h => (h.elim (fun h => (Or.inr (Or.inr (Or.inr (Or.inl h))))) (fun h => (h.elim (fun h => (Or.inr (Or.inr (Or.inr (Or.inr (Or.inl h)))))) (fun h => (Or.inr (Or.inr (Or.inr (Or.inr (Or.inr (Or.inl h))))))))))))) g18
  have FJ22 := gc_frc (W := fun q j => (q = 23 ∧ j = 9) ∨ q = 44 ∨ q = 45) (V := fun q j => (q = 23 ∧ j = 9)) FJ (fun q j h => (Or.inl h)) k18
  have t23 := (g18 23 1).resolve_left (fun h => h.elim (fun h => absurd h.2 (by decide)) (fun h => h.elim (fun h => absurd h.2 (by decide)) (fun h => h.elim (fun h => absurd h.2 (by decide)) (fun h => absurd h.2 (by decide)))))
  have t24 := (g18 39 12).resolve_left (fun h => h.elim (fun h => absurd h.2 (by decide)) (fun h => h.elim (fun h => absurd h.2 (by decide)) (fun h => h.elim (fun h => absurd h.2 (by decide)) (fun h => absurd h.2 (by decide)))))
  have t25 := (g18 39 15).resolve_left (fun h => h.elim (fun h => absurd h.2 (by decide)) (fun h => h.elim (fun h => absurd h.2 (by decide)) (fun h => h.elim (fun h => absurd h.2 (by decide)) (fun h => absurd h.2 (by decide)))))
  have t26 := (g18 12 (Int.toNat a1)).resolve_left (fun h => h.elim (fun h => absurd h.1 (by decide)) (fun h => h.elim (fun h => absurd h.1 (by decide)) (fun h => h.elim (fun h => absurd h.1 (by decide)) (fun h => absurd h.1 (by decide)))))
  have f27 := (show 0 ≤ I21 23 5 ∧ I21 23 5 ≤ 1000 from gc_in hI21 R_23 rfl rfl)
  have f28 := (show 0 ≤ I21 23 6 ∧ I21 23 6 ≤ 1001 from gc_in hI21 R_23 rfl rfl)
  have f29 := (show 0 ≤ I21 23 7 ∧ I21 23 7 ≤ 125 from gc_in hI21 R_23 rfl rfl)
  have KLT_I21 : gc_LT I21 := q18.2.2
  have KTO_I21 := gc_TO_fr KTO_I ((g18 39 12).resolve_left (fun h => h.elim (fun h => absurd h.2 (by decide)) (fun h => h.elim (fun h => absurd h.2 (by decide)) (fun h => h.elim (fun h => absurd h.2 (by decide)) (fun h => absurd h.2 (by decide)))))) (fun k => (g18 43 k).resolve_left (fun h => h.elim (fun h => absurd h.1 (by decide)) (fun h => h.elim (fun h => absurd h.1 (by decide)) (fun h => h.elim (fun h => absurd h.1 (by decide)) (fun h => absurd h.1 (by decide))))))
  have KTK_I21 : gc_TK I21 := And.intro V18_0 (And.intro V18_1 (And.intro V18_2 (And.intro V18_3 V18_4)))
  have t30 := gc_TK_mo KTK_I21
  clear V18_0 V18_1 V18_2 V18_3 V18_4
  refine gv_callV hD rfl (As := []) (st := []) rfl B_23 S_23 rfl (gc_lV6 hws rfl) (Nat.le_of_ble_eq_true rfl) (gz_Ev_mono (d := 2) (by omega) E18) ?_
  show gv_X _ _ (7, [(0, .inr (.inr (some 39))), (1, .inl a1), (2, .inl a2)], [], sh, gc_h sh I21 J22 A)
  refine gv_run 2 true hD (pc' := 9) (lv' := [(0, .inr (.inr (some 39))), (1, .inl a1), (2, .inl a2)]) (st' := [.inl 1, .inr (.inr (some 39))]) (h' := gc_h sh I21 J22 A) (C := ((True ∧ True) ∧ True)) rfl ⟨⟨trivial, trivial⟩, trivial⟩ ?_
  obtain ⟨r31, h31, E31, P31⟩ := d_X6_need (ws0 := ws0) (tb := tb) hws htb sh ro I21 J22 A hI21  1 hb   ⟨by omega, by omega⟩  
  obtain ⟨I32, J33, rfl, hI32, g31, k31, ⟨z31, rfl, q31⟩⟩ := P31
  have FI32 := gc_frc (W := fun q j => (q = 39 ∧ j = 3) ∨ (q = 39 ∧ j = 4) ∨ (q = 23 ∧ j = 5) ∨ (q = 23 ∧ j = 6) ∨ (q = 23 ∧ j = 7) ∨ (q = 23 ∧ j = 8) ∨ (q = 39 ∧ j = 12) ∨ (q = 39 ∧ j = 15) ∨ q = 43) (V := fun q j => (q = 39 ∧ j = 3) ∨ (q = 39 ∧ j = 4)) FI21 (fun q j h => (h.elim (fun h => (Or.inl h)) (fun h => (Or.inr (Or.inl h))))) g31
  have t34 := (g31 23 1).resolve_left (fun h => h.elim (fun h => absurd h.2 (by decide)) (fun h => absurd h.2 (by decide)))
  have t35 := (g31 23 5).resolve_left (fun h => h.elim (fun h => absurd h.2 (by decide)) (fun h => absurd h.2 (by decide)))
  have t36 := (g31 23 6).resolve_left (fun h => h.elim (fun h => absurd h.2 (by decide)) (fun h => absurd h.2 (by decide)))
  have t37 := (g31 23 7).resolve_left (fun h => h.elim (fun h => absurd h.2 (by decide)) (fun h => absurd h.2 (by decide)))
  have t38 := (g31 39 12).resolve_left (fun h => h.elim (fun h => absurd h.2 (by decide)) (fun h => absurd h.2 (by decide)))
  have t39 := (g31 39 15).resolve_left (fun h => h.elim (fun h => absurd h.2 (by decide)) (fun h => absurd h.2 (by decide)))
  have t40 := (g31 12 (Int.toNat a1)).resolve_left (fun h => h.elim (fun h => absurd h.1 (by decide)) (fun h => absurd h.1 (by decide)))
  obtain rfl : J22 = J33 := funext fun q => funext fun j => ((k31 q j).resolve_left id).symm
  have KLT_I32 := gc_LT_fr KLT_I21 ((g31 23 5).resolve_left (fun h => h.elim (fun h => absurd h.2 (by decide)) (fun h => absurd h.2 (by decide)))) ((g31 23 6).resolve_left (fun h => h.elim (fun h => absurd h.2 (by decide)) (fun h => absurd h.2 (by decide)))) ((g31 23 7).resolve_left (fun h => h.elim (fun h => absurd h.2 (by decide)) (fun h => absurd h.2 (by decide)))) (fun k => (g31 24 k).resolve_left (fun h => h.elim (fun h => absurd h.1 (by decide)) (fun h => absurd h.1 (by decide))))
  have KTK_I32 := gc_TK_fr KTK_I21 ((g31 23 1).resolve_left (fun h => h.elim (fun h => absurd h.2 (by decide)) (fun h => absurd h.2 (by decide)))) ((g31 23 5).resolve_left (fun h => h.elim (fun h => absurd h.2 (by decide)) (fun h => absurd h.2 (by decide)))) ((g31 23 6).resolve_left (fun h => h.elim (fun h => absurd h.2 (by decide)) (fun h => absurd h.2 (by decide)))) ((g31 23 7).resolve_left (fun h => h.elim (fun h => absurd h.2 (by decide)) (fun h => absurd h.2 (by decide))))
  have KTO_I32 := gc_TO_fr KTO_I21 ((g31 39 12).resolve_left (fun h => h.elim (fun h => absurd h.2 (by decide)) (fun h => absurd h.2 (by decide)))) (fun k => (g31 43 k).resolve_left (fun h => h.elim (fun h => absurd h.1 (by decide)) (fun h => absurd h.1 (by decide))))
  refine gv_callV hD rfl (As := [.inl 1]) (st := []) rfl B_39 S_39 rfl (gc_lV6 hws rfl) (Nat.le_of_ble_eq_true rfl) (gz_Ev_mono (d := 2) (by omega) E31) ?_
  show gv_X _ _ (12, [(0, .inr (.inr (some 39))), (1, .inl a1), (2, .inl a2)], [.inl z31], sh, gc_h sh I32 J22 A)
  refine gv_if_ne (t := 17) hD rfl rfl ⟨by omega, by omega⟩ (fun c41 => ?_) (fun c41 => ?_)
  · show gv_X _ _ (17, [(0, .inr (.inr (some 39))), (1, .inl a1), (2, .inl a2)], [], sh, gc_h sh I32 J22 A)
    refine gv_run 1 true hD (pc' := 18) (lv' := [(0, .inr (.inr (some 39))), (1, .inl a1), (2, .inl a2)]) (st' := [.inr (.inr (some 39))]) (h' := gc_h sh I32 J22 A) (C := (True ∧ True)) rfl ⟨trivial, trivial⟩ ?_
    refine gv_get hD rfl rfl S_39 ⟨by decide, B_39⟩ (gc_hA S_39 rfl A_39_16) ?_
    show gv_X _ _ (21, [(0, .inr (.inr (some 39))), (1, .inl a1), (2, .inl a2)], [.inr (.inr (some 45))], sh, gc_h sh I32 J22 A)
    refine gv_run 2 true hD (pc' := 23) (lv' := [(0, .inr (.inr (some 39))), (1, .inl a1), (2, .inl a2)]) (st' := [.inr (.inr (some 39)), .inr (.inr (some 39)), .inr (.inr (some 45))]) (h' := gc_h sh I32 J22 A) (C := ((True ∧ True) ∧ True)) rfl ⟨⟨trivial, trivial⟩, trivial⟩ ?_
    have f42 := (show 0 ≤ I32 39 15 ∧ I32 39 15 ≤ 41 from gc_in hI32 R_39 rfl rfl)
    refine gv_get hD rfl rfl S_39 ⟨by decide, B_39⟩ (gc_hI S_39 rfl) ?_
    show gv_X _ _ (26, [(0, .inr (.inr (some 39))), (1, .inl a1), (2, .inl a2)], [.inl (I32 39 15), .inr (.inr (some 39)), .inr (.inr (some 45))], sh, gc_h sh I32 J22 A)
    refine gv_run 3 true hD (pc' := 29) (lv' := [(0, .inr (.inr (some 39))), (1, .inl a1), (2, .inl a2)]) (st' := [.inl ((I32 39 15) + 1), .inr (.inr (some 39)), .inl (I32 39 15), .inr (.inr (some 45))]) (h' := gc_h sh I32 J22 A) (C := (((True ∧ True) ∧ True) ∧ True)) rfl ⟨⟨⟨trivial, trivial⟩, trivial⟩, trivial⟩ ?_
    refine gv_put hD rfl rfl S_39 ⟨by decide, B_39⟩ rfl trivial ?_
    refine gc_st (k := 15) hI32 S_39 rfl R_39 (lo := 0) (hi := 41) rfl rfl (by omega) (by omega) (fun I43 hI43 q44 p44 => ?_)
    have FI43 := gc_frs (W := fun q j => (q = 39 ∧ j = 3) ∨ (q = 39 ∧ j = 4) ∨ (q = 23 ∧ j = 5) ∨ (q = 23 ∧ j = 6) ∨ (q = 23 ∧ j = 7) ∨ (q = 23 ∧ j = 8) ∨ (q = 39 ∧ j = 12) ∨ (q = 39 ∧ j = 15) ∨ q = 43) FI32 (Or.inr (Or.inr (Or.inr (Or.inr (Or.inr (Or.inr (Or.inr (Or.inl ⟨rfl, rfl⟩)))))))) p44
    have t45 := p44 23 1 (fun h => absurd h.2 (by decide))
    have t46 := p44 23 5 (fun h => absurd h.2 (by decide))
    have t47 := p44 23 6 (fun h => absurd h.2 (by decide))
    have t48 := p44 23 7 (fun h => absurd h.2 (by decide))
    have t49 := p44 39 12 (fun h => absurd h.2 (by decide))
    have t50 := p44 12 (Int.toNat a1) (fun h => absurd h.1 (by decide))
    have f51 := (show 0 ≤ I43 39 15 ∧ I43 39 15 ≤ 41 from gc_in hI43 R_39 rfl rfl)
    have KLT_I43 := gc_LT_fr KLT_I32 (p44 23 5 (fun h => absurd h.2 (by decide))) (p44 23 6 (fun h => absurd h.2 (by decide))) (p44 23 7 (fun h => absurd h.2 (by decide))) (fun k => p44 24 k (fun h => absurd h.1 (by decide)))
    have KTK_I43 := gc_TK_fr KTK_I32 (p44 23 1 (fun h => absurd h.2 (by decide))) (p44 23 5 (fun h => absurd h.2 (by decide))) (p44 23 6 (fun h => absurd h.2 (by decide))) (p44 23 7 (fun h => absurd h.2 (by decide)))
    have KTO_I43 := gc_TO_fr KTO_I32 (p44 39 12 (fun h => absurd h.2 (by decide))) (fun k => p44 43 k (fun h => absurd h.1 (by decide)))
    show gv_X _ _ (32, [(0, .inr (.inr (some 39))), (1, .inl a1), (2, .inl a2)], [.inl (I32 39 15), .inr (.inr (some 45))], sh, gc_h sh I43 J22 A)
    refine gv_run 1 true hD (pc' := 33) (lv' := [(0, .inr (.inr (some 39))), (1, .inl a1), (2, .inl a2)]) (st' := [.inr (.inr (some 39)), .inl (I32 39 15), .inr (.inr (some 45))]) (h' := gc_h sh I43 J22 A) (C := (True ∧ True)) rfl ⟨trivial, trivial⟩ ?_
    refine gv_get hD rfl rfl S_39 ⟨by decide, B_39⟩ (gc_hA S_39 rfl A_39_1) ?_
    show gv_X _ _ (36, [(0, .inr (.inr (some 39))), (1, .inl a1), (2, .inl a2)], [.inr (.inr (some 23)), .inl (I32 39 15), .inr (.inr (some 45))], sh, gc_h sh I43 J22 A)
    refine gv_get hD rfl rfl S_23 ⟨by decide, B_23⟩ (gc_hJ S_23 rfl) ?_
    show gv_X _ _ (39, [(0, .inr (.inr (some 39))), (1, .inl a1), (2, .inl a2)], [.inr (.inl (J22 23 9)), .inl (I32 39 15), .inr (.inr (some 45))], sh, gc_h sh I43 J22 A)
    refine gv_last hD rfl S_45 ⟨by decide, B_45⟩ ⟨by omega, by omega⟩ ?_
    refine gc_stJ S_45 rfl (fun J52 q53 p53 => ?_)
    have FJ52 := gc_frs (W := fun q j => (q = 23 ∧ j = 9) ∨ q = 44 ∨ q = 45) FJ22 (Or.inr (Or.inr rfl)) p53
    show gv_X _ _ (40, [(0, .inr (.inr (some 39))), (1, .inl a1), (2, .inl a2)], [], sh, gc_h sh I43 J52 A)
    refine gv_run 2 true hD (pc' := 42) (lv' := [(0, .inr (.inr (some 39))), (1, .inl a1), (2, .inl a2)]) (st' := [.inr (.inr (some 39)), .inr (.inr (some 39))]) (h' := gc_h sh I43 J52 A) (C := ((True ∧ True) ∧ True)) rfl ⟨⟨trivial, trivial⟩, trivial⟩ ?_
    have f54 := (show 0 ≤ I43 39 12 ∧ I43 39 12 ≤ 2000 from gc_in hI43 R_39 rfl rfl)
    refine gv_get hD rfl rfl S_39 ⟨by decide, B_39⟩ (gc_hI S_39 rfl) ?_
    show gv_X _ _ (45, [(0, .inr (.inr (some 39))), (1, .inl a1), (2, .inl a2)], [.inl (I43 39 12), .inr (.inr (some 39))], sh, gc_h sh I43 J52 A)
    refine gv_run 2 true hD (pc' := 48) (lv' := [(0, .inr (.inr (some 39))), (1, .inl a1), (2, .inl a2)]) (st' := [.inr (.inl (Int64.ofNat 0)), .inl (-2), .inl (I43 39 12), .inr (.inr (some 39))]) (h' := gc_h sh I43 J52 A) (C := ((True ∧ True) ∧ True)) rfl ⟨⟨trivial, trivial⟩, trivial⟩ ?_
    obtain ⟨r55, h55, E55, P55⟩ := d_X6_putNode (ws0 := ws0) (tb := tb) hws htb sh ro I43 J52 A hI43  b (I43 39 12) (-2) (Int64.ofNat 0) hb   ⟨by omega, by omega⟩ ⟨by omega, by omega⟩ (by omega) (by omega) (by omega) KTO_I43
    obtain ⟨I56, J57, rfl, hI56, g55, k55, KTO_I56, ⟨rfl, q55⟩⟩ := P55
    have FI56 := gc_frc (W := fun q j => (q = 39 ∧ j = 3) ∨ (q = 39 ∧ j = 4) ∨ (q = 23 ∧ j = 5) ∨ (q = 23 ∧ j = 6) ∨ (q = 23 ∧ j = 7) ∨ (q = 23 ∧ j = 8) ∨ (q = 39 ∧ j = 12) ∨ (q = 39 ∧ j = 15) ∨ q = 43) (V := fun q j => (q = 39 ∧ j = 12) ∨ q = 43) FI43 (fun q j h => (h.elim (fun h => (Or.inr (Or.inr (Or.inr (Or.inr (Or.inr (Or.inr (Or.inl h)))))))) (fun h => (Or.inr (Or.inr (Or.inr (Or.inr (Or.inr (Or.inr (Or.inr (Or.inr h))))))))))) g55
    have FJ57 := gc_frc (W := fun q j => (q = 23 ∧ j = 9) ∨ q = 44 ∨ q = 45) (V := fun q j => q = 44) FJ52 (fun q j h => (Or.inr (Or.inl h))) k55
    have t58 := (g55 23 1).resolve_left (fun h => h.elim (fun h => absurd h.2 (by decide)) (fun h => absurd h (by decide)))
    have t59 := (g55 23 5).resolve_left (fun h => h.elim (fun h => absurd h.2 (by decide)) (fun h => absurd h (by decide)))
    have t60 := (g55 23 6).resolve_left (fun h => h.elim (fun h => absurd h.2 (by decide)) (fun h => absurd h (by decide)))
    have t61 := (g55 23 7).resolve_left (fun h => h.elim (fun h => absurd h.2 (by decide)) (fun h => absurd h (by decide)))
    have t62 := (g55 39 15).resolve_left (fun h => h.elim (fun h => absurd h.2 (by decide)) (fun h => absurd h (by decide)))
    have t63 := (g55 12 (Int.toNat a1)).resolve_left (fun h => h.elim (fun h => absurd h.1 (by decide)) (fun h => absurd h (by decide)))
    have f64 := (show 0 ≤ I56 39 12 ∧ I56 39 12 ≤ 2000 from gc_in hI56 R_39 rfl rfl)
    have KLT_I56 := gc_LT_fr KLT_I43 ((g55 23 5).resolve_left (fun h => h.elim (fun h => absurd h.2 (by decide)) (fun h => absurd h (by decide)))) ((g55 23 6).resolve_left (fun h => h.elim (fun h => absurd h.2 (by decide)) (fun h => absurd h (by decide)))) ((g55 23 7).resolve_left (fun h => h.elim (fun h => absurd h.2 (by decide)) (fun h => absurd h (by decide)))) (fun k => (g55 24 k).resolve_left (fun h => h.elim (fun h => absurd h.1 (by decide)) (fun h => absurd h (by decide))))
    have KTK_I56 := gc_TK_fr KTK_I43 ((g55 23 1).resolve_left (fun h => h.elim (fun h => absurd h.2 (by decide)) (fun h => absurd h (by decide)))) ((g55 23 5).resolve_left (fun h => h.elim (fun h => absurd h.2 (by decide)) (fun h => absurd h (by decide)))) ((g55 23 6).resolve_left (fun h => h.elim (fun h => absurd h.2 (by decide)) (fun h => absurd h (by decide)))) ((g55 23 7).resolve_left (fun h => h.elim (fun h => absurd h.2 (by decide)) (fun h => absurd h (by decide))))
    refine gv_callV hD rfl (As := [.inl (I43 39 12), .inl (-2), .inr (.inl (Int64.ofNat 0))]) (st := []) rfl B_39 S_39 rfl (gc_lV6 hws rfl) (Nat.le_of_ble_eq_true rfl) (gz_Ev_mono (d := 1) (by omega) E55) ?_
    show gv_X _ _ (51, [(0, .inr (.inr (some 39))), (1, .inl a1), (2, .inl a2)], [], sh, gc_h sh I56 J57 A)
    refine gv_run 1 true hD (pc' := 52) (lv' := [(0, .inr (.inr (some 39))), (1, .inl a1), (2, .inl a2)]) (st' := [.inr (.inr (some 39))]) (h' := gc_h sh I56 J57 A) (C := (True ∧ True)) rfl ⟨trivial, trivial⟩ ?_
    refine gv_get hD rfl rfl S_39 ⟨by decide, B_39⟩ (gc_hA S_39 rfl A_39_1) ?_
    show gv_X _ _ (55, [(0, .inr (.inr (some 39))), (1, .inl a1), (2, .inl a2)], [.inr (.inr (some 23))], sh, gc_h sh I56 J57 A)
    have t66 := gc_TK_nx KTK_I56 (by omega)
    have t67 := gc_TK_st KTK_I56 (by omega)
    obtain ⟨r65, h65, E65, P65⟩ := d_X9_advance (ws0 := ws0) (tb := tb) hws htb sh ro I56 J57 A hI56 23  (gc_b23 hb)    (by omega) 
    obtain ⟨I68, J69, rfl, hI68, g65, k65, ⟨rfl, V65_0, V65_1, V65_2, V65_3, V65_4, q65⟩⟩ := P65
    have FI68 := gc_frc (W := fun q j => (q = 39 ∧ j = 3) ∨ (q = 39 ∧ j = 4) ∨ (q = 23 ∧ j = 5) ∨ (q = 23 ∧ j = 6) ∨ (q = 23 ∧ j = 7) ∨ (q = 23 ∧ j = 8) ∨ (q = 39 ∧ j = 12) ∨ (q = 39 ∧ j = 15) ∨ q = 43) (V := fun q j => (q = 23 ∧ j = 5) ∨ (q = 23 ∧ j = 6) ∨ (q = 23 ∧ j = 7) ∨ (q = 23 ∧ j = 8)) FI56 (fun q j h => (h.elim (fun h => (Or.inr (Or.inr (Or.inl h)))) (fun h => (h.elim (fun h => (Or.inr (Or.inr (Or.inr (Or.inl h))))) (fun h => (h.elim (fun h => (Or.inr (Or.inr (Or.inr (Or.inr (Or.inl h)))))) (fun h => (Or.inr (Or.inr (Or.inr (Or.inr (Or.inr (Or.inl h))))))))))))) g65
    have FJ69 := gc_frc (W := fun q j => (q = 23 ∧ j = 9) ∨ q = 44 ∨ q = 45) (V := fun q j => (q = 23 ∧ j = 9)) FJ57 (fun q j h => (Or.inl h)) k65
    have t70 := (g65 23 1).resolve_left (fun h => h.elim (fun h => absurd h.2 (by decide)) (fun h => h.elim (fun h => absurd h.2 (by decide)) (fun h => h.elim (fun h => absurd h.2 (by decide)) (fun h => absurd h.2 (by decide)))))
    have t71 := (g65 39 12).resolve_left (fun h => h.elim (fun h => absurd h.2 (by decide)) (fun h => h.elim (fun h => absurd h.2 (by decide)) (fun h => h.elim (fun h => absurd h.2 (by decide)) (fun h => absurd h.2 (by decide)))))
    have t72 := (g65 39 15).resolve_left (fun h => h.elim (fun h => absurd h.2 (by decide)) (fun h => h.elim (fun h => absurd h.2 (by decide)) (fun h => h.elim (fun h => absurd h.2 (by decide)) (fun h => absurd h.2 (by decide)))))
    have t73 := (g65 12 (Int.toNat a1)).resolve_left (fun h => h.elim (fun h => absurd h.1 (by decide)) (fun h => h.elim (fun h => absurd h.1 (by decide)) (fun h => h.elim (fun h => absurd h.1 (by decide)) (fun h => absurd h.1 (by decide)))))
    have f74 := (show 0 ≤ I68 23 5 ∧ I68 23 5 ≤ 1000 from gc_in hI68 R_23 rfl rfl)
    have f75 := (show 0 ≤ I68 23 6 ∧ I68 23 6 ≤ 1001 from gc_in hI68 R_23 rfl rfl)
    have f76 := (show 0 ≤ I68 23 7 ∧ I68 23 7 ≤ 125 from gc_in hI68 R_23 rfl rfl)
    have KLT_I68 : gc_LT I68 := q65.2.2
    have KTO_I68 := gc_TO_fr KTO_I56 ((g65 39 12).resolve_left (fun h => h.elim (fun h => absurd h.2 (by decide)) (fun h => h.elim (fun h => absurd h.2 (by decide)) (fun h => h.elim (fun h => absurd h.2 (by decide)) (fun h => absurd h.2 (by decide)))))) (fun k => (g65 43 k).resolve_left (fun h => h.elim (fun h => absurd h.1 (by decide)) (fun h => h.elim (fun h => absurd h.1 (by decide)) (fun h => h.elim (fun h => absurd h.1 (by decide)) (fun h => absurd h.1 (by decide))))))
    have KTK_I68 : gc_TK I68 := And.intro V65_0 (And.intro V65_1 (And.intro V65_2 (And.intro V65_3 V65_4)))
    have t77 := gc_TK_mo KTK_I68
    clear V65_0 V65_1 V65_2 V65_3 V65_4
    refine gv_callV hD rfl (As := []) (st := []) rfl B_23 S_23 rfl (gc_lV6 hws rfl) (Nat.le_of_ble_eq_true rfl) (gz_Ev_mono (d := 2) (by omega) E65) ?_
    show gv_X _ _ (58, [(0, .inr (.inr (some 39))), (1, .inl a1), (2, .inl a2)], [], sh, gc_h sh I68 J69 A)
    refine gv_run 2 true hD (pc' := 61) (lv' := [(0, .inr (.inr (some 39))), (1, .inl a1), (2, .inl a2)]) (st' := [.inl 46, .inr (.inr (some 39))]) (h' := gc_h sh I68 J69 A) (C := ((True ∧ True) ∧ True)) rfl ⟨⟨trivial, trivial⟩, trivial⟩ ?_
    obtain ⟨r78, h78, E78, P78⟩ := d_X6_take (ws0 := ws0) (tb := tb) hws htb sh ro I68 J69 A hI68  46 hb   ⟨by omega, by omega⟩ (by omega) KLT_I68 KTK_I68
    obtain ⟨I79, J80, rfl, hI79, g78, k78, KLT_I79, KTK_I79, ⟨z78, rfl, q78⟩⟩ := P78
    have FI79 := gc_frc (W := fun q j => (q = 39 ∧ j = 3) ∨ (q = 39 ∧ j = 4) ∨ (q = 23 ∧ j = 5) ∨ (q = 23 ∧ j = 6) ∨ (q = 23 ∧ j = 7) ∨ (q = 23 ∧ j = 8) ∨ (q = 39 ∧ j = 12) ∨ (q = 39 ∧ j = 15) ∨ q = 43) (V := fun q j => (q = 39 ∧ j = 3) ∨ (q = 39 ∧ j = 4) ∨ (q = 23 ∧ j = 5) ∨ (q = 23 ∧ j = 6) ∨ (q = 23 ∧ j = 7) ∨ (q = 23 ∧ j = 8)) FI68 (fun q j h => (h.elim (fun h => (Or.inl h)) (fun h => (h.elim (fun h => (Or.inr (Or.inl h))) (fun h => (h.elim (fun h => (Or.inr (Or.inr (Or.inl h)))) (fun h => (h.elim (fun h => (Or.inr (Or.inr (Or.inr (Or.inl h))))) (fun h => (h.elim (fun h => (Or.inr (Or.inr (Or.inr (Or.inr (Or.inl h)))))) (fun h => (Or.inr (Or.inr (Or.inr (Or.inr (Or.inr (Or.inl h))))))))))))))))) g78
    have FJ80 := gc_frc (W := fun q j => (q = 23 ∧ j = 9) ∨ q = 44 ∨ q = 45) (V := fun q j => (q = 23 ∧ j = 9)) FJ69 (fun q j h => (Or.inl h)) k78
    have t81 := (g78 23 1).resolve_left (fun h => h.elim (fun h => absurd h.2 (by decide)) (fun h => h.elim (fun h => absurd h.2 (by decide)) (fun h => h.elim (fun h => absurd h.2 (by decide)) (fun h => h.elim (fun h => absurd h.2 (by decide)) (fun h => h.elim (fun h => absurd h.2 (by decide)) (fun h => absurd h.2 (by decide)))))))
    have t82 := (g78 39 12).resolve_left (fun h => h.elim (fun h => absurd h.2 (by decide)) (fun h => h.elim (fun h => absurd h.2 (by decide)) (fun h => h.elim (fun h => absurd h.2 (by decide)) (fun h => h.elim (fun h => absurd h.2 (by decide)) (fun h => h.elim (fun h => absurd h.2 (by decide)) (fun h => absurd h.2 (by decide)))))))
    have t83 := (g78 39 15).resolve_left (fun h => h.elim (fun h => absurd h.2 (by decide)) (fun h => h.elim (fun h => absurd h.2 (by decide)) (fun h => h.elim (fun h => absurd h.2 (by decide)) (fun h => h.elim (fun h => absurd h.2 (by decide)) (fun h => h.elim (fun h => absurd h.2 (by decide)) (fun h => absurd h.2 (by decide)))))))
    have t84 := (g78 12 (Int.toNat a1)).resolve_left (fun h => h.elim (fun h => absurd h.1 (by decide)) (fun h => h.elim (fun h => absurd h.1 (by decide)) (fun h => h.elim (fun h => absurd h.1 (by decide)) (fun h => h.elim (fun h => absurd h.1 (by decide)) (fun h => h.elim (fun h => absurd h.1 (by decide)) (fun h => absurd h.1 (by decide)))))))
    have f85 := (show 0 ≤ I79 23 5 ∧ I79 23 5 ≤ 1000 from gc_in hI79 R_23 rfl rfl)
    have f86 := (show 0 ≤ I79 23 6 ∧ I79 23 6 ≤ 1001 from gc_in hI79 R_23 rfl rfl)
    have f87 := (show 0 ≤ I79 23 7 ∧ I79 23 7 ≤ 125 from gc_in hI79 R_23 rfl rfl)
    have t88 := gc_TK_mo KTK_I79
    have KTO_I79 := gc_TO_fr KTO_I68 ((g78 39 12).resolve_left (fun h => h.elim (fun h => absurd h.2 (by decide)) (fun h => h.elim (fun h => absurd h.2 (by decide)) (fun h => h.elim (fun h => absurd h.2 (by decide)) (fun h => h.elim (fun h => absurd h.2 (by decide)) (fun h => h.elim (fun h => absurd h.2 (by decide)) (fun h => absurd h.2 (by decide)))))))) (fun k => (g78 43 k).resolve_left (fun h => h.elim (fun h => absurd h.1 (by decide)) (fun h => h.elim (fun h => absurd h.1 (by decide)) (fun h => h.elim (fun h => absurd h.1 (by decide)) (fun h => h.elim (fun h => absurd h.1 (by decide)) (fun h => h.elim (fun h => absurd h.1 (by decide)) (fun h => absurd h.1 (by decide))))))))
    refine gv_callV hD rfl (As := [.inl 46]) (st := []) rfl B_39 S_39 rfl (gc_lV6 hws rfl) (Nat.le_of_ble_eq_true rfl) (gz_Ev_mono (d := 3) (by omega) E78) ?_
    show gv_X _ _ (64, [(0, .inr (.inr (some 39))), (1, .inl a1), (2, .inl a2)], [.inl z78], sh, gc_h sh I79 J80 A)
    refine gv_if_eq (t := 78) hD rfl rfl ⟨by omega, by omega⟩ (fun c89 => ?_) (fun c89 => ?_)
    · show gv_X _ _ (78, [(0, .inr (.inr (some 39))), (1, .inl a1), (2, .inl a2)], [], sh, gc_h sh I79 J80 A)
      refine gv_pick [] rfl ?_
      exact L78 I79 J80 hI79 FI79 FJ80 KLT_I79 KTK_I79 KTO_I79 (by omega)
    · show gv_X _ _ (67, [(0, .inr (.inr (some 39))), (1, .inl a1), (2, .inl a2)], [], sh, gc_h sh I79 J80 A)
      refine gv_run 5 true hD (pc' := 72) (lv' := [(0, .inr (.inr (some 39))), (1, .inl a1), (2, .inl a2)]) (st' := [.inl (a2 + 1), .inl a1, .inr (.inr (some 39))]) (h' := gc_h sh I79 J80 A) (C := (((((True ∧ True) ∧ True) ∧ True) ∧ True) ∧ True)) rfl ⟨⟨⟨⟨⟨trivial, trivial⟩, trivial⟩, trivial⟩, trivial⟩, trivial⟩ ?_
      obtain ⟨r90, h90, E90, P90⟩ := ihR I79 J80 hI79 a1 (a2 + 1) ⟨by omega, by omega⟩ ⟨by omega, by omega⟩ (by omega) (by omega) (by omega) (by omega) KLT_I79 KTK_I79 KTO_I79 (by omega)
      obtain ⟨I91, J92, rfl, hI91, g90, k90, KLT_I91, KTK_I91, KTO_I91, ⟨z90, rfl, q90⟩⟩ := P90
      have FI91 := gc_frc (W := fun q j => (q = 39 ∧ j = 3) ∨ (q = 39 ∧ j = 4) ∨ (q = 23 ∧ j = 5) ∨ (q = 23 ∧ j = 6) ∨ (q = 23 ∧ j = 7) ∨ (q = 23 ∧ j = 8) ∨ (q = 39 ∧ j = 12) ∨ (q = 39 ∧ j = 15) ∨ q = 43) (V := fun q j => (q = 39 ∧ j = 3) ∨ (q = 39 ∧ j = 4) ∨ (q = 23 ∧ j = 5) ∨ (q = 23 ∧ j = 6) ∨ (q = 23 ∧ j = 7) ∨ (q = 23 ∧ j = 8) ∨ (q = 39 ∧ j = 12) ∨ (q = 39 ∧ j = 15) ∨ q = 43) FI79 (fun q j h => (h.elim (fun h => (Or.inl h)) (fun h => (h.elim (fun h => (Or.inr (Or.inl h))) (fun h => (h.elim (fun h => (Or.inr (Or.inr (Or.inl h)))) (fun h => (h.elim (fun h => (Or.inr (Or.inr (Or.inr (Or.inl h))))) (fun h => (h.elim (fun h => (Or.inr (Or.inr (Or.inr (Or.inr (Or.inl h)))))) (fun h => (h.elim (fun h => (Or.inr (Or.inr (Or.inr (Or.inr (Or.inr (Or.inl h))))))) (fun h => (h.elim (fun h => (Or.inr (Or.inr (Or.inr (Or.inr (Or.inr (Or.inr (Or.inl h)))))))) (fun h => (h.elim (fun h => (Or.inr (Or.inr (Or.inr (Or.inr (Or.inr (Or.inr (Or.inr (Or.inl h))))))))) (fun h => (Or.inr (Or.inr (Or.inr (Or.inr (Or.inr (Or.inr (Or.inr (Or.inr h))))))))))))))))))))))))) g90
      have FJ92 := gc_frc (W := fun q j => (q = 23 ∧ j = 9) ∨ q = 44 ∨ q = 45) (V := fun q j => (q = 23 ∧ j = 9) ∨ q = 44 ∨ q = 45) FJ80 (fun q j h => (h.elim (fun h => (Or.inl h)) (fun h => (h.elim (fun h => (Or.inr (Or.inl h))) (fun h => (Or.inr (Or.inr h))))))) k90
      have t93 := (g90 23 1).resolve_left (fun h => h.elim (fun h => absurd h.2 (by decide)) (fun h => h.elim (fun h => absurd h.2 (by decide)) (fun h => h.elim (fun h => absurd h.2 (by decide)) (fun h => h.elim (fun h => absurd h.2 (by decide)) (fun h => h.elim (fun h => absurd h.2 (by decide)) (fun h => h.elim (fun h => absurd h.2 (by decide)) (fun h => h.elim (fun h => absurd h.2 (by decide)) (fun h => h.elim (fun h => absurd h.2 (by decide)) (fun h => absurd h (by decide))))))))))
      have t94 := (g90 12 (Int.toNat a1)).resolve_left (fun h => h.elim (fun h => absurd h.1 (by decide)) (fun h => h.elim (fun h => absurd h.1 (by decide)) (fun h => h.elim (fun h => absurd h.1 (by decide)) (fun h => h.elim (fun h => absurd h.1 (by decide)) (fun h => h.elim (fun h => absurd h.1 (by decide)) (fun h => h.elim (fun h => absurd h.1 (by decide)) (fun h => h.elim (fun h => absurd h.1 (by decide)) (fun h => h.elim (fun h => absurd h.1 (by decide)) (fun h => absurd h (by decide))))))))))
      have f95 := (show 0 ≤ I91 23 5 ∧ I91 23 5 ≤ 1000 from gc_in hI91 R_23 rfl rfl)
      have f96 := (show 0 ≤ I91 23 6 ∧ I91 23 6 ≤ 1001 from gc_in hI91 R_23 rfl rfl)
      have f97 := (show 0 ≤ I91 23 7 ∧ I91 23 7 ≤ 125 from gc_in hI91 R_23 rfl rfl)
      have f98 := (show 0 ≤ I91 39 12 ∧ I91 39 12 ≤ 2000 from gc_in hI91 R_39 rfl rfl)
      have f99 := (show 0 ≤ I91 39 15 ∧ I91 39 15 ≤ 41 from gc_in hI91 R_39 rfl rfl)
      have t100 := gc_TK_mo KTK_I91
      refine gv_callV hD rfl (As := [.inl a1, .inl (a2 + 1)]) (st := []) rfl B_39 S_39 rfl (gc_lV6 hws rfl) (Nat.le_of_ble_eq_true rfl) (gz_Ev_mono (d := (6 + 2 * nr)) (Nat.le_refl _) E90) ?_
      show gv_X _ _ (75, [(0, .inr (.inr (some 39))), (1, .inl a1), (2, .inl a2)], [.inl z90], sh, gc_h sh I91 J92 A)
      refine gv_if_ne (t := 80) hD rfl rfl ⟨by omega, by omega⟩ (fun c101 => ?_) (fun c101 => ?_)
      · show gv_X _ _ (80, [(0, .inr (.inr (some 39))), (1, .inl a1), (2, .inl a2)], [], sh, gc_h sh I91 J92 A)
        refine gv_run 2 true hD (pc' := 82) (lv' := [(0, .inr (.inr (some 39))), (1, .inl a1), (2, .inl a2)]) (st' := [.inr (.inr (some 39)), .inr (.inr (some 39))]) (h' := gc_h sh I91 J92 A) (C := ((True ∧ True) ∧ True)) rfl ⟨⟨trivial, trivial⟩, trivial⟩ ?_
        have f102 := (show 0 ≤ I91 39 15 ∧ I91 39 15 ≤ 41 from gc_in hI91 R_39 rfl rfl)
        refine gv_get hD rfl rfl S_39 ⟨by decide, B_39⟩ (gc_hI S_39 rfl) ?_
        show gv_X _ _ (85, [(0, .inr (.inr (some 39))), (1, .inl a1), (2, .inl a2)], [.inl (I91 39 15), .inr (.inr (some 39))], sh, gc_h sh I91 J92 A)
        refine gv_run 2 true hD (pc' := 87) (lv' := [(0, .inr (.inr (some 39))), (1, .inl a1), (2, .inl a2)]) (st' := [.inl ((I91 39 15) - 1), .inr (.inr (some 39))]) (h' := gc_h sh I91 J92 A) (C := ((True ∧ True) ∧ True)) rfl ⟨⟨trivial, trivial⟩, trivial⟩ ?_
        refine gv_put hD rfl rfl S_39 ⟨by decide, B_39⟩ rfl trivial ?_
        refine gc_st (k := 15) hI91 S_39 rfl R_39 (lo := 0) (hi := 41) rfl rfl (by omega) (by omega) (fun I103 hI103 q104 p104 => ?_)
        have FI103 := gc_frs (W := fun q j => (q = 39 ∧ j = 3) ∨ (q = 39 ∧ j = 4) ∨ (q = 23 ∧ j = 5) ∨ (q = 23 ∧ j = 6) ∨ (q = 23 ∧ j = 7) ∨ (q = 23 ∧ j = 8) ∨ (q = 39 ∧ j = 12) ∨ (q = 39 ∧ j = 15) ∨ q = 43) FI91 (Or.inr (Or.inr (Or.inr (Or.inr (Or.inr (Or.inr (Or.inr (Or.inl ⟨rfl, rfl⟩)))))))) p104
        have t105 := p104 23 1 (fun h => absurd h.2 (by decide))
        have t106 := p104 23 5 (fun h => absurd h.2 (by decide))
        have t107 := p104 23 6 (fun h => absurd h.2 (by decide))
        have t108 := p104 23 7 (fun h => absurd h.2 (by decide))
        have t109 := p104 39 12 (fun h => absurd h.2 (by decide))
        have t110 := p104 12 (Int.toNat a1) (fun h => absurd h.1 (by decide))
        have f111 := (show 0 ≤ I103 39 15 ∧ I103 39 15 ≤ 41 from gc_in hI103 R_39 rfl rfl)
        have KLT_I103 := gc_LT_fr KLT_I91 (p104 23 5 (fun h => absurd h.2 (by decide))) (p104 23 6 (fun h => absurd h.2 (by decide))) (p104 23 7 (fun h => absurd h.2 (by decide))) (fun k => p104 24 k (fun h => absurd h.1 (by decide)))
        have KTK_I103 := gc_TK_fr KTK_I91 (p104 23 1 (fun h => absurd h.2 (by decide))) (p104 23 5 (fun h => absurd h.2 (by decide))) (p104 23 6 (fun h => absurd h.2 (by decide))) (p104 23 7 (fun h => absurd h.2 (by decide)))
        have KTO_I103 := gc_TO_fr KTO_I91 (p104 39 12 (fun h => absurd h.2 (by decide))) (fun k => p104 43 k (fun h => absurd h.1 (by decide)))
        show gv_X _ _ (90, [(0, .inr (.inr (some 39))), (1, .inl a1), (2, .inl a2)], [], sh, gc_h sh I103 J92 A)
        refine gv_run 1 true hD (pc' := 91) (lv' := [(0, .inr (.inr (some 39))), (1, .inl a1), (2, .inl a2)]) (st' := [.inl 1]) (h' := gc_h sh I103 J92 A) (C := (True ∧ True)) rfl ⟨trivial, trivial⟩ ?_
        exact gv_zret hD rfl (by omega) ⟨I103, J92, rfl, hI103, FI103, FJ92, KLT_I103, KTK_I103, KTO_I103, ⟨_, rfl, by omega, by omega, by omega, by omega, by omega, by omega, by omega, (Or.inr (gc_TD_bind (gc_IN_fr q55.2 (by omega) (fun k => ((((p44 43 k (fun h => absurd h.1 (by omega))).trans ((g31 43 k).resolve_left (by omega))).trans ((g18 43 k).resolve_left (by omega)))).symm) (fun _ => rfl)) (by omega) (by omega) (by omega) (gc_TD_fr (q90.2.2.2.2.2.2.2.resolve_left (by omega)) (by omega) (fun k => ((((g78 43 k).resolve_left (by omega)).trans ((g65 43 k).resolve_left (by omega)))).symm) (by omega) (fun k => (p104 43 k (fun h => absurd h.1 (by omega))))) (by omega)))⟩⟩
      · show gv_X _ _ (78, [(0, .inr (.inr (some 39))), (1, .inl a1), (2, .inl a2)], [], sh, gc_h sh I91 J92 A)
        refine gv_pick [] rfl ?_
        exact L78 I91 J92 hI91 FI91 FJ92 KLT_I91 KTK_I91 KTO_I91 (by omega)
  · show gv_X _ _ (15, [(0, .inr (.inr (some 39))), (1, .inl a1), (2, .inl a2)], [], sh, gc_h sh I32 J22 A)
    refine gv_run 1 true hD (pc' := 16) (lv' := [(0, .inr (.inr (some 39))), (1, .inl a1), (2, .inl a2)]) (st' := [.inl 0]) (h' := gc_h sh I32 J22 A) (C := (True ∧ True)) rfl ⟨trivial, trivial⟩ ?_
    exact gv_zret hD rfl (by omega) ⟨I32, J22, rfl, hI32, FI32, FJ22, KLT_I32, KTK_I32, KTO_I32, ⟨_, rfl, by omega, by omega, by omega, by omega, by omega, by omega, by omega, (Or.inl (by omega))⟩⟩
set_option maxHeartbeats 4000000 in
set_option maxRecDepth 100000 in
theorem d_X6_readAtom {ws0 : List Cond} {tb : String → gz_T} (hws : gc_Ws ws0) (htb : gc_tbs tb) (sh : gz_Sh) (ro : Nat → Nat) (A : gc_A) (b : Int)  (hb : gc_Base sh ro A) (nr : Nat) (ihR : ∀ (I : gr_I) (J : gr_J) (hI : gc_Inv ro I) (a1 : Int) (a2 : Int) (ha1 : 0 ≤ a1 ∧ a1 ≤ 95) (ha2 : 1 ≤ a2 ∧ a2 ≤ 41) (x0 : I 39 12 ≤ I 23 5) (x1 : I 39 15 ≤ a2 - 1) (x2 : b ≤ -3 - I 12 (Int.toNat a1)) (x3 : b ≤ -3) (KLT_I : gc_LT I) (KTK_I : gc_TK I) (KTO_I : gc_TO b I) (_ : (42 - a2).toNat < nr), ∃ r h', gz_Ev ws0 tb (6 + 2 * nr) (yX6_readTerm, cX6_readTerm, 7, (some .boolean)) [.inr (.inr (some 39)), .inl a1, .inl a2] sh (gc_h sh I J A) r sh h' 0 0 ∧ (∃ (I' : gr_I) (J' : gr_J), h' = gc_h sh I' J' A ∧ gc_Inv ro I' ∧ (∀ q j : Nat, ((q = 39 ∧ j = 3) ∨ (q = 39 ∧ j = 4) ∨ (q = 23 ∧ j = 5) ∨ (q = 23 ∧ j = 6) ∨ (q = 23 ∧ j = 7) ∨ (q = 23 ∧ j = 8) ∨ (q = 39 ∧ j = 12) ∨ (q = 39 ∧ j = 15) ∨ q = 43) ∨ I' q j = I q j) ∧ (∀ q j : Nat, ((q = 23 ∧ j = 9) ∨ q = 44 ∨ q = 45) ∨ J' q j = J q j) ∧ gc_LT I' ∧ gc_TK I' ∧ gc_TO b I' ∧ (∃ z : Int, r = some (.inl z) ∧ 0 ≤ z ∧ z ≤ 1 ∧ (I' 23 1 = I 23 1) ∧ (I 23 5 ≤ I' 23 5) ∧ (I' 39 12 ≤ I' 23 5) ∧ (z = 0 ∨ I' 39 15 = I 39 15) ∧ (I 39 12 ≤ I' 39 12) ∧ (gc_TE z I I')))) (I : gr_I) (J : gr_J) (hI : gc_Inv ro I) (a1 : Int) (a2 : Int) (ha1 : 0 ≤ a1 ∧ a1 ≤ 95) (ha2 : 1 ≤ a2 ∧ a2 ≤ 40) (x0 : I 39 12 ≤ I 23 5) (x1 : I 39 15 ≤ a2 - 1) (x2 : b ≤ -3 - I 12 (Int.toNat a1)) (x3 : b ≤ -3) (x4 : I 23 7 = 40 ∨ I 23 7 = 1 ∨ I 23 7 = 2) (KLT_I : gc_LT I) (KTK_I : gc_TK I) (KTO_I : gc_TO b I) (hnr : (41 - a2).toNat < nr) : ∃ r h', gz_Ev ws0 tb (6 + 2 * nr + 1) (yX6_readAtom, cX6_readAtom, 4, (some .boolean)) [.inr (.inr (some 39)), .inl a1, .inl a2] sh (gc_h sh I J A) r sh h' 0 0 ∧ (∃ (I' : gr_I) (J' : gr_J), h' = gc_h sh I' J' A ∧ gc_Inv ro I' ∧ (∀ q j : Nat, ((q = 39 ∧ j = 3) ∨ (q = 39 ∧ j = 4) ∨ (q = 23 ∧ j = 5) ∨ (q = 23 ∧ j = 6) ∨ (q = 23 ∧ j = 7) ∨ (q = 23 ∧ j = 8) ∨ (q = 39 ∧ j = 12) ∨ (q = 39 ∧ j = 15) ∨ q = 43) ∨ I' q j = I q j) ∧ (∀ q j : Nat, ((q = 23 ∧ j = 9) ∨ q = 44 ∨ q = 45) ∨ J' q j = J q j) ∧ gc_LT I' ∧ gc_TK I' ∧ gc_TO b I' ∧ (∃ z : Int, r = some (.inl z) ∧ 0 ≤ z ∧ z ≤ 1 ∧ (I' 23 1 = I 23 1) ∧ (I 23 5 ≤ I' 23 5) ∧ (I' 39 12 ≤ I' 23 5) ∧ (z = 0 ∨ I' 39 15 = I 39 15) ∧ (I 39 12 ≤ I' 39 12) ∧ (gc_TE z I I'))) := by
  have FI : ∀ q j : Nat, ((q = 39 ∧ j = 3) ∨ (q = 39 ∧ j = 4) ∨ (q = 23 ∧ j = 5) ∨ (q = 23 ∧ j = 6) ∨ (q = 23 ∧ j = 7) ∨ (q = 23 ∧ j = 8) ∨ (q = 39 ∧ j = 12) ∨ (q = 39 ∧ j = 15) ∨ q = 43) ∨ I q j = I q j := fun _ _ => Or.inr rfl
  have FJ : ∀ q j : Nat, ((q = 23 ∧ j = 9) ∨ q = 44 ∨ q = 45) ∨ J q j = J q j := fun _ _ => Or.inr rfl
  have A_1_7 : A 1 7 = some 12 := gc_bA hb rfl
  have A_39_0 : A 39 0 = some 1 := gc_bA hb rfl
  have A_39_1 : A 39 1 = some 23 := gc_bA hb rfl
  have A_39_16 : A 39 16 = some 45 := gc_bA hb rfl
  have B_1 : 1 < 1000000 := by decide
  have B_12 : 12 < 1000000 := by decide
  have B_23 : 23 < 1000000 := by decide
  have B_39 : 39 < 1000000 := by decide
  have B_45 : 45 < 1000000 := by decide
  have R_12 : ro 12 = 26 := gc_bR hb (by decide) rfl
  have R_23 : ro 23 = 3 := gc_bR hb (by decide) rfl
  have R_39 : ro 39 = 42 := gc_bR hb (by decide) rfl
  have S_1 : sh[1]? = some (false, 8, 21) := gc_bS hb rfl
  have S_12 : sh[12]? = some (true, 1, 96) := gc_bS hb rfl
  have S_23 : sh[23]? = some (false, 9, 10) := gc_bS hb rfl
  have S_39 : sh[39]? = some (false, 6, 19) := gc_bS hb rfl
  have S_45 : sh[45]? = some (true, 2, 41) := gc_bS hb rfl
  have hD : gv_D (gc_E6 ws0 tb (6 + 2 * nr) (yX6_readAtom, cX6_readAtom, 4, (some .boolean)) kX6_readAtom) := gq_ok oX6_readAtom
  refine gc_ev6 (d := (6 + 2 * nr)) (l := kX6_readAtom) (Po := fun r h' => (∃ (I' : gr_I) (J' : gr_J), h' = gc_h sh I' J' A ∧ gc_Inv ro I' ∧ (∀ q j : Nat, ((q = 39 ∧ j = 3) ∨ (q = 39 ∧ j = 4) ∨ (q = 23 ∧ j = 5) ∨ (q = 23 ∧ j = 6) ∨ (q = 23 ∧ j = 7) ∨ (q = 23 ∧ j = 8) ∨ (q = 39 ∧ j = 12) ∨ (q = 39 ∧ j = 15) ∨ q = 43) ∨ I' q j = I q j) ∧ (∀ q j : Nat, ((q = 23 ∧ j = 9) ∨ q = 44 ∨ q = 45) ∨ J' q j = J q j) ∧ gc_LT I' ∧ gc_TK I' ∧ gc_TO b I' ∧ (∃ z : Int, r = some (.inl z) ∧ 0 ≤ z ∧ z ≤ 1 ∧ (I' 23 1 = I 23 1) ∧ (I 23 5 ≤ I' 23 5) ∧ (I' 39 12 ≤ I' 23 5) ∧ (z = 0 ∨ I' 39 15 = I 39 15) ∧ (I 39 12 ≤ I' 39 12) ∧ (gc_TE z I I')))) htb rfl (Nat.le_of_ble_eq_true rfl) ?_
  have t1 := gc_TK_mo KTK_I
  have f2 := (show 0 ≤ I 23 1 ∧ I 23 1 ≤ 1000 from gc_in hI R_23 rfl rfl)
  have f3 := (show 0 ≤ I 23 5 ∧ I 23 5 ≤ 1000 from gc_in hI R_23 rfl rfl)
  have f4 := (show 0 ≤ I 23 6 ∧ I 23 6 ≤ 1001 from gc_in hI R_23 rfl rfl)
  have f5 := (show 0 ≤ I 23 7 ∧ I 23 7 ≤ 125 from gc_in hI R_23 rfl rfl)
  have f6 := (show 0 ≤ I 39 12 ∧ I 39 12 ≤ 2000 from gc_in hI R_39 rfl rfl)
  have f7 := (show 0 ≤ I 39 15 ∧ I 39 15 ≤ 41 from gc_in hI R_39 rfl rfl)
  have f8 := (show 0 ≤ I 23 8 ∧ I 23 8 ≤ 999999 from gc_in hI R_23 rfl rfl)
  have L44 : ∀ (I9 : gr_I) (J10 : gr_J) (s0_11 : Int), gc_Inv ro I9 → (∀ q j : Nat, ((q = 39 ∧ j = 3) ∨ (q = 39 ∧ j = 4) ∨ (q = 23 ∧ j = 5) ∨ (q = 23 ∧ j = 6) ∨ (q = 23 ∧ j = 7) ∨ (q = 23 ∧ j = 8) ∨ (q = 39 ∧ j = 12) ∨ (q = 39 ∧ j = 15) ∨ q = 43) ∨ I9 q j = I q j) → (∀ q j : Nat, ((q = 23 ∧ j = 9) ∨ q = 44 ∨ q = 45) ∨ J10 q j = J q j) → gc_LT I9 → gc_TK I9 → gc_TO b I9 → ((0 ≤ s0_11 ∧ s0_11 ≤ 1) ∧ (I9 39 12 ≤ I9 23 5) ∧ (I 39 12 ≤ I9 39 12) ∧ (b ≤ -3 - I9 12 (Int.toNat a1)) ∧ (s0_11 = 0 ∨ I9 39 15 = I 39 15) ∧ (I9 23 1 = I 23 1) ∧ (I 23 5 ≤ I9 23 5)) → (gc_TE s0_11 I I9) → gv_X (gc_E6 ws0 tb (6 + 2 * nr) (yX6_readAtom, cX6_readAtom, 4, (some .boolean)) kX6_readAtom) (gv_Q cX6_readAtom (some .boolean) sh (fun r h' => (∃ (I' : gr_I) (J' : gr_J), h' = gc_h sh I' J' A ∧ gc_Inv ro I' ∧ (∀ q j : Nat, ((q = 39 ∧ j = 3) ∨ (q = 39 ∧ j = 4) ∨ (q = 23 ∧ j = 5) ∨ (q = 23 ∧ j = 6) ∨ (q = 23 ∧ j = 7) ∨ (q = 23 ∧ j = 8) ∨ (q = 39 ∧ j = 12) ∨ (q = 39 ∧ j = 15) ∨ q = 43) ∨ I' q j = I q j) ∧ (∀ q j : Nat, ((q = 23 ∧ j = 9) ∨ q = 44 ∨ q = 45) ∨ J' q j = J q j) ∧ gc_LT I' ∧ gc_TK I' ∧ gc_TO b I' ∧ (∃ z : Int, r = some (.inl z) ∧ 0 ≤ z ∧ z ≤ 1 ∧ (I' 23 1 = I 23 1) ∧ (I 23 5 ≤ I' 23 5) ∧ (I' 39 12 ≤ I' 23 5) ∧ (z = 0 ∨ I' 39 15 = I 39 15) ∧ (I 39 12 ≤ I' 39 12) ∧ (gc_TE z I I'))))) (44, [], [.inl s0_11], sh, gc_h sh I9 J10 A) := by
    intro I9 J10 s0_11 hI9 FI9 FJ10 KLT_I9 KTK_I9 KTO_I9 m_11 e0_11
    obtain ⟨hs0_11, e1_11, e2_11, e3_11, e4_11, e5_11, e6_11⟩ := m_11
    have t12 := gc_TK_mo KTK_I9
    have f13 := (show 0 ≤ I9 23 1 ∧ I9 23 1 ≤ 1000 from gc_in hI9 R_23 rfl rfl)
    have f14 := (show 0 ≤ I9 23 5 ∧ I9 23 5 ≤ 1000 from gc_in hI9 R_23 rfl rfl)
    have f15 := (show 0 ≤ I9 23 6 ∧ I9 23 6 ≤ 1001 from gc_in hI9 R_23 rfl rfl)
    have f16 := (show 0 ≤ I9 23 7 ∧ I9 23 7 ≤ 125 from gc_in hI9 R_23 rfl rfl)
    have f17 := (show 0 ≤ I9 39 12 ∧ I9 39 12 ≤ 2000 from gc_in hI9 R_39 rfl rfl)
    have f18 := (show 0 ≤ I9 39 15 ∧ I9 39 15 ≤ 41 from gc_in hI9 R_39 rfl rfl)
    have f19 := (show 0 ≤ I9 23 8 ∧ I9 23 8 ≤ 999999 from gc_in hI9 R_23 rfl rfl)
    exact gv_zret hD rfl (by omega) ⟨I9, J10, rfl, hI9, FI9, FJ10, KLT_I9, KTK_I9, KTO_I9, ⟨_, rfl, by omega, by omega, by omega, by omega, by omega, by omega, by omega, e0_11⟩⟩
  have L43 : ∀ (I20 : gr_I) (J21 : gr_J) , gc_Inv ro I20 → (∀ q j : Nat, ((q = 39 ∧ j = 3) ∨ (q = 39 ∧ j = 4) ∨ (q = 23 ∧ j = 5) ∨ (q = 23 ∧ j = 6) ∨ (q = 23 ∧ j = 7) ∨ (q = 23 ∧ j = 8) ∨ (q = 39 ∧ j = 12) ∨ (q = 39 ∧ j = 15) ∨ q = 43) ∨ I20 q j = I q j) → (∀ q j : Nat, ((q = 23 ∧ j = 9) ∨ q = 44 ∨ q = 45) ∨ J21 q j = J q j) → gc_LT I20 → gc_TK I20 → gc_TO b I20 → ((I20 39 12 ≤ I20 23 5) ∧ (I 39 12 ≤ I20 39 12) ∧ (b ≤ -3 - I20 12 (Int.toNat a1)) ∧ (I20 23 1 = I 23 1) ∧ (I 23 5 ≤ I20 23 5)) → gv_X (gc_E6 ws0 tb (6 + 2 * nr) (yX6_readAtom, cX6_readAtom, 4, (some .boolean)) kX6_readAtom) (gv_Q cX6_readAtom (some .boolean) sh (fun r h' => (∃ (I' : gr_I) (J' : gr_J), h' = gc_h sh I' J' A ∧ gc_Inv ro I' ∧ (∀ q j : Nat, ((q = 39 ∧ j = 3) ∨ (q = 39 ∧ j = 4) ∨ (q = 23 ∧ j = 5) ∨ (q = 23 ∧ j = 6) ∨ (q = 23 ∧ j = 7) ∨ (q = 23 ∧ j = 8) ∨ (q = 39 ∧ j = 12) ∨ (q = 39 ∧ j = 15) ∨ q = 43) ∨ I' q j = I q j) ∧ (∀ q j : Nat, ((q = 23 ∧ j = 9) ∨ q = 44 ∨ q = 45) ∨ J' q j = J q j) ∧ gc_LT I' ∧ gc_TK I' ∧ gc_TO b I' ∧ (∃ z : Int, r = some (.inl z) ∧ 0 ≤ z ∧ z ≤ 1 ∧ (I' 23 1 = I 23 1) ∧ (I 23 5 ≤ I' 23 5) ∧ (I' 39 12 ≤ I' 23 5) ∧ (z = 0 ∨ I' 39 15 = I 39 15) ∧ (I 39 12 ≤ I' 39 12) ∧ (gc_TE z I I'))))) (43, [], [], sh, gc_h sh I20 J21 A) := by
    intro I20 J21 hI20 FI20 FJ21 KLT_I20 KTK_I20 KTO_I20 m_22
    obtain ⟨e0_22, e1_22, e2_22, e3_22, e4_22⟩ := m_22
    have t23 := gc_TK_mo KTK_I20
    have f24 := (show 0 ≤ I20 23 1 ∧ I20 23 1 ≤ 1000 from gc_in hI20 R_23 rfl rfl)
    have f25 := (show 0 ≤ I20 23 5 ∧ I20 23 5 ≤ 1000 from gc_in hI20 R_23 rfl rfl)
    have f26 := (show 0 ≤ I20 23 6 ∧ I20 23 6 ≤ 1001 from gc_in hI20 R_23 rfl rfl)
    have f27 := (show 0 ≤ I20 23 7 ∧ I20 23 7 ≤ 125 from gc_in hI20 R_23 rfl rfl)
    have f28 := (show 0 ≤ I20 39 12 ∧ I20 39 12 ≤ 2000 from gc_in hI20 R_39 rfl rfl)
    have f29 := (show 0 ≤ I20 39 15 ∧ I20 39 15 ≤ 41 from gc_in hI20 R_39 rfl rfl)
    have f30 := (show 0 ≤ I20 23 8 ∧ I20 23 8 ≤ 999999 from gc_in hI20 R_23 rfl rfl)
    refine gv_run 1 true hD (pc' := 44) (lv' := []) (st' := [.inl 0]) (h' := gc_h sh I20 J21 A) (C := (True ∧ True)) rfl ⟨trivial, trivial⟩ ?_
    exact L44 I20 J21 0 hI20 FI20 FJ21 KLT_I20 KTK_I20 KTO_I20 (by omega) (Or.inl (by omega))
  have L86 : ((I 39 12 ≤ I 23 5) ∧ (I 39 12 ≤ I 39 12) ∧ (b ≤ -3 - I 12 (Int.toNat a1)) ∧ (I 39 15 = I 39 15) ∧ (I 23 1 = I 23 1) ∧ (I 23 5 ≤ I 23 5)) → gv_X (gc_E6 ws0 tb (6 + 2 * nr) (yX6_readAtom, cX6_readAtom, 4, (some .boolean)) kX6_readAtom) (gv_Q cX6_readAtom (some .boolean) sh (fun r h' => (∃ (I' : gr_I) (J' : gr_J), h' = gc_h sh I' J' A ∧ gc_Inv ro I' ∧ (∀ q j : Nat, ((q = 39 ∧ j = 3) ∨ (q = 39 ∧ j = 4) ∨ (q = 23 ∧ j = 5) ∨ (q = 23 ∧ j = 6) ∨ (q = 23 ∧ j = 7) ∨ (q = 23 ∧ j = 8) ∨ (q = 39 ∧ j = 12) ∨ (q = 39 ∧ j = 15) ∨ q = 43) ∨ I' q j = I q j) ∧ (∀ q j : Nat, ((q = 23 ∧ j = 9) ∨ q = 44 ∨ q = 45) ∨ J' q j = J q j) ∧ gc_LT I' ∧ gc_TK I' ∧ gc_TO b I' ∧ (∃ z : Int, r = some (.inl z) ∧ 0 ≤ z ∧ z ≤ 1 ∧ (I' 23 1 = I 23 1) ∧ (I 23 5 ≤ I' 23 5) ∧ (I' 39 12 ≤ I' 23 5) ∧ (z = 0 ∨ I' 39 15 = I 39 15) ∧ (I 39 12 ≤ I' 39 12) ∧ (gc_TE z I I'))))) (86, [(0, .inr (.inr (some 39)))], [], sh, gc_h sh I J A) := by
    intro m_31
    obtain ⟨e0_31, e1_31, e2_31, e3_31, e4_31, e5_31⟩ := m_31
    have t32 := gc_TK_mo KTK_I
    have f33 := (show 0 ≤ I 23 1 ∧ I 23 1 ≤ 1000 from gc_in hI R_23 rfl rfl)
    have f34 := (show 0 ≤ I 23 5 ∧ I 23 5 ≤ 1000 from gc_in hI R_23 rfl rfl)
    have f35 := (show 0 ≤ I 23 6 ∧ I 23 6 ≤ 1001 from gc_in hI R_23 rfl rfl)
    have f36 := (show 0 ≤ I 23 7 ∧ I 23 7 ≤ 125 from gc_in hI R_23 rfl rfl)
    have f37 := (show 0 ≤ I 39 12 ∧ I 39 12 ≤ 2000 from gc_in hI R_39 rfl rfl)
    have f38 := (show 0 ≤ I 39 15 ∧ I 39 15 ≤ 41 from gc_in hI R_39 rfl rfl)
    have f39 := (show 0 ≤ I 23 8 ∧ I 23 8 ≤ 999999 from gc_in hI R_23 rfl rfl)
    refine gv_run 3 true hD (pc' := 89) (lv' := [(0, .inr (.inr (some 39)))]) (st' := [.inr (.inr (some 39)), .inl 5, .inr (.inr (some 39))]) (h' := gc_h sh I J A) (C := (((True ∧ True) ∧ True) ∧ True)) rfl ⟨⟨⟨trivial, trivial⟩, trivial⟩, trivial⟩ ?_
    refine gv_get hD rfl rfl S_39 ⟨by decide, B_39⟩ (gc_hA S_39 rfl A_39_1) ?_
    show gv_X _ _ (92, [(0, .inr (.inr (some 39)))], [.inr (.inr (some 23)), .inl 5, .inr (.inr (some 39))], sh, gc_h sh I J A)
    have f40 := (show 0 ≤ I 23 5 ∧ I 23 5 ≤ 1000 from gc_in hI R_23 rfl rfl)
    refine gv_get hD rfl rfl S_23 ⟨by decide, B_23⟩ (gc_hI S_23 rfl) ?_
    show gv_X _ _ (95, [(0, .inr (.inr (some 39)))], [.inl (I 23 5), .inl 5, .inr (.inr (some 39))], sh, gc_h sh I J A)
    obtain ⟨r41, h41, E41, P41⟩ := d_X6_wrong (ws0 := ws0) (tb := tb) hws htb sh ro I J A hI  5 (I 23 5) hb   ⟨by omega, by omega⟩ ⟨by omega, by omega⟩  
    obtain ⟨I42, J43, rfl, hI42, g41, k41, ⟨z41, rfl, q41⟩⟩ := P41
    have FI42 := gc_frc (W := fun q j => (q = 39 ∧ j = 3) ∨ (q = 39 ∧ j = 4) ∨ (q = 23 ∧ j = 5) ∨ (q = 23 ∧ j = 6) ∨ (q = 23 ∧ j = 7) ∨ (q = 23 ∧ j = 8) ∨ (q = 39 ∧ j = 12) ∨ (q = 39 ∧ j = 15) ∨ q = 43) (V := fun q j => (q = 39 ∧ j = 3) ∨ (q = 39 ∧ j = 4)) FI (fun q j h => (h.elim (fun h => (Or.inl h)) (fun h => (Or.inr (Or.inl h))))) g41
    have t44 := (g41 23 1).resolve_left (fun h => h.elim (fun h => absurd h.2 (by decide)) (fun h => absurd h.2 (by decide)))
    have t45 := (g41 23 5).resolve_left (fun h => h.elim (fun h => absurd h.2 (by decide)) (fun h => absurd h.2 (by decide)))
    have t46 := (g41 23 6).resolve_left (fun h => h.elim (fun h => absurd h.2 (by decide)) (fun h => absurd h.2 (by decide)))
    have t47 := (g41 23 7).resolve_left (fun h => h.elim (fun h => absurd h.2 (by decide)) (fun h => absurd h.2 (by decide)))
    have t48 := (g41 39 12).resolve_left (fun h => h.elim (fun h => absurd h.2 (by decide)) (fun h => absurd h.2 (by decide)))
    have t49 := (g41 39 15).resolve_left (fun h => h.elim (fun h => absurd h.2 (by decide)) (fun h => absurd h.2 (by decide)))
    have t50 := (g41 23 8).resolve_left (fun h => h.elim (fun h => absurd h.2 (by decide)) (fun h => absurd h.2 (by decide)))
    have t51 := (g41 12 (Int.toNat a1)).resolve_left (fun h => h.elim (fun h => absurd h.1 (by decide)) (fun h => absurd h.1 (by decide)))
    obtain rfl : J = J43 := funext fun q => funext fun j => ((k41 q j).resolve_left id).symm
    have KLT_I42 := gc_LT_fr KLT_I ((g41 23 5).resolve_left (fun h => h.elim (fun h => absurd h.2 (by decide)) (fun h => absurd h.2 (by decide)))) ((g41 23 6).resolve_left (fun h => h.elim (fun h => absurd h.2 (by decide)) (fun h => absurd h.2 (by decide)))) ((g41 23 7).resolve_left (fun h => h.elim (fun h => absurd h.2 (by decide)) (fun h => absurd h.2 (by decide)))) (fun k => (g41 24 k).resolve_left (fun h => h.elim (fun h => absurd h.1 (by decide)) (fun h => absurd h.1 (by decide))))
    have KTK_I42 := gc_TK_fr KTK_I ((g41 23 1).resolve_left (fun h => h.elim (fun h => absurd h.2 (by decide)) (fun h => absurd h.2 (by decide)))) ((g41 23 5).resolve_left (fun h => h.elim (fun h => absurd h.2 (by decide)) (fun h => absurd h.2 (by decide)))) ((g41 23 6).resolve_left (fun h => h.elim (fun h => absurd h.2 (by decide)) (fun h => absurd h.2 (by decide)))) ((g41 23 7).resolve_left (fun h => h.elim (fun h => absurd h.2 (by decide)) (fun h => absurd h.2 (by decide))))
    have KTO_I42 := gc_TO_fr KTO_I ((g41 39 12).resolve_left (fun h => h.elim (fun h => absurd h.2 (by decide)) (fun h => absurd h.2 (by decide)))) (fun k => (g41 43 k).resolve_left (fun h => h.elim (fun h => absurd h.1 (by decide)) (fun h => absurd h.1 (by decide))))
    refine gv_callV hD rfl (As := [.inl 5, .inl (I 23 5)]) (st := []) rfl B_39 S_39 rfl (gc_lV6 hws rfl) (Nat.le_of_ble_eq_true rfl) (gz_Ev_mono (d := 1) (by omega) E41) ?_
    show gv_X _ _ (98, [(0, .inr (.inr (some 39)))], [.inl z41], sh, gc_h sh I42 J A)
    exact gv_zret hD rfl (by omega) ⟨I42, J, rfl, hI42, FI42, FJ, KLT_I42, KTK_I42, KTO_I42, ⟨_, rfl, by omega, by omega, by omega, by omega, by omega, by omega, by omega, (Or.inl (by omega))⟩⟩
  have L201 : ∀ (I52 : gr_I) (J53 : gr_J) , gc_Inv ro I52 → (∀ q j : Nat, ((q = 39 ∧ j = 3) ∨ (q = 39 ∧ j = 4) ∨ (q = 23 ∧ j = 5) ∨ (q = 23 ∧ j = 6) ∨ (q = 23 ∧ j = 7) ∨ (q = 23 ∧ j = 8) ∨ (q = 39 ∧ j = 12) ∨ (q = 39 ∧ j = 15) ∨ q = 43) ∨ I52 q j = I q j) → (∀ q j : Nat, ((q = 23 ∧ j = 9) ∨ q = 44 ∨ q = 45) ∨ J53 q j = J q j) → gc_LT I52 → gc_TK I52 → gc_TO b I52 → ((I 39 12 ≤ I52 39 12) ∧ (b ≤ -3 - I52 12 (Int.toNat a1)) ∧ (I52 39 15 = I 39 15) ∧ (I52 39 12 ≤ I52 23 5 + 1) ∧ (I52 23 7 = 1 ∨ I52 23 7 = 2) ∧ (I52 23 1 = I 23 1) ∧ (I 23 5 ≤ I52 23 5)) → (gc_TD I I52) → gv_X (gc_E6 ws0 tb (6 + 2 * nr) (yX6_readAtom, cX6_readAtom, 4, (some .boolean)) kX6_readAtom) (gv_Q cX6_readAtom (some .boolean) sh (fun r h' => (∃ (I' : gr_I) (J' : gr_J), h' = gc_h sh I' J' A ∧ gc_Inv ro I' ∧ (∀ q j : Nat, ((q = 39 ∧ j = 3) ∨ (q = 39 ∧ j = 4) ∨ (q = 23 ∧ j = 5) ∨ (q = 23 ∧ j = 6) ∨ (q = 23 ∧ j = 7) ∨ (q = 23 ∧ j = 8) ∨ (q = 39 ∧ j = 12) ∨ (q = 39 ∧ j = 15) ∨ q = 43) ∨ I' q j = I q j) ∧ (∀ q j : Nat, ((q = 23 ∧ j = 9) ∨ q = 44 ∨ q = 45) ∨ J' q j = J q j) ∧ gc_LT I' ∧ gc_TK I' ∧ gc_TO b I' ∧ (∃ z : Int, r = some (.inl z) ∧ 0 ≤ z ∧ z ≤ 1 ∧ (I' 23 1 = I 23 1) ∧ (I 23 5 ≤ I' 23 5) ∧ (I' 39 12 ≤ I' 23 5) ∧ (z = 0 ∨ I' 39 15 = I 39 15) ∧ (I 39 12 ≤ I' 39 12) ∧ (gc_TE z I I'))))) (201, [(0, .inr (.inr (some 39)))], [], sh, gc_h sh I52 J53 A) := by
    intro I52 J53 hI52 FI52 FJ53 KLT_I52 KTK_I52 KTO_I52 m_54 e0_54
    obtain ⟨e1_54, e2_54, e3_54, e4_54, e5_54, e6_54, e7_54⟩ := m_54
    have t55 := gc_TK_mo KTK_I52
    have f56 := (show 0 ≤ I52 23 1 ∧ I52 23 1 ≤ 1000 from gc_in hI52 R_23 rfl rfl)
    have f57 := (show 0 ≤ I52 23 5 ∧ I52 23 5 ≤ 1000 from gc_in hI52 R_23 rfl rfl)
    have f58 := (show 0 ≤ I52 23 6 ∧ I52 23 6 ≤ 1001 from gc_in hI52 R_23 rfl rfl)
    have f59 := (show 0 ≤ I52 23 7 ∧ I52 23 7 ≤ 125 from gc_in hI52 R_23 rfl rfl)
    have f60 := (show 0 ≤ I52 39 12 ∧ I52 39 12 ≤ 2000 from gc_in hI52 R_39 rfl rfl)
    have f61 := (show 0 ≤ I52 39 15 ∧ I52 39 15 ≤ 41 from gc_in hI52 R_39 rfl rfl)
    have f62 := (show 0 ≤ I52 23 8 ∧ I52 23 8 ≤ 999999 from gc_in hI52 R_23 rfl rfl)
    refine gv_run 1 true hD (pc' := 202) (lv' := [(0, .inr (.inr (some 39)))]) (st' := [.inr (.inr (some 39))]) (h' := gc_h sh I52 J53 A) (C := (True ∧ True)) rfl ⟨trivial, trivial⟩ ?_
    refine gv_get hD rfl rfl S_39 ⟨by decide, B_39⟩ (gc_hA S_39 rfl A_39_1) ?_
    show gv_X _ _ (205, [(0, .inr (.inr (some 39)))], [.inr (.inr (some 23))], sh, gc_h sh I52 J53 A)
    have t64 := gc_TK_nx KTK_I52 (by omega)
    have t65 := gc_TK_st KTK_I52 (by omega)
    obtain ⟨r63, h63, E63, P63⟩ := d_X9_advance (ws0 := ws0) (tb := tb) hws htb sh ro I52 J53 A hI52 23  (gc_b23 hb)    (by omega) 
    obtain ⟨I66, J67, rfl, hI66, g63, k63, ⟨rfl, V63_0, V63_1, V63_2, V63_3, V63_4, q63⟩⟩ := P63
    have FI66 := gc_frc (W := fun q j => (q = 39 ∧ j = 3) ∨ (q = 39 ∧ j = 4) ∨ (q = 23 ∧ j = 5) ∨ (q = 23 ∧ j = 6) ∨ (q = 23 ∧ j = 7) ∨ (q = 23 ∧ j = 8) ∨ (q = 39 ∧ j = 12) ∨ (q = 39 ∧ j = 15) ∨ q = 43) (V := fun q j => (q = 23 ∧ j = 5) ∨ (q = 23 ∧ j = 6) ∨ (q = 23 ∧ j = 7) ∨ (q = 23 ∧ j = 8)) FI52 (fun q j h => (h.elim (fun h => (Or.inr (Or.inr (Or.inl h)))) (fun h => (h.elim (fun h => (Or.inr (Or.inr (Or.inr (Or.inl h))))) (fun h => (h.elim (fun h => (Or.inr (Or.inr (Or.inr (Or.inr (Or.inl h)))))) (fun h => (Or.inr (Or.inr (Or.inr (Or.inr (Or.inr (Or.inl h))))))))))))) g63
    have FJ67 := gc_frc (W := fun q j => (q = 23 ∧ j = 9) ∨ q = 44 ∨ q = 45) (V := fun q j => (q = 23 ∧ j = 9)) FJ53 (fun q j h => (Or.inl h)) k63
    have t68 := (g63 23 1).resolve_left (fun h => h.elim (fun h => absurd h.2 (by decide)) (fun h => h.elim (fun h => absurd h.2 (by decide)) (fun h => h.elim (fun h => absurd h.2 (by decide)) (fun h => absurd h.2 (by decide)))))
    have t69 := (g63 39 12).resolve_left (fun h => h.elim (fun h => absurd h.2 (by decide)) (fun h => h.elim (fun h => absurd h.2 (by decide)) (fun h => h.elim (fun h => absurd h.2 (by decide)) (fun h => absurd h.2 (by decide)))))
    have t70 := (g63 39 15).resolve_left (fun h => h.elim (fun h => absurd h.2 (by decide)) (fun h => h.elim (fun h => absurd h.2 (by decide)) (fun h => h.elim (fun h => absurd h.2 (by decide)) (fun h => absurd h.2 (by decide)))))
    have t71 := (g63 12 (Int.toNat a1)).resolve_left (fun h => h.elim (fun h => absurd h.1 (by decide)) (fun h => h.elim (fun h => absurd h.1 (by decide)) (fun h => h.elim (fun h => absurd h.1 (by decide)) (fun h => absurd h.1 (by decide)))))
    have f72 := (show 0 ≤ I66 23 5 ∧ I66 23 5 ≤ 1000 from gc_in hI66 R_23 rfl rfl)
    have f73 := (show 0 ≤ I66 23 6 ∧ I66 23 6 ≤ 1001 from gc_in hI66 R_23 rfl rfl)
    have f74 := (show 0 ≤ I66 23 7 ∧ I66 23 7 ≤ 125 from gc_in hI66 R_23 rfl rfl)
    have f75 := (show 0 ≤ I66 23 8 ∧ I66 23 8 ≤ 999999 from gc_in hI66 R_23 rfl rfl)
    have KLT_I66 : gc_LT I66 := q63.2.2
    have KTO_I66 := gc_TO_fr KTO_I52 ((g63 39 12).resolve_left (fun h => h.elim (fun h => absurd h.2 (by decide)) (fun h => h.elim (fun h => absurd h.2 (by decide)) (fun h => h.elim (fun h => absurd h.2 (by decide)) (fun h => absurd h.2 (by decide)))))) (fun k => (g63 43 k).resolve_left (fun h => h.elim (fun h => absurd h.1 (by decide)) (fun h => h.elim (fun h => absurd h.1 (by decide)) (fun h => h.elim (fun h => absurd h.1 (by decide)) (fun h => absurd h.1 (by decide))))))
    have KTK_I66 : gc_TK I66 := And.intro V63_0 (And.intro V63_1 (And.intro V63_2 (And.intro V63_3 V63_4)))
    have t76 := gc_TK_mo KTK_I66
    clear V63_0 V63_1 V63_2 V63_3 V63_4
    refine gv_callV hD rfl (As := []) (st := []) rfl B_23 S_23 rfl (gc_lV6 hws rfl) (Nat.le_of_ble_eq_true rfl) (gz_Ev_mono (d := 2) (by omega) E63) ?_
    show gv_X _ _ (208, [(0, .inr (.inr (some 39)))], [], sh, gc_h sh I66 J67 A)
    refine gv_run 1 true hD (pc' := 209) (lv' := [(0, .inr (.inr (some 39)))]) (st' := [.inl 1]) (h' := gc_h sh I66 J67 A) (C := (True ∧ True)) rfl ⟨trivial, trivial⟩ ?_
    exact gv_zret hD rfl (by omega) ⟨I66, J67, rfl, hI66, FI66, FJ67, KLT_I66, KTK_I66, KTO_I66, ⟨_, rfl, by omega, by omega, by omega, by omega, by omega, by omega, by omega, (Or.inr (gc_TD_fr e0_54 rfl (fun _ => rfl) (by omega) (fun k => ((g63 43 k).resolve_left (by omega)))))⟩⟩
  have L125 : ∀ (n9 : Nat) (v3_77 : Int), (42 - v3_77).toNat < n9 → ((0 ≤ v3_77 ∧ v3_77 ≤ 41) ∧ (I 39 12 ≤ I 23 5) ∧ (I 39 12 ≤ I 39 12) ∧ (b ≤ -3 - I 12 (Int.toNat a1)) ∧ (I 39 15 = I 39 15) ∧ (I 23 7 = 1) ∧ (v3_77 ≤ I 39 15) ∧ (I 23 1 = I 23 1) ∧ (I 23 5 ≤ I 23 5)) → gv_X (gc_E6 ws0 tb (6 + 2 * nr) (yX6_readAtom, cX6_readAtom, 4, (some .boolean)) kX6_readAtom) (gv_Q cX6_readAtom (some .boolean) sh (fun r h' => (∃ (I' : gr_I) (J' : gr_J), h' = gc_h sh I' J' A ∧ gc_Inv ro I' ∧ (∀ q j : Nat, ((q = 39 ∧ j = 3) ∨ (q = 39 ∧ j = 4) ∨ (q = 23 ∧ j = 5) ∨ (q = 23 ∧ j = 6) ∨ (q = 23 ∧ j = 7) ∨ (q = 23 ∧ j = 8) ∨ (q = 39 ∧ j = 12) ∨ (q = 39 ∧ j = 15) ∨ q = 43) ∨ I' q j = I q j) ∧ (∀ q j : Nat, ((q = 23 ∧ j = 9) ∨ q = 44 ∨ q = 45) ∨ J' q j = J q j) ∧ gc_LT I' ∧ gc_TK I' ∧ gc_TO b I' ∧ (∃ z : Int, r = some (.inl z) ∧ 0 ≤ z ∧ z ≤ 1 ∧ (I' 23 1 = I 23 1) ∧ (I 23 5 ≤ I' 23 5) ∧ (I' 39 12 ≤ I' 23 5) ∧ (z = 0 ∨ I' 39 15 = I 39 15) ∧ (I 39 12 ≤ I' 39 12) ∧ (gc_TE z I I'))))) (125, [(0, .inr (.inr (some 39))), (3, .inl v3_77)], [], sh, gc_h sh I J A) := by
    intro n9
    induction n9 with
    | zero => intro v3_77 hn; omega
    | succ n9 ih125 =>
      intro v3_77 hn m_77
      obtain ⟨hv3_77, e0_77, e1_77, e2_77, e3_77, e4_77, e5_77, e6_77, e7_77⟩ := m_77
      have t78 := gc_TK_mo KTK_I
      have f79 := (show 0 ≤ I 23 1 ∧ I 23 1 ≤ 1000 from gc_in hI R_23 rfl rfl)
      have f80 := (show 0 ≤ I 23 5 ∧ I 23 5 ≤ 1000 from gc_in hI R_23 rfl rfl)
      have f81 := (show 0 ≤ I 23 6 ∧ I 23 6 ≤ 1001 from gc_in hI R_23 rfl rfl)
      have f82 := (show 0 ≤ I 23 7 ∧ I 23 7 ≤ 125 from gc_in hI R_23 rfl rfl)
      have f83 := (show 0 ≤ I 39 12 ∧ I 39 12 ≤ 2000 from gc_in hI R_39 rfl rfl)
      have f84 := (show 0 ≤ I 39 15 ∧ I 39 15 ≤ 41 from gc_in hI R_39 rfl rfl)
      have f85 := (show 0 ≤ I 23 8 ∧ I 23 8 ≤ 999999 from gc_in hI R_23 rfl rfl)
      have L163 : ((0 ≤ v3_77 ∧ v3_77 ≤ 41) ∧ (I 39 12 ≤ I 23 5) ∧ (I 39 12 ≤ I 39 12) ∧ (b ≤ -3 - I 12 (Int.toNat a1)) ∧ (I 39 15 = I 39 15) ∧ (I 23 7 = 1) ∧ (v3_77 ≤ I 39 15) ∧ (I 23 1 = I 23 1) ∧ (I 23 5 ≤ I 23 5)) → gv_X (gc_E6 ws0 tb (6 + 2 * nr) (yX6_readAtom, cX6_readAtom, 4, (some .boolean)) kX6_readAtom) (gv_Q cX6_readAtom (some .boolean) sh (fun r h' => (∃ (I' : gr_I) (J' : gr_J), h' = gc_h sh I' J' A ∧ gc_Inv ro I' ∧ (∀ q j : Nat, ((q = 39 ∧ j = 3) ∨ (q = 39 ∧ j = 4) ∨ (q = 23 ∧ j = 5) ∨ (q = 23 ∧ j = 6) ∨ (q = 23 ∧ j = 7) ∨ (q = 23 ∧ j = 8) ∨ (q = 39 ∧ j = 12) ∨ (q = 39 ∧ j = 15) ∨ q = 43) ∨ I' q j = I q j) ∧ (∀ q j : Nat, ((q = 23 ∧ j = 9) ∨ q = 44 ∨ q = 45) ∨ J' q j = J q j) ∧ gc_LT I' ∧ gc_TK I' ∧ gc_TO b I' ∧ (∃ z : Int, r = some (.inl z) ∧ 0 ≤ z ∧ z ≤ 1 ∧ (I' 23 1 = I 23 1) ∧ (I 23 5 ≤ I' 23 5) ∧ (I' 39 12 ≤ I' 23 5) ∧ (z = 0 ∨ I' 39 15 = I 39 15) ∧ (I 39 12 ≤ I' 39 12) ∧ (gc_TE z I I'))))) (163, [(0, .inr (.inr (some 39))), (3, .inl v3_77)], [], sh, gc_h sh I J A) := by
        intro m_86
        obtain ⟨hv3_77_86, e0_86, e1_86, e2_86, e3_86, e4_86, e5_86, e6_86, e7_86⟩ := m_86
        have t87 := gc_TK_mo KTK_I
        have f88 := (show 0 ≤ I 23 1 ∧ I 23 1 ≤ 1000 from gc_in hI R_23 rfl rfl)
        have f89 := (show 0 ≤ I 23 5 ∧ I 23 5 ≤ 1000 from gc_in hI R_23 rfl rfl)
        have f90 := (show 0 ≤ I 23 6 ∧ I 23 6 ≤ 1001 from gc_in hI R_23 rfl rfl)
        have f91 := (show 0 ≤ I 23 7 ∧ I 23 7 ≤ 125 from gc_in hI R_23 rfl rfl)
        have f92 := (show 0 ≤ I 39 12 ∧ I 39 12 ≤ 2000 from gc_in hI R_39 rfl rfl)
        have f93 := (show 0 ≤ I 39 15 ∧ I 39 15 ≤ 41 from gc_in hI R_39 rfl rfl)
        have f94 := (show 0 ≤ I 23 8 ∧ I 23 8 ≤ 999999 from gc_in hI R_23 rfl rfl)
        refine gv_run 2 true hD (pc' := 165) (lv' := [(0, .inr (.inr (some 39))), (3, .inl v3_77)]) (st' := [.inr (.inr (some 39)), .inl v3_77]) (h' := gc_h sh I J A) (C := ((True ∧ True) ∧ True)) rfl ⟨⟨trivial, trivial⟩, trivial⟩ ?_
        have f95 := (show 0 ≤ I 39 15 ∧ I 39 15 ≤ 41 from gc_in hI R_39 rfl rfl)
        refine gv_get hD rfl rfl S_39 ⟨by decide, B_39⟩ (gc_hI S_39 rfl) ?_
        show gv_X _ _ (168, [(0, .inr (.inr (some 39))), (3, .inl v3_77)], [.inl (I 39 15), .inl v3_77], sh, gc_h sh I J A)
        refine gv_icmp_ge (t := 184) hD rfl rfl ⟨⟨by omega, by omega⟩, ⟨by omega, by omega⟩⟩ (fun c96 => ?_) (fun c96 => ?_)
        · show gv_X _ _ (184, [(0, .inr (.inr (some 39))), (3, .inl v3_77)], [], sh, gc_h sh I J A)
          refine gv_run 2 true hD (pc' := 186) (lv' := [(0, .inr (.inr (some 39))), (3, .inl v3_77)]) (st' := [.inr (.inr (some 39)), .inr (.inr (some 39))]) (h' := gc_h sh I J A) (C := ((True ∧ True) ∧ True)) rfl ⟨⟨trivial, trivial⟩, trivial⟩ ?_
          have f97 := (show 0 ≤ I 39 12 ∧ I 39 12 ≤ 2000 from gc_in hI R_39 rfl rfl)
          refine gv_get hD rfl rfl S_39 ⟨by decide, B_39⟩ (gc_hI S_39 rfl) ?_
          show gv_X _ _ (189, [(0, .inr (.inr (some 39))), (3, .inl v3_77)], [.inl (I 39 12), .inr (.inr (some 39))], sh, gc_h sh I J A)
          refine gv_run 2 true hD (pc' := 192) (lv' := [(0, .inr (.inr (some 39))), (3, .inl v3_77)]) (st' := [.inr (.inr (some 39)), .inl (-3), .inl (I 39 12), .inr (.inr (some 39))]) (h' := gc_h sh I J A) (C := ((True ∧ True) ∧ True)) rfl ⟨⟨trivial, trivial⟩, trivial⟩ ?_
          refine gv_get hD rfl rfl S_39 ⟨by decide, B_39⟩ (gc_hA S_39 rfl A_39_1) ?_
          show gv_X _ _ (195, [(0, .inr (.inr (some 39))), (3, .inl v3_77)], [.inr (.inr (some 23)), .inl (-3), .inl (I 39 12), .inr (.inr (some 39))], sh, gc_h sh I J A)
          refine gv_get hD rfl rfl S_23 ⟨by decide, B_23⟩ (gc_hJ S_23 rfl) ?_
          show gv_X _ _ (198, [(0, .inr (.inr (some 39))), (3, .inl v3_77)], [.inr (.inl (J 23 9)), .inl (-3), .inl (I 39 12), .inr (.inr (some 39))], sh, gc_h sh I J A)
          obtain ⟨r98, h98, E98, P98⟩ := d_X6_putNode (ws0 := ws0) (tb := tb) hws htb sh ro I J A hI  b (I 39 12) (-3) (J 23 9) hb   ⟨by omega, by omega⟩ ⟨by omega, by omega⟩ (by omega) (by omega) (by omega) KTO_I
          obtain ⟨I99, J100, rfl, hI99, g98, k98, KTO_I99, ⟨rfl, q98⟩⟩ := P98
          have FI99 := gc_frc (W := fun q j => (q = 39 ∧ j = 3) ∨ (q = 39 ∧ j = 4) ∨ (q = 23 ∧ j = 5) ∨ (q = 23 ∧ j = 6) ∨ (q = 23 ∧ j = 7) ∨ (q = 23 ∧ j = 8) ∨ (q = 39 ∧ j = 12) ∨ (q = 39 ∧ j = 15) ∨ q = 43) (V := fun q j => (q = 39 ∧ j = 12) ∨ q = 43) FI (fun q j h => (h.elim (fun h => (Or.inr (Or.inr (Or.inr (Or.inr (Or.inr (Or.inr (Or.inl h)))))))) (fun h => (Or.inr (Or.inr (Or.inr (Or.inr (Or.inr (Or.inr (Or.inr (Or.inr h))))))))))) g98
          have FJ100 := gc_frc (W := fun q j => (q = 23 ∧ j = 9) ∨ q = 44 ∨ q = 45) (V := fun q j => q = 44) FJ (fun q j h => (Or.inr (Or.inl h))) k98
          have t101 := (g98 23 1).resolve_left (fun h => h.elim (fun h => absurd h.2 (by decide)) (fun h => absurd h (by decide)))
          have t102 := (g98 23 5).resolve_left (fun h => h.elim (fun h => absurd h.2 (by decide)) (fun h => absurd h (by decide)))
          have t103 := (g98 23 6).resolve_left (fun h => h.elim (fun h => absurd h.2 (by decide)) (fun h => absurd h (by decide)))
          have t104 := (g98 23 7).resolve_left (fun h => h.elim (fun h => absurd h.2 (by decide)) (fun h => absurd h (by decide)))
          have t105 := (g98 39 15).resolve_left (fun h => h.elim (fun h => absurd h.2 (by decide)) (fun h => absurd h (by decide)))
          have t106 := (g98 23 8).resolve_left (fun h => h.elim (fun h => absurd h.2 (by decide)) (fun h => absurd h (by decide)))
          have t107 := (g98 12 (Int.toNat a1)).resolve_left (fun h => h.elim (fun h => absurd h.1 (by decide)) (fun h => absurd h (by decide)))
          have f108 := (show 0 ≤ I99 39 12 ∧ I99 39 12 ≤ 2000 from gc_in hI99 R_39 rfl rfl)
          have KLT_I99 := gc_LT_fr KLT_I ((g98 23 5).resolve_left (fun h => h.elim (fun h => absurd h.2 (by decide)) (fun h => absurd h (by decide)))) ((g98 23 6).resolve_left (fun h => h.elim (fun h => absurd h.2 (by decide)) (fun h => absurd h (by decide)))) ((g98 23 7).resolve_left (fun h => h.elim (fun h => absurd h.2 (by decide)) (fun h => absurd h (by decide)))) (fun k => (g98 24 k).resolve_left (fun h => h.elim (fun h => absurd h.1 (by decide)) (fun h => absurd h (by decide))))
          have KTK_I99 := gc_TK_fr KTK_I ((g98 23 1).resolve_left (fun h => h.elim (fun h => absurd h.2 (by decide)) (fun h => absurd h (by decide)))) ((g98 23 5).resolve_left (fun h => h.elim (fun h => absurd h.2 (by decide)) (fun h => absurd h (by decide)))) ((g98 23 6).resolve_left (fun h => h.elim (fun h => absurd h.2 (by decide)) (fun h => absurd h (by decide)))) ((g98 23 7).resolve_left (fun h => h.elim (fun h => absurd h.2 (by decide)) (fun h => absurd h (by decide))))
          refine gv_callV hD rfl (As := [.inl (I 39 12), .inl (-3), .inr (.inl (J 23 9))]) (st := []) rfl B_39 S_39 rfl (gc_lV6 hws rfl) (Nat.le_of_ble_eq_true rfl) (gz_Ev_mono (d := 1) (by omega) E98) ?_
          show gv_X _ _ (201, [(0, .inr (.inr (some 39))), (3, .inl v3_77)], [], sh, gc_h sh I99 J100 A)
          refine gv_pick [0] rfl ?_
          exact L201 I99 J100 hI99 FI99 FJ100 KLT_I99 KTK_I99 KTO_I99 (by omega) (gc_TD_one q98.2 (by omega) (by omega) (by omega) (by omega))
        · show gv_X _ _ (171, [(0, .inr (.inr (some 39))), (3, .inl v3_77)], [], sh, gc_h sh I J A)
          refine gv_run 2 true hD (pc' := 173) (lv' := [(0, .inr (.inr (some 39))), (3, .inl v3_77)]) (st' := [.inr (.inr (some 39)), .inr (.inr (some 39))]) (h' := gc_h sh I J A) (C := ((True ∧ True) ∧ True)) rfl ⟨⟨trivial, trivial⟩, trivial⟩ ?_
          have f109 := (show 0 ≤ I 39 12 ∧ I 39 12 ≤ 2000 from gc_in hI R_39 rfl rfl)
          refine gv_get hD rfl rfl S_39 ⟨by decide, B_39⟩ (gc_hI S_39 rfl) ?_
          show gv_X _ _ (176, [(0, .inr (.inr (some 39))), (3, .inl v3_77)], [.inl (I 39 12), .inr (.inr (some 39))], sh, gc_h sh I J A)
          refine gv_run 2 true hD (pc' := 178) (lv' := [(0, .inr (.inr (some 39))), (3, .inl v3_77)]) (st' := [.inr (.inl (Int64.ofNat 0)), .inl v3_77, .inl (I 39 12), .inr (.inr (some 39))]) (h' := gc_h sh I J A) (C := ((True ∧ True) ∧ True)) rfl ⟨⟨trivial, trivial⟩, trivial⟩ ?_
          obtain ⟨r110, h110, E110, P110⟩ := d_X6_putNode (ws0 := ws0) (tb := tb) hws htb sh ro I J A hI  b (I 39 12) v3_77 (Int64.ofNat 0) hb   ⟨by omega, by omega⟩ ⟨by omega, by omega⟩ (by omega) (by omega) (by omega) KTO_I
          obtain ⟨I111, J112, rfl, hI111, g110, k110, KTO_I111, ⟨rfl, q110⟩⟩ := P110
          have FI111 := gc_frc (W := fun q j => (q = 39 ∧ j = 3) ∨ (q = 39 ∧ j = 4) ∨ (q = 23 ∧ j = 5) ∨ (q = 23 ∧ j = 6) ∨ (q = 23 ∧ j = 7) ∨ (q = 23 ∧ j = 8) ∨ (q = 39 ∧ j = 12) ∨ (q = 39 ∧ j = 15) ∨ q = 43) (V := fun q j => (q = 39 ∧ j = 12) ∨ q = 43) FI (fun q j h => (h.elim (fun h => (Or.inr (Or.inr (Or.inr (Or.inr (Or.inr (Or.inr (Or.inl h)))))))) (fun h => (Or.inr (Or.inr (Or.inr (Or.inr (Or.inr (Or.inr (Or.inr (Or.inr h))))))))))) g110
          have FJ112 := gc_frc (W := fun q j => (q = 23 ∧ j = 9) ∨ q = 44 ∨ q = 45) (V := fun q j => q = 44) FJ (fun q j h => (Or.inr (Or.inl h))) k110
          have t113 := (g110 23 1).resolve_left (fun h => h.elim (fun h => absurd h.2 (by decide)) (fun h => absurd h (by decide)))
          have t114 := (g110 23 5).resolve_left (fun h => h.elim (fun h => absurd h.2 (by decide)) (fun h => absurd h (by decide)))
          have t115 := (g110 23 6).resolve_left (fun h => h.elim (fun h => absurd h.2 (by decide)) (fun h => absurd h (by decide)))
          have t116 := (g110 23 7).resolve_left (fun h => h.elim (fun h => absurd h.2 (by decide)) (fun h => absurd h (by decide)))
          have t117 := (g110 39 15).resolve_left (fun h => h.elim (fun h => absurd h.2 (by decide)) (fun h => absurd h (by decide)))
          have t118 := (g110 23 8).resolve_left (fun h => h.elim (fun h => absurd h.2 (by decide)) (fun h => absurd h (by decide)))
          have t119 := (g110 12 (Int.toNat a1)).resolve_left (fun h => h.elim (fun h => absurd h.1 (by decide)) (fun h => absurd h (by decide)))
          have f120 := (show 0 ≤ I111 39 12 ∧ I111 39 12 ≤ 2000 from gc_in hI111 R_39 rfl rfl)
          have KLT_I111 := gc_LT_fr KLT_I ((g110 23 5).resolve_left (fun h => h.elim (fun h => absurd h.2 (by decide)) (fun h => absurd h (by decide)))) ((g110 23 6).resolve_left (fun h => h.elim (fun h => absurd h.2 (by decide)) (fun h => absurd h (by decide)))) ((g110 23 7).resolve_left (fun h => h.elim (fun h => absurd h.2 (by decide)) (fun h => absurd h (by decide)))) (fun k => (g110 24 k).resolve_left (fun h => h.elim (fun h => absurd h.1 (by decide)) (fun h => absurd h (by decide))))
          have KTK_I111 := gc_TK_fr KTK_I ((g110 23 1).resolve_left (fun h => h.elim (fun h => absurd h.2 (by decide)) (fun h => absurd h (by decide)))) ((g110 23 5).resolve_left (fun h => h.elim (fun h => absurd h.2 (by decide)) (fun h => absurd h (by decide)))) ((g110 23 6).resolve_left (fun h => h.elim (fun h => absurd h.2 (by decide)) (fun h => absurd h (by decide)))) ((g110 23 7).resolve_left (fun h => h.elim (fun h => absurd h.2 (by decide)) (fun h => absurd h (by decide))))
          refine gv_callV hD rfl (As := [.inl (I 39 12), .inl v3_77, .inr (.inl (Int64.ofNat 0))]) (st := []) rfl B_39 S_39 rfl (gc_lV6 hws rfl) (Nat.le_of_ble_eq_true rfl) (gz_Ev_mono (d := 1) (by omega) E110) ?_
          show gv_X _ _ (181, [(0, .inr (.inr (some 39))), (3, .inl v3_77)], [], sh, gc_h sh I111 J112 A)
          refine gv_run 1 true hD (pc' := 201) (lv' := [(0, .inr (.inr (some 39))), (3, .inl v3_77)]) (st' := []) (h' := gc_h sh I111 J112 A) (C := (True ∧ True)) rfl ⟨trivial, trivial⟩ ?_
          refine gv_pick [0] rfl ?_
          exact L201 I111 J112 hI111 FI111 FJ112 KLT_I111 KTK_I111 KTO_I111 (by omega) (gc_TD_one q110.2 (by omega) (by omega) (by omega) (by omega))
      refine gv_run 2 true hD (pc' := 127) (lv' := [(0, .inr (.inr (some 39))), (3, .inl v3_77)]) (st' := [.inr (.inr (some 39)), .inl v3_77]) (h' := gc_h sh I J A) (C := ((True ∧ True) ∧ True)) rfl ⟨⟨trivial, trivial⟩, trivial⟩ ?_
      have f121 := (show 0 ≤ I 39 15 ∧ I 39 15 ≤ 41 from gc_in hI R_39 rfl rfl)
      refine gv_get hD rfl rfl S_39 ⟨by decide, B_39⟩ (gc_hI S_39 rfl) ?_
      show gv_X _ _ (130, [(0, .inr (.inr (some 39))), (3, .inl v3_77)], [.inl (I 39 15), .inl v3_77], sh, gc_h sh I J A)
      refine gv_icmp_ge (t := 163) hD rfl rfl ⟨⟨by omega, by omega⟩, ⟨by omega, by omega⟩⟩ (fun c122 => ?_) (fun c122 => ?_)
      · show gv_X _ _ (163, [(0, .inr (.inr (some 39))), (3, .inl v3_77)], [], sh, gc_h sh I J A)
        exact L163 (by omega)
      · show gv_X _ _ (133, [(0, .inr (.inr (some 39))), (3, .inl v3_77)], [], sh, gc_h sh I J A)
        refine gv_run 1 true hD (pc' := 134) (lv' := [(0, .inr (.inr (some 39))), (3, .inl v3_77)]) (st' := [.inr (.inr (some 39))]) (h' := gc_h sh I J A) (C := (True ∧ True)) rfl ⟨trivial, trivial⟩ ?_
        refine gv_get hD rfl rfl S_39 ⟨by decide, B_39⟩ (gc_hA S_39 rfl A_39_16) ?_
        show gv_X _ _ (137, [(0, .inr (.inr (some 39))), (3, .inl v3_77)], [.inr (.inr (some 45))], sh, gc_h sh I J A)
        refine gv_run 1 true hD (pc' := 138) (lv' := [(0, .inr (.inr (some 39))), (3, .inl v3_77)]) (st' := [.inr (.inr (some 39)), .inr (.inr (some 45))]) (h' := gc_h sh I J A) (C := (True ∧ True)) rfl ⟨trivial, trivial⟩ ?_
        have f123 := (show 0 ≤ I 39 15 ∧ I 39 15 ≤ 41 from gc_in hI R_39 rfl rfl)
        refine gv_get hD rfl rfl S_39 ⟨by decide, B_39⟩ (gc_hI S_39 rfl) ?_
        show gv_X _ _ (141, [(0, .inr (.inr (some 39))), (3, .inl v3_77)], [.inl (I 39 15), .inr (.inr (some 45))], sh, gc_h sh I J A)
        refine gv_run 4 true hD (pc' := 145) (lv' := [(0, .inr (.inr (some 39))), (3, .inl v3_77)]) (st' := [.inl (((I 39 15) - 1) - v3_77), .inr (.inr (some 45))]) (h' := gc_h sh I J A) (C := ((((True ∧ True) ∧ True) ∧ True) ∧ True)) rfl ⟨⟨⟨⟨trivial, trivial⟩, trivial⟩, trivial⟩, trivial⟩ ?_
        refine gv_lald hD rfl S_45 rfl ⟨by decide, B_45⟩ ⟨by omega, by omega⟩ (gc_jJ S_45 rfl) ?_
        show gv_X _ _ (146, [(0, .inr (.inr (some 39))), (3, .inl v3_77)], [.inr (.inl (J 45 (Int.toNat ((((I 39 15) - 1) - v3_77)))))], sh, gc_h sh I J A)
        refine gv_run 1 true hD (pc' := 147) (lv' := [(0, .inr (.inr (some 39))), (3, .inl v3_77)]) (st' := [.inr (.inr (some 39)), .inr (.inl (J 45 (Int.toNat ((((I 39 15) - 1) - v3_77)))))]) (h' := gc_h sh I J A) (C := (True ∧ True)) rfl ⟨trivial, trivial⟩ ?_
        refine gv_get hD rfl rfl S_39 ⟨by decide, B_39⟩ (gc_hA S_39 rfl A_39_1) ?_
        show gv_X _ _ (150, [(0, .inr (.inr (some 39))), (3, .inl v3_77)], [.inr (.inr (some 23)), .inr (.inl (J 45 (Int.toNat ((((I 39 15) - 1) - v3_77)))))], sh, gc_h sh I J A)
        refine gv_get hD rfl rfl S_23 ⟨by decide, B_23⟩ (gc_hJ S_23 rfl) ?_
        show gv_X _ _ (153, [(0, .inr (.inr (some 39))), (3, .inl v3_77)], [.inr (.inl (J 23 9)), .inr (.inl (J 45 (Int.toNat ((((I 39 15) - 1) - v3_77)))))], sh, gc_h sh I J A)
        have f124 := gw_cmp ((J 45 (Int.toNat ((((I 39 15) - 1) - v3_77))))) ((J 23 9))
        refine gv_run 1 true hD (pc' := 154) (lv' := [(0, .inr (.inr (some 39))), (3, .inl v3_77)]) (st' := [.inl ((lg_cmp ((J 45 (Int.toNat ((((I 39 15) - 1) - v3_77))))) ((J 23 9))).toInt)]) (h' := gc_h sh I J A) (C := (True ∧ True)) rfl ⟨trivial, trivial⟩ ?_
        refine gv_if_eq (t := 163) hD rfl rfl ⟨by omega, by omega⟩ (fun c125 => ?_) (fun c125 => ?_)
        · show gv_X _ _ (163, [(0, .inr (.inr (some 39))), (3, .inl v3_77)], [], sh, gc_h sh I J A)
          exact L163 (by omega)
        · show gv_X _ _ (157, [(0, .inr (.inr (some 39))), (3, .inl v3_77)], [], sh, gc_h sh I J A)
          refine gv_run 2 true hD (pc' := 125) (lv' := [(3, .inl (v3_77 + 1)), (0, .inr (.inr (some 39)))]) (st' := []) (h' := gc_h sh I J A) (C := ((True ∧ True) ∧ True)) rfl ⟨⟨trivial, trivial⟩, trivial⟩ ?_
          refine gv_pick [1, 0] rfl ?_
          exact ih125 (v3_77 + 1) (by omega) (by omega)
  refine gv_run 1 true hD (pc' := 1) (lv' := [(0, .inr (.inr (some 39))), (1, .inl a1), (2, .inl a2)]) (st' := [.inr (.inr (some 39))]) (h' := gc_h sh I J A) (C := (True ∧ True)) rfl ⟨trivial, trivial⟩ ?_
  refine gv_get hD rfl rfl S_39 ⟨by decide, B_39⟩ (gc_hA S_39 rfl A_39_1) ?_
  show gv_X _ _ (4, [(0, .inr (.inr (some 39))), (1, .inl a1), (2, .inl a2)], [.inr (.inr (some 23))], sh, gc_h sh I J A)
  have f126 := (show 0 ≤ I 23 7 ∧ I 23 7 ≤ 125 from gc_in hI R_23 rfl rfl)
  refine gv_get hD rfl rfl S_23 ⟨by decide, B_23⟩ (gc_hI S_23 rfl) ?_
  show gv_X _ _ (7, [(0, .inr (.inr (some 39))), (1, .inl a1), (2, .inl a2)], [.inl (I 23 7)], sh, gc_h sh I J A)
  refine gv_run 1 true hD (pc' := 9) (lv' := [(0, .inr (.inr (some 39))), (1, .inl a1), (2, .inl a2)]) (st' := [.inl 40, .inl (I 23 7)]) (h' := gc_h sh I J A) (C := (True ∧ True)) rfl ⟨trivial, trivial⟩ ?_
  refine gv_icmp_ne (t := 45) hD rfl rfl ⟨⟨by omega, by omega⟩, ⟨by omega, by omega⟩⟩ (fun c127 => ?_) (fun c127 => ?_)
  · show gv_X _ _ (45, [(0, .inr (.inr (some 39))), (1, .inl a1), (2, .inl a2)], [], sh, gc_h sh I J A)
    refine gv_run 1 true hD (pc' := 46) (lv' := [(0, .inr (.inr (some 39))), (1, .inl a1), (2, .inl a2)]) (st' := [.inr (.inr (some 39))]) (h' := gc_h sh I J A) (C := (True ∧ True)) rfl ⟨trivial, trivial⟩ ?_
    refine gv_get hD rfl rfl S_39 ⟨by decide, B_39⟩ (gc_hA S_39 rfl A_39_1) ?_
    show gv_X _ _ (49, [(0, .inr (.inr (some 39))), (1, .inl a1), (2, .inl a2)], [.inr (.inr (some 23))], sh, gc_h sh I J A)
    have f128 := (show 0 ≤ I 23 7 ∧ I 23 7 ≤ 125 from gc_in hI R_23 rfl rfl)
    refine gv_get hD rfl rfl S_23 ⟨by decide, B_23⟩ (gc_hI S_23 rfl) ?_
    show gv_X _ _ (52, [(0, .inr (.inr (some 39))), (1, .inl a1), (2, .inl a2)], [.inl (I 23 7)], sh, gc_h sh I J A)
    refine gv_run 1 true hD (pc' := 53) (lv' := [(0, .inr (.inr (some 39))), (1, .inl a1), (2, .inl a2)]) (st' := [.inl 2, .inl (I 23 7)]) (h' := gc_h sh I J A) (C := (True ∧ True)) rfl ⟨trivial, trivial⟩ ?_
    refine gv_icmp_ne (t := 123) hD rfl rfl ⟨⟨by omega, by omega⟩, ⟨by omega, by omega⟩⟩ (fun c129 => ?_) (fun c129 => ?_)
    · show gv_X _ _ (123, [(0, .inr (.inr (some 39))), (1, .inl a1), (2, .inl a2)], [], sh, gc_h sh I J A)
      refine gv_run 2 true hD (pc' := 125) (lv' := [(3, .inl 0), (0, .inr (.inr (some 39))), (1, .inl a1), (2, .inl a2)]) (st' := []) (h' := gc_h sh I J A) (C := ((True ∧ True) ∧ True)) rfl ⟨⟨trivial, trivial⟩, trivial⟩ ?_
      refine gv_pick [1, 0] rfl ?_
      exact L125 _ 0 (Nat.lt_succ_self _) (by omega)
    · show gv_X _ _ (56, [(0, .inr (.inr (some 39))), (1, .inl a1), (2, .inl a2)], [], sh, gc_h sh I J A)
      refine gv_run 1 true hD (pc' := 57) (lv' := [(0, .inr (.inr (some 39))), (1, .inl a1), (2, .inl a2)]) (st' := [.inr (.inr (some 39))]) (h' := gc_h sh I J A) (C := (True ∧ True)) rfl ⟨trivial, trivial⟩ ?_
      refine gv_get hD rfl rfl S_39 ⟨by decide, B_39⟩ (gc_hA S_39 rfl A_39_1) ?_
      show gv_X _ _ (60, [(0, .inr (.inr (some 39))), (1, .inl a1), (2, .inl a2)], [.inr (.inr (some 23))], sh, gc_h sh I J A)
      have f130 := (show 0 ≤ I 23 8 ∧ I 23 8 ≤ 999999 from gc_in hI R_23 rfl rfl)
      refine gv_get hD rfl rfl S_23 ⟨by decide, B_23⟩ (gc_hI S_23 rfl) ?_
      show gv_X _ _ (63, [(0, .inr (.inr (some 39))), (1, .inl a1), (2, .inl a2)], [.inl (I 23 8)], sh, gc_h sh I J A)
      refine gv_run 1 true hD (pc' := 64) (lv' := [(0, .inr (.inr (some 39))), (1, .inl a1), (2, .inl a2)]) (st' := [.inl 1, .inl (I 23 8)]) (h' := gc_h sh I J A) (C := (True ∧ True)) rfl ⟨trivial, trivial⟩ ?_
      refine gv_icmp_lt (t := 86) hD rfl rfl ⟨⟨by omega, by omega⟩, ⟨by omega, by omega⟩⟩ (fun c131 => ?_) (fun c131 => ?_)
      · show gv_X _ _ (86, [(0, .inr (.inr (some 39))), (1, .inl a1), (2, .inl a2)], [], sh, gc_h sh I J A)
        refine gv_pick [0] rfl ?_
        exact L86 (by omega)
      · show gv_X _ _ (67, [(0, .inr (.inr (some 39))), (1, .inl a1), (2, .inl a2)], [], sh, gc_h sh I J A)
        refine gv_run 1 true hD (pc' := 68) (lv' := [(0, .inr (.inr (some 39))), (1, .inl a1), (2, .inl a2)]) (st' := [.inr (.inr (some 39))]) (h' := gc_h sh I J A) (C := (True ∧ True)) rfl ⟨trivial, trivial⟩ ?_
        refine gv_get hD rfl rfl S_39 ⟨by decide, B_39⟩ (gc_hA S_39 rfl A_39_1) ?_
        show gv_X _ _ (71, [(0, .inr (.inr (some 39))), (1, .inl a1), (2, .inl a2)], [.inr (.inr (some 23))], sh, gc_h sh I J A)
        have f132 := (show 0 ≤ I 23 8 ∧ I 23 8 ≤ 999999 from gc_in hI R_23 rfl rfl)
        refine gv_get hD rfl rfl S_23 ⟨by decide, B_23⟩ (gc_hI S_23 rfl) ?_
        show gv_X _ _ (74, [(0, .inr (.inr (some 39))), (1, .inl a1), (2, .inl a2)], [.inl (I 23 8)], sh, gc_h sh I J A)
        refine gv_run 1 true hD (pc' := 75) (lv' := [(0, .inr (.inr (some 39))), (1, .inl a1), (2, .inl a2)]) (st' := [.inr (.inr (some 39)), .inl (I 23 8)]) (h' := gc_h sh I J A) (C := (True ∧ True)) rfl ⟨trivial, trivial⟩ ?_
        refine gv_get hD rfl rfl S_39 ⟨by decide, B_39⟩ (gc_hA S_39 rfl A_39_0) ?_
        show gv_X _ _ (78, [(0, .inr (.inr (some 39))), (1, .inl a1), (2, .inl a2)], [.inr (.inr (some 1)), .inl (I 23 8)], sh, gc_h sh I J A)
        refine gv_get hD rfl rfl S_1 ⟨by decide, B_1⟩ (gc_hA S_1 rfl A_1_7) ?_
        show gv_X _ _ (81, [(0, .inr (.inr (some 39))), (1, .inl a1), (2, .inl a2)], [.inr (.inr (some 12)), .inl (I 23 8)], sh, gc_h sh I J A)
        refine gv_run 1 true hD (pc' := 82) (lv' := [(0, .inr (.inr (some 39))), (1, .inl a1), (2, .inl a2)]) (st' := [.inl a1, .inr (.inr (some 12)), .inl (I 23 8)]) (h' := gc_h sh I J A) (C := (True ∧ True)) rfl ⟨trivial, trivial⟩ ?_
        have f133 := (show 0 ≤ I 12 (Int.toNat a1) ∧ I 12 (Int.toNat a1) ≤ 4 from gc_in hI R_12 rfl rfl)
        refine gv_iald hD rfl S_12 rfl ⟨by decide, B_12⟩ ⟨by omega, by omega⟩ (gc_iI S_12 rfl) ?_
        show gv_X _ _ (83, [(0, .inr (.inr (some 39))), (1, .inl a1), (2, .inl a2)], [.inl (I 12 (Int.toNat a1)), .inl (I 23 8)], sh, gc_h sh I J A)
        refine gv_icmp_le (t := 99) hD rfl rfl ⟨⟨by omega, by omega⟩, ⟨by omega, by omega⟩⟩ (fun c134 => ?_) (fun c134 => ?_)
        · show gv_X _ _ (99, [(0, .inr (.inr (some 39))), (1, .inl a1), (2, .inl a2)], [], sh, gc_h sh I J A)
          refine gv_run 2 true hD (pc' := 101) (lv' := [(0, .inr (.inr (some 39))), (1, .inl a1), (2, .inl a2)]) (st' := [.inr (.inr (some 39)), .inr (.inr (some 39))]) (h' := gc_h sh I J A) (C := ((True ∧ True) ∧ True)) rfl ⟨⟨trivial, trivial⟩, trivial⟩ ?_
          have f135 := (show 0 ≤ I 39 12 ∧ I 39 12 ≤ 2000 from gc_in hI R_39 rfl rfl)
          refine gv_get hD rfl rfl S_39 ⟨by decide, B_39⟩ (gc_hI S_39 rfl) ?_
          show gv_X _ _ (104, [(0, .inr (.inr (some 39))), (1, .inl a1), (2, .inl a2)], [.inl (I 39 12), .inr (.inr (some 39))], sh, gc_h sh I J A)
          refine gv_run 2 true hD (pc' := 107) (lv' := [(0, .inr (.inr (some 39))), (1, .inl a1), (2, .inl a2)]) (st' := [.inr (.inr (some 39)), .inl (-4), .inl (I 39 12), .inr (.inr (some 39))]) (h' := gc_h sh I J A) (C := ((True ∧ True) ∧ True)) rfl ⟨⟨trivial, trivial⟩, trivial⟩ ?_
          refine gv_get hD rfl rfl S_39 ⟨by decide, B_39⟩ (gc_hA S_39 rfl A_39_1) ?_
          show gv_X _ _ (110, [(0, .inr (.inr (some 39))), (1, .inl a1), (2, .inl a2)], [.inr (.inr (some 23)), .inl (-4), .inl (I 39 12), .inr (.inr (some 39))], sh, gc_h sh I J A)
          have f136 := (show 0 ≤ I 23 8 ∧ I 23 8 ≤ 999999 from gc_in hI R_23 rfl rfl)
          refine gv_get hD rfl rfl S_23 ⟨by decide, B_23⟩ (gc_hI S_23 rfl) ?_
          show gv_X _ _ (113, [(0, .inr (.inr (some 39))), (1, .inl a1), (2, .inl a2)], [.inl (I 23 8), .inl (-4), .inl (I 39 12), .inr (.inr (some 39))], sh, gc_h sh I J A)
          refine gv_run 4 true hD (pc' := 117) (lv' := [(0, .inr (.inr (some 39))), (1, .inl a1), (2, .inl a2)]) (st' := [.inr (.inl (Int64.ofNat 0)), .inl (((-4) - (I 23 8)) + 1), .inl (I 39 12), .inr (.inr (some 39))]) (h' := gc_h sh I J A) (C := ((((True ∧ True) ∧ True) ∧ True) ∧ True)) rfl ⟨⟨⟨⟨trivial, trivial⟩, trivial⟩, trivial⟩, trivial⟩ ?_
          obtain ⟨r137, h137, E137, P137⟩ := d_X6_putNode (ws0 := ws0) (tb := tb) hws htb sh ro I J A hI  b (I 39 12) ((((-4) - (I 23 8)) + 1)) (Int64.ofNat 0) hb   ⟨by omega, by omega⟩ ⟨by omega, by omega⟩ (by omega) (by omega) (by omega) KTO_I
          obtain ⟨I138, J139, rfl, hI138, g137, k137, KTO_I138, ⟨rfl, q137⟩⟩ := P137
          have FI138 := gc_frc (W := fun q j => (q = 39 ∧ j = 3) ∨ (q = 39 ∧ j = 4) ∨ (q = 23 ∧ j = 5) ∨ (q = 23 ∧ j = 6) ∨ (q = 23 ∧ j = 7) ∨ (q = 23 ∧ j = 8) ∨ (q = 39 ∧ j = 12) ∨ (q = 39 ∧ j = 15) ∨ q = 43) (V := fun q j => (q = 39 ∧ j = 12) ∨ q = 43) FI (fun q j h => (h.elim (fun h => (Or.inr (Or.inr (Or.inr (Or.inr (Or.inr (Or.inr (Or.inl h)))))))) (fun h => (Or.inr (Or.inr (Or.inr (Or.inr (Or.inr (Or.inr (Or.inr (Or.inr h))))))))))) g137
          have FJ139 := gc_frc (W := fun q j => (q = 23 ∧ j = 9) ∨ q = 44 ∨ q = 45) (V := fun q j => q = 44) FJ (fun q j h => (Or.inr (Or.inl h))) k137
          have t140 := (g137 23 1).resolve_left (fun h => h.elim (fun h => absurd h.2 (by decide)) (fun h => absurd h (by decide)))
          have t141 := (g137 23 5).resolve_left (fun h => h.elim (fun h => absurd h.2 (by decide)) (fun h => absurd h (by decide)))
          have t142 := (g137 23 6).resolve_left (fun h => h.elim (fun h => absurd h.2 (by decide)) (fun h => absurd h (by decide)))
          have t143 := (g137 23 7).resolve_left (fun h => h.elim (fun h => absurd h.2 (by decide)) (fun h => absurd h (by decide)))
          have t144 := (g137 39 15).resolve_left (fun h => h.elim (fun h => absurd h.2 (by decide)) (fun h => absurd h (by decide)))
          have t145 := (g137 23 8).resolve_left (fun h => h.elim (fun h => absurd h.2 (by decide)) (fun h => absurd h (by decide)))
          have t146 := (g137 12 (Int.toNat a1)).resolve_left (fun h => h.elim (fun h => absurd h.1 (by decide)) (fun h => absurd h (by decide)))
          have f147 := (show 0 ≤ I138 39 12 ∧ I138 39 12 ≤ 2000 from gc_in hI138 R_39 rfl rfl)
          have KLT_I138 := gc_LT_fr KLT_I ((g137 23 5).resolve_left (fun h => h.elim (fun h => absurd h.2 (by decide)) (fun h => absurd h (by decide)))) ((g137 23 6).resolve_left (fun h => h.elim (fun h => absurd h.2 (by decide)) (fun h => absurd h (by decide)))) ((g137 23 7).resolve_left (fun h => h.elim (fun h => absurd h.2 (by decide)) (fun h => absurd h (by decide)))) (fun k => (g137 24 k).resolve_left (fun h => h.elim (fun h => absurd h.1 (by decide)) (fun h => absurd h (by decide))))
          have KTK_I138 := gc_TK_fr KTK_I ((g137 23 1).resolve_left (fun h => h.elim (fun h => absurd h.2 (by decide)) (fun h => absurd h (by decide)))) ((g137 23 5).resolve_left (fun h => h.elim (fun h => absurd h.2 (by decide)) (fun h => absurd h (by decide)))) ((g137 23 6).resolve_left (fun h => h.elim (fun h => absurd h.2 (by decide)) (fun h => absurd h (by decide)))) ((g137 23 7).resolve_left (fun h => h.elim (fun h => absurd h.2 (by decide)) (fun h => absurd h (by decide))))
          refine gv_callV hD rfl (As := [.inl (I 39 12), .inl (((-4) - (I 23 8)) + 1), .inr (.inl (Int64.ofNat 0))]) (st := []) rfl B_39 S_39 rfl (gc_lV6 hws rfl) (Nat.le_of_ble_eq_true rfl) (gz_Ev_mono (d := 1) (by omega) E137) ?_
          show gv_X _ _ (120, [(0, .inr (.inr (some 39))), (1, .inl a1), (2, .inl a2)], [], sh, gc_h sh I138 J139 A)
          refine gv_run 1 true hD (pc' := 201) (lv' := [(0, .inr (.inr (some 39))), (1, .inl a1), (2, .inl a2)]) (st' := []) (h' := gc_h sh I138 J139 A) (C := (True ∧ True)) rfl ⟨trivial, trivial⟩ ?_
          refine gv_pick [0] rfl ?_
          exact L201 I138 J139 hI138 FI138 FJ139 KLT_I138 KTK_I138 KTO_I138 (by omega) (gc_TD_one q137.2 (by omega) (by omega) (by omega) (by omega))
        · show gv_X _ _ (86, [(0, .inr (.inr (some 39))), (1, .inl a1), (2, .inl a2)], [], sh, gc_h sh I J A)
          refine gv_pick [0] rfl ?_
          exact L86 (by omega)
  · show gv_X _ _ (12, [(0, .inr (.inr (some 39))), (1, .inl a1), (2, .inl a2)], [], sh, gc_h sh I J A)
    refine gv_run 1 true hD (pc' := 13) (lv' := [(0, .inr (.inr (some 39))), (1, .inl a1), (2, .inl a2)]) (st' := [.inr (.inr (some 39))]) (h' := gc_h sh I J A) (C := (True ∧ True)) rfl ⟨trivial, trivial⟩ ?_
    refine gv_get hD rfl rfl S_39 ⟨by decide, B_39⟩ (gc_hA S_39 rfl A_39_1) ?_
    show gv_X _ _ (16, [(0, .inr (.inr (some 39))), (1, .inl a1), (2, .inl a2)], [.inr (.inr (some 23))], sh, gc_h sh I J A)
    have t149 := gc_TK_nx KTK_I (by omega)
    have t150 := gc_TK_st KTK_I (by omega)
    obtain ⟨r148, h148, E148, P148⟩ := d_X9_advance (ws0 := ws0) (tb := tb) hws htb sh ro I J A hI 23  (gc_b23 hb)    (by omega) 
    obtain ⟨I151, J152, rfl, hI151, g148, k148, ⟨rfl, V148_0, V148_1, V148_2, V148_3, V148_4, q148⟩⟩ := P148
    have FI151 := gc_frc (W := fun q j => (q = 39 ∧ j = 3) ∨ (q = 39 ∧ j = 4) ∨ (q = 23 ∧ j = 5) ∨ (q = 23 ∧ j = 6) ∨ (q = 23 ∧ j = 7) ∨ (q = 23 ∧ j = 8) ∨ (q = 39 ∧ j = 12) ∨ (q = 39 ∧ j = 15) ∨ q = 43) (V := fun q j => (q = 23 ∧ j = 5) ∨ (q = 23 ∧ j = 6) ∨ (q = 23 ∧ j = 7) ∨ (q = 23 ∧ j = 8)) FI (fun q j h => (h.elim (fun h => (Or.inr (Or.inr (Or.inl h)))) (fun h => (h.elim (fun h => (Or.inr (Or.inr (Or.inr (Or.inl h))))) (fun h => (h.elim (fun h => (Or.inr (Or.inr (Or.inr (Or.inr (Or.inl h)))))) (fun h => (Or.inr (Or.inr (Or.inr (Or.inr (Or.inr (Or.inl h))))))))))))) g148
    have FJ152 := gc_frc (W := fun q j => (q = 23 ∧ j = 9) ∨ q = 44 ∨ q = 45) (V := fun q j => (q = 23 ∧ j = 9)) FJ (fun q j h => (Or.inl h)) k148
    have t153 := (g148 23 1).resolve_left (fun h => h.elim (fun h => absurd h.2 (by decide)) (fun h => h.elim (fun h => absurd h.2 (by decide)) (fun h => h.elim (fun h => absurd h.2 (by decide)) (fun h => absurd h.2 (by decide)))))
    have t154 := (g148 39 12).resolve_left (fun h => h.elim (fun h => absurd h.2 (by decide)) (fun h => h.elim (fun h => absurd h.2 (by decide)) (fun h => h.elim (fun h => absurd h.2 (by decide)) (fun h => absurd h.2 (by decide)))))
    have t155 := (g148 39 15).resolve_left (fun h => h.elim (fun h => absurd h.2 (by decide)) (fun h => h.elim (fun h => absurd h.2 (by decide)) (fun h => h.elim (fun h => absurd h.2 (by decide)) (fun h => absurd h.2 (by decide)))))
    have t156 := (g148 12 (Int.toNat a1)).resolve_left (fun h => h.elim (fun h => absurd h.1 (by decide)) (fun h => h.elim (fun h => absurd h.1 (by decide)) (fun h => h.elim (fun h => absurd h.1 (by decide)) (fun h => absurd h.1 (by decide)))))
    have f157 := (show 0 ≤ I151 23 5 ∧ I151 23 5 ≤ 1000 from gc_in hI151 R_23 rfl rfl)
    have f158 := (show 0 ≤ I151 23 6 ∧ I151 23 6 ≤ 1001 from gc_in hI151 R_23 rfl rfl)
    have f159 := (show 0 ≤ I151 23 7 ∧ I151 23 7 ≤ 125 from gc_in hI151 R_23 rfl rfl)
    have f160 := (show 0 ≤ I151 23 8 ∧ I151 23 8 ≤ 999999 from gc_in hI151 R_23 rfl rfl)
    have KLT_I151 : gc_LT I151 := q148.2.2
    have KTO_I151 := gc_TO_fr KTO_I ((g148 39 12).resolve_left (fun h => h.elim (fun h => absurd h.2 (by decide)) (fun h => h.elim (fun h => absurd h.2 (by decide)) (fun h => h.elim (fun h => absurd h.2 (by decide)) (fun h => absurd h.2 (by decide)))))) (fun k => (g148 43 k).resolve_left (fun h => h.elim (fun h => absurd h.1 (by decide)) (fun h => h.elim (fun h => absurd h.1 (by decide)) (fun h => h.elim (fun h => absurd h.1 (by decide)) (fun h => absurd h.1 (by decide))))))
    have KTK_I151 : gc_TK I151 := And.intro V148_0 (And.intro V148_1 (And.intro V148_2 (And.intro V148_3 V148_4)))
    have t161 := gc_TK_mo KTK_I151
    clear V148_0 V148_1 V148_2 V148_3 V148_4
    refine gv_callV hD rfl (As := []) (st := []) rfl B_23 S_23 rfl (gc_lV6 hws rfl) (Nat.le_of_ble_eq_true rfl) (gz_Ev_mono (d := 2) (by omega) E148) ?_
    show gv_X _ _ (19, [(0, .inr (.inr (some 39))), (1, .inl a1), (2, .inl a2)], [], sh, gc_h sh I151 J152 A)
    refine gv_run 5 true hD (pc' := 24) (lv' := [(0, .inr (.inr (some 39))), (1, .inl a1), (2, .inl a2)]) (st' := [.inl (a2 + 1), .inl a1, .inr (.inr (some 39))]) (h' := gc_h sh I151 J152 A) (C := (((((True ∧ True) ∧ True) ∧ True) ∧ True) ∧ True)) rfl ⟨⟨⟨⟨⟨trivial, trivial⟩, trivial⟩, trivial⟩, trivial⟩, trivial⟩ ?_
    obtain ⟨r162, h162, E162, P162⟩ := ihR I151 J152 hI151 a1 (a2 + 1) ⟨by omega, by omega⟩ ⟨by omega, by omega⟩ (by omega) (by omega) (by omega) (by omega) KLT_I151 KTK_I151 KTO_I151 (by omega)
    obtain ⟨I163, J164, rfl, hI163, g162, k162, KLT_I163, KTK_I163, KTO_I163, ⟨z162, rfl, q162⟩⟩ := P162
    have FI163 := gc_frc (W := fun q j => (q = 39 ∧ j = 3) ∨ (q = 39 ∧ j = 4) ∨ (q = 23 ∧ j = 5) ∨ (q = 23 ∧ j = 6) ∨ (q = 23 ∧ j = 7) ∨ (q = 23 ∧ j = 8) ∨ (q = 39 ∧ j = 12) ∨ (q = 39 ∧ j = 15) ∨ q = 43) (V := fun q j => (q = 39 ∧ j = 3) ∨ (q = 39 ∧ j = 4) ∨ (q = 23 ∧ j = 5) ∨ (q = 23 ∧ j = 6) ∨ (q = 23 ∧ j = 7) ∨ (q = 23 ∧ j = 8) ∨ (q = 39 ∧ j = 12) ∨ (q = 39 ∧ j = 15) ∨ q = 43) FI151 (fun q j h => (h.elim (fun h => (Or.inl h)) (fun h => (h.elim (fun h => (Or.inr (Or.inl h))) (fun h => (h.elim (fun h => (Or.inr (Or.inr (Or.inl h)))) (fun h => (h.elim (fun h => (Or.inr (Or.inr (Or.inr (Or.inl h))))) (fun h => (h.elim (fun h => (Or.inr (Or.inr (Or.inr (Or.inr (Or.inl h)))))) (fun h => (h.elim (fun h => (Or.inr (Or.inr (Or.inr (Or.inr (Or.inr (Or.inl h))))))) (fun h => (h.elim (fun h => (Or.inr (Or.inr (Or.inr (Or.inr (Or.inr (Or.inr (Or.inl h)))))))) (fun h => (h.elim (fun h => (Or.inr (Or.inr (Or.inr (Or.inr (Or.inr (Or.inr (Or.inr (Or.inl h))))))))) (fun h => (Or.inr (Or.inr (Or.inr (Or.inr (Or.inr (Or.inr (Or.inr (Or.inr h))))))))))))))))))))))))) g162
    have FJ164 := gc_frc (W := fun q j => (q = 23 ∧ j = 9) ∨ q = 44 ∨ q = 45) (V := fun q j => (q = 23 ∧ j = 9) ∨ q = 44 ∨ q = 45) FJ152 (fun q j h => (h.elim (fun h => (Or.inl h)) (fun h => (h.elim (fun h => (Or.inr (Or.inl h))) (fun h => (Or.inr (Or.inr h))))))) k162
    have t165 := (g162 23 1).resolve_left (fun h => h.elim (fun h => absurd h.2 (by decide)) (fun h => h.elim (fun h => absurd h.2 (by decide)) (fun h => h.elim (fun h => absurd h.2 (by decide)) (fun h => h.elim (fun h => absurd h.2 (by decide)) (fun h => h.elim (fun h => absurd h.2 (by decide)) (fun h => h.elim (fun h => absurd h.2 (by decide)) (fun h => h.elim (fun h => absurd h.2 (by decide)) (fun h => h.elim (fun h => absurd h.2 (by decide)) (fun h => absurd h (by decide))))))))))
    have t166 := (g162 12 (Int.toNat a1)).resolve_left (fun h => h.elim (fun h => absurd h.1 (by decide)) (fun h => h.elim (fun h => absurd h.1 (by decide)) (fun h => h.elim (fun h => absurd h.1 (by decide)) (fun h => h.elim (fun h => absurd h.1 (by decide)) (fun h => h.elim (fun h => absurd h.1 (by decide)) (fun h => h.elim (fun h => absurd h.1 (by decide)) (fun h => h.elim (fun h => absurd h.1 (by decide)) (fun h => h.elim (fun h => absurd h.1 (by decide)) (fun h => absurd h (by decide))))))))))
    have f167 := (show 0 ≤ I163 23 5 ∧ I163 23 5 ≤ 1000 from gc_in hI163 R_23 rfl rfl)
    have f168 := (show 0 ≤ I163 23 6 ∧ I163 23 6 ≤ 1001 from gc_in hI163 R_23 rfl rfl)
    have f169 := (show 0 ≤ I163 23 7 ∧ I163 23 7 ≤ 125 from gc_in hI163 R_23 rfl rfl)
    have f170 := (show 0 ≤ I163 39 12 ∧ I163 39 12 ≤ 2000 from gc_in hI163 R_39 rfl rfl)
    have f171 := (show 0 ≤ I163 39 15 ∧ I163 39 15 ≤ 41 from gc_in hI163 R_39 rfl rfl)
    have f172 := (show 0 ≤ I163 23 8 ∧ I163 23 8 ≤ 999999 from gc_in hI163 R_23 rfl rfl)
    have t173 := gc_TK_mo KTK_I163
    refine gv_callV hD rfl (As := [.inl a1, .inl (a2 + 1)]) (st := []) rfl B_39 S_39 rfl (gc_lV6 hws rfl) (Nat.le_of_ble_eq_true rfl) (gz_Ev_mono (d := (6 + 2 * nr)) (Nat.le_refl _) E162) ?_
    show gv_X _ _ (27, [(0, .inr (.inr (some 39))), (1, .inl a1), (2, .inl a2)], [.inl z162], sh, gc_h sh I163 J164 A)
    refine gv_if_eq (t := 43) hD rfl rfl ⟨by omega, by omega⟩ (fun c174 => ?_) (fun c174 => ?_)
    · show gv_X _ _ (43, [(0, .inr (.inr (some 39))), (1, .inl a1), (2, .inl a2)], [], sh, gc_h sh I163 J164 A)
      refine gv_pick [] rfl ?_
      exact L43 I163 J164 hI163 FI163 FJ164 KLT_I163 KTK_I163 KTO_I163 (by omega)
    · show gv_X _ _ (30, [(0, .inr (.inr (some 39))), (1, .inl a1), (2, .inl a2)], [], sh, gc_h sh I163 J164 A)
      refine gv_run 2 true hD (pc' := 33) (lv' := [(0, .inr (.inr (some 39))), (1, .inl a1), (2, .inl a2)]) (st' := [.inl 41, .inr (.inr (some 39))]) (h' := gc_h sh I163 J164 A) (C := ((True ∧ True) ∧ True)) rfl ⟨⟨trivial, trivial⟩, trivial⟩ ?_
      obtain ⟨r175, h175, E175, P175⟩ := d_X6_take (ws0 := ws0) (tb := tb) hws htb sh ro I163 J164 A hI163  41 hb   ⟨by omega, by omega⟩ (by omega) KLT_I163 KTK_I163
      obtain ⟨I176, J177, rfl, hI176, g175, k175, KLT_I176, KTK_I176, ⟨z175, rfl, q175⟩⟩ := P175
      have FI176 := gc_frc (W := fun q j => (q = 39 ∧ j = 3) ∨ (q = 39 ∧ j = 4) ∨ (q = 23 ∧ j = 5) ∨ (q = 23 ∧ j = 6) ∨ (q = 23 ∧ j = 7) ∨ (q = 23 ∧ j = 8) ∨ (q = 39 ∧ j = 12) ∨ (q = 39 ∧ j = 15) ∨ q = 43) (V := fun q j => (q = 39 ∧ j = 3) ∨ (q = 39 ∧ j = 4) ∨ (q = 23 ∧ j = 5) ∨ (q = 23 ∧ j = 6) ∨ (q = 23 ∧ j = 7) ∨ (q = 23 ∧ j = 8)) FI163 (fun q j h => (h.elim (fun h => (Or.inl h)) (fun h => (h.elim (fun h => (Or.inr (Or.inl h))) (fun h => (h.elim (fun h => (Or.inr (Or.inr (Or.inl h)))) (fun h => (h.elim (fun h => (Or.inr (Or.inr (Or.inr (Or.inl h))))) (fun h => (h.elim (fun h => (Or.inr (Or.inr (Or.inr (Or.inr (Or.inl h)))))) (fun h => (Or.inr (Or.inr (Or.inr (Or.inr (Or.inr (Or.inl h))))))))))))))))) g175
      have FJ177 := gc_frc (W := fun q j => (q = 23 ∧ j = 9) ∨ q = 44 ∨ q = 45) (V := fun q j => (q = 23 ∧ j = 9)) FJ164 (fun q j h => (Or.inl h)) k175
      have t178 := (g175 23 1).resolve_left (fun h => h.elim (fun h => absurd h.2 (by decide)) (fun h => h.elim (fun h => absurd h.2 (by decide)) (fun h => h.elim (fun h => absurd h.2 (by decide)) (fun h => h.elim (fun h => absurd h.2 (by decide)) (fun h => h.elim (fun h => absurd h.2 (by decide)) (fun h => absurd h.2 (by decide)))))))
      have t179 := (g175 39 12).resolve_left (fun h => h.elim (fun h => absurd h.2 (by decide)) (fun h => h.elim (fun h => absurd h.2 (by decide)) (fun h => h.elim (fun h => absurd h.2 (by decide)) (fun h => h.elim (fun h => absurd h.2 (by decide)) (fun h => h.elim (fun h => absurd h.2 (by decide)) (fun h => absurd h.2 (by decide)))))))
      have t180 := (g175 39 15).resolve_left (fun h => h.elim (fun h => absurd h.2 (by decide)) (fun h => h.elim (fun h => absurd h.2 (by decide)) (fun h => h.elim (fun h => absurd h.2 (by decide)) (fun h => h.elim (fun h => absurd h.2 (by decide)) (fun h => h.elim (fun h => absurd h.2 (by decide)) (fun h => absurd h.2 (by decide)))))))
      have t181 := (g175 12 (Int.toNat a1)).resolve_left (fun h => h.elim (fun h => absurd h.1 (by decide)) (fun h => h.elim (fun h => absurd h.1 (by decide)) (fun h => h.elim (fun h => absurd h.1 (by decide)) (fun h => h.elim (fun h => absurd h.1 (by decide)) (fun h => h.elim (fun h => absurd h.1 (by decide)) (fun h => absurd h.1 (by decide)))))))
      have f182 := (show 0 ≤ I176 23 5 ∧ I176 23 5 ≤ 1000 from gc_in hI176 R_23 rfl rfl)
      have f183 := (show 0 ≤ I176 23 6 ∧ I176 23 6 ≤ 1001 from gc_in hI176 R_23 rfl rfl)
      have f184 := (show 0 ≤ I176 23 7 ∧ I176 23 7 ≤ 125 from gc_in hI176 R_23 rfl rfl)
      have f185 := (show 0 ≤ I176 23 8 ∧ I176 23 8 ≤ 999999 from gc_in hI176 R_23 rfl rfl)
      have t186 := gc_TK_mo KTK_I176
      have KTO_I176 := gc_TO_fr KTO_I163 ((g175 39 12).resolve_left (fun h => h.elim (fun h => absurd h.2 (by decide)) (fun h => h.elim (fun h => absurd h.2 (by decide)) (fun h => h.elim (fun h => absurd h.2 (by decide)) (fun h => h.elim (fun h => absurd h.2 (by decide)) (fun h => h.elim (fun h => absurd h.2 (by decide)) (fun h => absurd h.2 (by decide)))))))) (fun k => (g175 43 k).resolve_left (fun h => h.elim (fun h => absurd h.1 (by decide)) (fun h => h.elim (fun h => absurd h.1 (by decide)) (fun h => h.elim (fun h => absurd h.1 (by decide)) (fun h => h.elim (fun h => absurd h.1 (by decide)) (fun h => h.elim (fun h => absurd h.1 (by decide)) (fun h => absurd h.1 (by decide))))))))
      refine gv_callV hD rfl (As := [.inl 41]) (st := []) rfl B_39 S_39 rfl (gc_lV6 hws rfl) (Nat.le_of_ble_eq_true rfl) (gz_Ev_mono (d := 3) (by omega) E175) ?_
      show gv_X _ _ (36, [(0, .inr (.inr (some 39))), (1, .inl a1), (2, .inl a2)], [.inl z175], sh, gc_h sh I176 J177 A)
      refine gv_if_eq (t := 43) hD rfl rfl ⟨by omega, by omega⟩ (fun c187 => ?_) (fun c187 => ?_)
      · show gv_X _ _ (43, [(0, .inr (.inr (some 39))), (1, .inl a1), (2, .inl a2)], [], sh, gc_h sh I176 J177 A)
        refine gv_pick [] rfl ?_
        exact L43 I176 J177 hI176 FI176 FJ177 KLT_I176 KTK_I176 KTO_I176 (by omega)
      · show gv_X _ _ (39, [(0, .inr (.inr (some 39))), (1, .inl a1), (2, .inl a2)], [], sh, gc_h sh I176 J177 A)
        refine gv_run 2 true hD (pc' := 44) (lv' := [(0, .inr (.inr (some 39))), (1, .inl a1), (2, .inl a2)]) (st' := [.inl 1]) (h' := gc_h sh I176 J177 A) (C := ((True ∧ True) ∧ True)) rfl ⟨⟨trivial, trivial⟩, trivial⟩ ?_
        refine gv_pick [] rfl ?_
        exact L44 I176 J177 1 hI176 FI176 FJ177 KLT_I176 KTK_I176 KTO_I176 (by omega) (Or.inr (gc_TD_fr (q162.2.2.2.2.2.2.2.resolve_left (by omega)) (by omega) (fun k => (((g148 43 k).resolve_left (by omega))).symm) (by omega) (fun k => ((g175 43 k).resolve_left (by omega)))))
set_option maxHeartbeats 4000000 in
set_option maxRecDepth 100000 in
theorem d_X6_readTerm {ws0 : List Cond} {tb : String → gz_T} (hws : gc_Ws ws0) (htb : gc_tbs tb) (sh : gz_Sh) (ro : Nat → Nat) (A : gc_A) (b : Int)  (hb : gc_Base sh ro A) : ∀ (nr : Nat), ∀ (I : gr_I) (J : gr_J) (hI : gc_Inv ro I) (a1 : Int) (a2 : Int) (ha1 : 0 ≤ a1 ∧ a1 ≤ 95) (ha2 : 1 ≤ a2 ∧ a2 ≤ 41) (x0 : I 39 12 ≤ I 23 5) (x1 : I 39 15 ≤ a2 - 1) (x2 : b ≤ -3 - I 12 (Int.toNat a1)) (x3 : b ≤ -3) (KLT_I : gc_LT I) (KTK_I : gc_TK I) (KTO_I : gc_TO b I) (_ : (42 - a2).toNat < nr), ∃ r h', gz_Ev ws0 tb (6 + 2 * nr) (yX6_readTerm, cX6_readTerm, 7, (some .boolean)) [.inr (.inr (some 39)), .inl a1, .inl a2] sh (gc_h sh I J A) r sh h' 0 0 ∧ (∃ (I' : gr_I) (J' : gr_J), h' = gc_h sh I' J' A ∧ gc_Inv ro I' ∧ (∀ q j : Nat, ((q = 39 ∧ j = 3) ∨ (q = 39 ∧ j = 4) ∨ (q = 23 ∧ j = 5) ∨ (q = 23 ∧ j = 6) ∨ (q = 23 ∧ j = 7) ∨ (q = 23 ∧ j = 8) ∨ (q = 39 ∧ j = 12) ∨ (q = 39 ∧ j = 15) ∨ q = 43) ∨ I' q j = I q j) ∧ (∀ q j : Nat, ((q = 23 ∧ j = 9) ∨ q = 44 ∨ q = 45) ∨ J' q j = J q j) ∧ gc_LT I' ∧ gc_TK I' ∧ gc_TO b I' ∧ (∃ z : Int, r = some (.inl z) ∧ 0 ≤ z ∧ z ≤ 1 ∧ (I' 23 1 = I 23 1) ∧ (I 23 5 ≤ I' 23 5) ∧ (I' 39 12 ≤ I' 23 5) ∧ (z = 0 ∨ I' 39 15 = I 39 15) ∧ (I 39 12 ≤ I' 39 12) ∧ (gc_TE z I I'))) := by
  intro nr
  induction nr with
  | zero => intro I J hI a1 a2 ha1 ha2 x0 x1 x2 x3 KLT_I KTK_I KTO_I hnr; omega
  | succ nr ihR =>
  intro I J hI a1 a2 ha1 ha2 x0 x1 x2 x3 KLT_I KTK_I KTO_I hnr
  show ∃ r h', gz_Ev ws0 tb (6 + 2 * nr + 1 + 1) (yX6_readTerm, cX6_readTerm, 7, (some .boolean)) [.inr (.inr (some 39)), .inl a1, .inl a2] sh (gc_h sh I J A) r sh h' 0 0 ∧ (∃ (I' : gr_I) (J' : gr_J), h' = gc_h sh I' J' A ∧ gc_Inv ro I' ∧ (∀ q j : Nat, ((q = 39 ∧ j = 3) ∨ (q = 39 ∧ j = 4) ∨ (q = 23 ∧ j = 5) ∨ (q = 23 ∧ j = 6) ∨ (q = 23 ∧ j = 7) ∨ (q = 23 ∧ j = 8) ∨ (q = 39 ∧ j = 12) ∨ (q = 39 ∧ j = 15) ∨ q = 43) ∨ I' q j = I q j) ∧ (∀ q j : Nat, ((q = 23 ∧ j = 9) ∨ q = 44 ∨ q = 45) ∨ J' q j = J q j) ∧ gc_LT I' ∧ gc_TK I' ∧ gc_TO b I' ∧ (∃ z : Int, r = some (.inl z) ∧ 0 ≤ z ∧ z ≤ 1 ∧ (I' 23 1 = I 23 1) ∧ (I 23 5 ≤ I' 23 5) ∧ (I' 39 12 ≤ I' 23 5) ∧ (z = 0 ∨ I' 39 15 = I 39 15) ∧ (I 39 12 ≤ I' 39 12) ∧ (gc_TE z I I')))
  have FI : ∀ q j : Nat, ((q = 39 ∧ j = 3) ∨ (q = 39 ∧ j = 4) ∨ (q = 23 ∧ j = 5) ∨ (q = 23 ∧ j = 6) ∨ (q = 23 ∧ j = 7) ∨ (q = 23 ∧ j = 8) ∨ (q = 39 ∧ j = 12) ∨ (q = 39 ∧ j = 15) ∨ q = 43) ∨ I q j = I q j := fun _ _ => Or.inr rfl
  have FJ : ∀ q j : Nat, ((q = 23 ∧ j = 9) ∨ q = 44 ∨ q = 45) ∨ J q j = J q j := fun _ _ => Or.inr rfl
  have A_39_1 : A 39 1 = some 23 := gc_bA hb rfl
  have B_23 : 23 < 1000000 := by decide
  have B_39 : 39 < 1000000 := by decide
  have R_23 : ro 23 = 3 := gc_bR hb (by decide) rfl
  have R_39 : ro 39 = 42 := gc_bR hb (by decide) rfl
  have S_23 : sh[23]? = some (false, 9, 10) := gc_bS hb rfl
  have S_39 : sh[39]? = some (false, 6, 19) := gc_bS hb rfl
  have hD : gv_D (gc_E6 ws0 tb (6 + 2 * nr + 1) (yX6_readTerm, cX6_readTerm, 7, (some .boolean)) kX6_readTerm) := gq_ok oX6_readTerm
  refine gc_ev6 (d := (6 + 2 * nr + 1)) (l := kX6_readTerm) (Po := fun r h' => (∃ (I' : gr_I) (J' : gr_J), h' = gc_h sh I' J' A ∧ gc_Inv ro I' ∧ (∀ q j : Nat, ((q = 39 ∧ j = 3) ∨ (q = 39 ∧ j = 4) ∨ (q = 23 ∧ j = 5) ∨ (q = 23 ∧ j = 6) ∨ (q = 23 ∧ j = 7) ∨ (q = 23 ∧ j = 8) ∨ (q = 39 ∧ j = 12) ∨ (q = 39 ∧ j = 15) ∨ q = 43) ∨ I' q j = I q j) ∧ (∀ q j : Nat, ((q = 23 ∧ j = 9) ∨ q = 44 ∨ q = 45) ∨ J' q j = J q j) ∧ gc_LT I' ∧ gc_TK I' ∧ gc_TO b I' ∧ (∃ z : Int, r = some (.inl z) ∧ 0 ≤ z ∧ z ≤ 1 ∧ (I' 23 1 = I 23 1) ∧ (I 23 5 ≤ I' 23 5) ∧ (I' 39 12 ≤ I' 23 5) ∧ (z = 0 ∨ I' 39 15 = I 39 15) ∧ (I 39 12 ≤ I' 39 12) ∧ (gc_TE z I I')))) htb rfl (Nat.le_of_ble_eq_true rfl) ?_
  have t1 := gc_TK_mo KTK_I
  have f2 := (show 0 ≤ I 23 1 ∧ I 23 1 ≤ 1000 from gc_in hI R_23 rfl rfl)
  have f3 := (show 0 ≤ I 23 5 ∧ I 23 5 ≤ 1000 from gc_in hI R_23 rfl rfl)
  have f4 := (show 0 ≤ I 23 6 ∧ I 23 6 ≤ 1001 from gc_in hI R_23 rfl rfl)
  have f5 := (show 0 ≤ I 23 7 ∧ I 23 7 ≤ 125 from gc_in hI R_23 rfl rfl)
  have f6 := (show 0 ≤ I 39 12 ∧ I 39 12 ≤ 2000 from gc_in hI R_39 rfl rfl)
  have f7 := (show 0 ≤ I 39 15 ∧ I 39 15 ≤ 41 from gc_in hI R_39 rfl rfl)
  have L43 : ∀ (v3_8 : Int), ((0 ≤ a1 ∧ a1 ≤ 95) ∧ (1 ≤ a2 ∧ a2 ≤ 41) ∧ (1 ≤ v3_8 ∧ v3_8 ≤ 92) ∧ (a2 ≤ 41) ∧ (v3_8 = I 23 7) ∧ (v3_8 = 92 ∨ v3_8 = 40 ∨ v3_8 = 1 ∨ v3_8 = 2) ∧ (I 23 1 = I 23 1) ∧ (I 23 5 ≤ I 23 5) ∧ (I 39 12 ≤ I 23 5) ∧ (I 39 12 ≤ I 39 12) ∧ (b ≤ -3 - I 12 (Int.toNat a1)) ∧ (I 39 15 = I 39 15)) → gv_X (gc_E6 ws0 tb (6 + 2 * nr + 1) (yX6_readTerm, cX6_readTerm, 7, (some .boolean)) kX6_readTerm) (gv_Q cX6_readTerm (some .boolean) sh (fun r h' => (∃ (I' : gr_I) (J' : gr_J), h' = gc_h sh I' J' A ∧ gc_Inv ro I' ∧ (∀ q j : Nat, ((q = 39 ∧ j = 3) ∨ (q = 39 ∧ j = 4) ∨ (q = 23 ∧ j = 5) ∨ (q = 23 ∧ j = 6) ∨ (q = 23 ∧ j = 7) ∨ (q = 23 ∧ j = 8) ∨ (q = 39 ∧ j = 12) ∨ (q = 39 ∧ j = 15) ∨ q = 43) ∨ I' q j = I q j) ∧ (∀ q j : Nat, ((q = 23 ∧ j = 9) ∨ q = 44 ∨ q = 45) ∨ J' q j = J q j) ∧ gc_LT I' ∧ gc_TK I' ∧ gc_TO b I' ∧ (∃ z : Int, r = some (.inl z) ∧ 0 ≤ z ∧ z ≤ 1 ∧ (I' 23 1 = I 23 1) ∧ (I 23 5 ≤ I' 23 5) ∧ (I' 39 12 ≤ I' 23 5) ∧ (z = 0 ∨ I' 39 15 = I 39 15) ∧ (I 39 12 ≤ I' 39 12) ∧ (gc_TE z I I'))))) (43, [(0, .inr (.inr (some 39))), (1, .inl a1), (2, .inl a2), (3, .inl v3_8)], [], sh, gc_h sh I J A) := by
    intro v3_8 m_8
    obtain ⟨ha1_8, ha2_8, hv3_8, e0_8, e1_8, e2_8, e3_8, e4_8, e5_8, e6_8, e7_8, e8_8⟩ := m_8
    have t9 := gc_TK_mo KTK_I
    have f10 := (show 0 ≤ I 23 1 ∧ I 23 1 ≤ 1000 from gc_in hI R_23 rfl rfl)
    have f11 := (show 0 ≤ I 23 5 ∧ I 23 5 ≤ 1000 from gc_in hI R_23 rfl rfl)
    have f12 := (show 0 ≤ I 23 6 ∧ I 23 6 ≤ 1001 from gc_in hI R_23 rfl rfl)
    have f13 := (show 0 ≤ I 23 7 ∧ I 23 7 ≤ 125 from gc_in hI R_23 rfl rfl)
    have f14 := (show 0 ≤ I 39 12 ∧ I 39 12 ≤ 2000 from gc_in hI R_39 rfl rfl)
    have f15 := (show 0 ≤ I 39 15 ∧ I 39 15 ≤ 41 from gc_in hI R_39 rfl rfl)
    have L98 : ∀ (n9 : Nat) (I16 : gr_I) (J17 : gr_J) (v4_18 : Int) (v5_18 : Int) (v6_18 : Int), (1001 - v6_18).toNat < n9 → gc_Inv ro I16 → (∀ q j : Nat, ((q = 39 ∧ j = 3) ∨ (q = 39 ∧ j = 4) ∨ (q = 23 ∧ j = 5) ∨ (q = 23 ∧ j = 6) ∨ (q = 23 ∧ j = 7) ∨ (q = 23 ∧ j = 8) ∨ (q = 39 ∧ j = 12) ∨ (q = 39 ∧ j = 15) ∨ q = 43) ∨ I16 q j = I q j) → (∀ q j : Nat, ((q = 23 ∧ j = 9) ∨ q = 44 ∨ q = 45) ∨ J17 q j = J q j) → gc_LT I16 → gc_TK I16 → gc_TO b I16 → ((0 ≤ a1 ∧ a1 ≤ 95) ∧ (1 ≤ a2 ∧ a2 ≤ 40) ∧ (0 ≤ v4_18 ∧ v4_18 ≤ 2000) ∧ (0 ≤ v5_18 ∧ v5_18 ≤ 1) ∧ (0 ≤ v6_18 ∧ v6_18 ≤ 1000) ∧ (a2 ≤ 40) ∧ (v4_18 = I 39 12) ∧ (v5_18 = 0 ∨ I16 23 7 = 44) ∧ (I16 23 1 = I 23 1) ∧ (I 23 5 ≤ I16 23 5) ∧ (I16 39 12 ≤ I16 23 5) ∧ (I 39 12 ≤ I16 39 12) ∧ (b ≤ -3 - I16 12 (Int.toNat a1)) ∧ (I16 39 15 = I 39 15)) → (gc_TD I I16) → gv_X (gc_E6 ws0 tb (6 + 2 * nr + 1) (yX6_readTerm, cX6_readTerm, 7, (some .boolean)) kX6_readTerm) (gv_Q cX6_readTerm (some .boolean) sh (fun r h' => (∃ (I' : gr_I) (J' : gr_J), h' = gc_h sh I' J' A ∧ gc_Inv ro I' ∧ (∀ q j : Nat, ((q = 39 ∧ j = 3) ∨ (q = 39 ∧ j = 4) ∨ (q = 23 ∧ j = 5) ∨ (q = 23 ∧ j = 6) ∨ (q = 23 ∧ j = 7) ∨ (q = 23 ∧ j = 8) ∨ (q = 39 ∧ j = 12) ∨ (q = 39 ∧ j = 15) ∨ q = 43) ∨ I' q j = I q j) ∧ (∀ q j : Nat, ((q = 23 ∧ j = 9) ∨ q = 44 ∨ q = 45) ∨ J' q j = J q j) ∧ gc_LT I' ∧ gc_TK I' ∧ gc_TO b I' ∧ (∃ z : Int, r = some (.inl z) ∧ 0 ≤ z ∧ z ≤ 1 ∧ (I' 23 1 = I 23 1) ∧ (I 23 5 ≤ I' 23 5) ∧ (I' 39 12 ≤ I' 23 5) ∧ (z = 0 ∨ I' 39 15 = I 39 15) ∧ (I 39 12 ≤ I' 39 12) ∧ (gc_TE z I I'))))) (98, [(0, .inr (.inr (some 39))), (1, .inl a1), (2, .inl a2), (4, .inl v4_18), (5, .inl v5_18), (6, .inl v6_18)], [], sh, gc_h sh I16 J17 A) := by
      intro n9
      induction n9 with
      | zero => intro I16 J17 v4_18 v5_18 v6_18 hn; omega
      | succ n9 ih98 =>
        intro I16 J17 v4_18 v5_18 v6_18 hn hI16 FI16 FJ17 KLT_I16 KTK_I16 KTO_I16 m_18 e0_18
        clear ha1_8 ha2_8 hv3_8 e0_8 e1_8 e2_8 e3_8 e4_8 e5_8 e6_8 e7_8 e8_8 t9 f10 f11 f12 f13 f14 f15
        obtain ⟨ha1_18, ha2_18, hv4_18, hv5_18, hv6_18, e1_18, e2_18, e3_18, e4_18, e5_18, e6_18, e7_18, e8_18, e9_18⟩ := m_18
        have t19 := gc_TK_mo KTK_I16
        have f20 := (show 0 ≤ I16 23 1 ∧ I16 23 1 ≤ 1000 from gc_in hI16 R_23 rfl rfl)
        have f21 := (show 0 ≤ I16 23 5 ∧ I16 23 5 ≤ 1000 from gc_in hI16 R_23 rfl rfl)
        have f22 := (show 0 ≤ I16 23 6 ∧ I16 23 6 ≤ 1001 from gc_in hI16 R_23 rfl rfl)
        have f23 := (show 0 ≤ I16 23 7 ∧ I16 23 7 ≤ 125 from gc_in hI16 R_23 rfl rfl)
        have f24 := (show 0 ≤ I16 39 12 ∧ I16 39 12 ≤ 2000 from gc_in hI16 R_39 rfl rfl)
        have f25 := (show 0 ≤ I16 39 15 ∧ I16 39 15 ≤ 41 from gc_in hI16 R_39 rfl rfl)
        have L123 : ((0 ≤ a1 ∧ a1 ≤ 95) ∧ (1 ≤ a2 ∧ a2 ≤ 40) ∧ (0 ≤ v4_18 ∧ v4_18 ≤ 2000) ∧ (0 ≤ v6_18 ∧ v6_18 ≤ 999) ∧ (a2 ≤ 40) ∧ (v4_18 = I 39 12) ∧ (I16 23 7 = 40 ∨ I16 23 7 = 44) ∧ (I16 23 1 = I 23 1) ∧ (I 23 5 ≤ I16 23 5) ∧ (I16 39 12 ≤ I16 23 5) ∧ (I 39 12 ≤ I16 39 12) ∧ (b ≤ -3 - I16 12 (Int.toNat a1)) ∧ (I16 39 15 = I 39 15)) → (gc_TD I I16) → gv_X (gc_E6 ws0 tb (6 + 2 * nr + 1) (yX6_readTerm, cX6_readTerm, 7, (some .boolean)) kX6_readTerm) (gv_Q cX6_readTerm (some .boolean) sh (fun r h' => (∃ (I' : gr_I) (J' : gr_J), h' = gc_h sh I' J' A ∧ gc_Inv ro I' ∧ (∀ q j : Nat, ((q = 39 ∧ j = 3) ∨ (q = 39 ∧ j = 4) ∨ (q = 23 ∧ j = 5) ∨ (q = 23 ∧ j = 6) ∨ (q = 23 ∧ j = 7) ∨ (q = 23 ∧ j = 8) ∨ (q = 39 ∧ j = 12) ∨ (q = 39 ∧ j = 15) ∨ q = 43) ∨ I' q j = I q j) ∧ (∀ q j : Nat, ((q = 23 ∧ j = 9) ∨ q = 44 ∨ q = 45) ∨ J' q j = J q j) ∧ gc_LT I' ∧ gc_TK I' ∧ gc_TO b I' ∧ (∃ z : Int, r = some (.inl z) ∧ 0 ≤ z ∧ z ≤ 1 ∧ (I' 23 1 = I 23 1) ∧ (I 23 5 ≤ I' 23 5) ∧ (I' 39 12 ≤ I' 23 5) ∧ (z = 0 ∨ I' 39 15 = I 39 15) ∧ (I 39 12 ≤ I' 39 12) ∧ (gc_TE z I I'))))) (123, [(0, .inr (.inr (some 39))), (1, .inl a1), (2, .inl a2), (4, .inl v4_18), (6, .inl v6_18)], [], sh, gc_h sh I16 J17 A) := by
          intro m_26 e0_26
          obtain ⟨ha1_26, ha2_26, hv4_18_26, hv6_18_26, e1_26, e2_26, e3_26, e4_26, e5_26, e6_26, e7_26, e8_26, e9_26⟩ := m_26
          have t27 := gc_TK_mo KTK_I16
          have f28 := (show 0 ≤ I16 23 1 ∧ I16 23 1 ≤ 1000 from gc_in hI16 R_23 rfl rfl)
          have f29 := (show 0 ≤ I16 23 5 ∧ I16 23 5 ≤ 1000 from gc_in hI16 R_23 rfl rfl)
          have f30 := (show 0 ≤ I16 23 6 ∧ I16 23 6 ≤ 1001 from gc_in hI16 R_23 rfl rfl)
          have f31 := (show 0 ≤ I16 23 7 ∧ I16 23 7 ≤ 125 from gc_in hI16 R_23 rfl rfl)
          have f32 := (show 0 ≤ I16 39 12 ∧ I16 39 12 ≤ 2000 from gc_in hI16 R_39 rfl rfl)
          have f33 := (show 0 ≤ I16 39 15 ∧ I16 39 15 ≤ 41 from gc_in hI16 R_39 rfl rfl)
          have L168 : ∀ (I34 : gr_I) (J35 : gr_J) (s0_36 : Int), gc_Inv ro I34 → (∀ q j : Nat, ((q = 39 ∧ j = 3) ∨ (q = 39 ∧ j = 4) ∨ (q = 23 ∧ j = 5) ∨ (q = 23 ∧ j = 6) ∨ (q = 23 ∧ j = 7) ∨ (q = 23 ∧ j = 8) ∨ (q = 39 ∧ j = 12) ∨ (q = 39 ∧ j = 15) ∨ q = 43) ∨ I34 q j = I q j) → (∀ q j : Nat, ((q = 23 ∧ j = 9) ∨ q = 44 ∨ q = 45) ∨ J35 q j = J q j) → gc_LT I34 → gc_TK I34 → gc_TO b I34 → ((0 ≤ a1 ∧ a1 ≤ 95) ∧ (1 ≤ a2 ∧ a2 ≤ 40) ∧ (0 ≤ v4_18 ∧ v4_18 ≤ 2000) ∧ (0 ≤ v6_18 ∧ v6_18 ≤ 999) ∧ (0 ≤ s0_36 ∧ s0_36 ≤ 1) ∧ (a2 ≤ 40) ∧ (v4_18 = I 39 12) ∧ (s0_36 = 0 ∨ I34 23 7 = 44) ∧ (I34 23 1 = I 23 1) ∧ (I 23 5 ≤ I34 23 5) ∧ (I34 39 12 ≤ I34 23 5) ∧ (I 39 12 ≤ I34 39 12) ∧ (b ≤ -3 - I34 12 (Int.toNat a1)) ∧ (I34 39 15 = I 39 15)) → (gc_TD I I34) → gv_X (gc_E6 ws0 tb (6 + 2 * nr + 1) (yX6_readTerm, cX6_readTerm, 7, (some .boolean)) kX6_readTerm) (gv_Q cX6_readTerm (some .boolean) sh (fun r h' => (∃ (I' : gr_I) (J' : gr_J), h' = gc_h sh I' J' A ∧ gc_Inv ro I' ∧ (∀ q j : Nat, ((q = 39 ∧ j = 3) ∨ (q = 39 ∧ j = 4) ∨ (q = 23 ∧ j = 5) ∨ (q = 23 ∧ j = 6) ∨ (q = 23 ∧ j = 7) ∨ (q = 23 ∧ j = 8) ∨ (q = 39 ∧ j = 12) ∨ (q = 39 ∧ j = 15) ∨ q = 43) ∨ I' q j = I q j) ∧ (∀ q j : Nat, ((q = 23 ∧ j = 9) ∨ q = 44 ∨ q = 45) ∨ J' q j = J q j) ∧ gc_LT I' ∧ gc_TK I' ∧ gc_TO b I' ∧ (∃ z : Int, r = some (.inl z) ∧ 0 ≤ z ∧ z ≤ 1 ∧ (I' 23 1 = I 23 1) ∧ (I 23 5 ≤ I' 23 5) ∧ (I' 39 12 ≤ I' 23 5) ∧ (z = 0 ∨ I' 39 15 = I 39 15) ∧ (I 39 12 ≤ I' 39 12) ∧ (gc_TE z I I'))))) (168, [(0, .inr (.inr (some 39))), (1, .inl a1), (2, .inl a2), (4, .inl v4_18), (6, .inl v6_18)], [.inl s0_36], sh, gc_h sh I34 J35 A) := by
            intro I34 J35 s0_36 hI34 FI34 FJ35 KLT_I34 KTK_I34 KTO_I34 m_36 e0_36
            clear ha1_26 ha2_26 hv4_18_26 hv6_18_26 e1_26 e2_26 e3_26 e4_26 e5_26 e6_26 e7_26 e8_26 e9_26 t27 f28 f29 f30 f31 f32 f33 ha1_18 ha2_18 hv4_18 hv5_18 hv6_18 e1_18 e2_18 e3_18 e4_18 e5_18 e6_18 e7_18 e8_18 e9_18 t19 f20 f21 f22 f23 f24 f25
            obtain ⟨ha1_36, ha2_36, hv4_18_36, hv6_18_36, hs0_36, e1_36, e2_36, e3_36, e4_36, e5_36, e6_36, e7_36, e8_36, e9_36⟩ := m_36
            have t37 := gc_TK_mo KTK_I34
            have f38 := (show 0 ≤ I34 23 1 ∧ I34 23 1 ≤ 1000 from gc_in hI34 R_23 rfl rfl)
            have f39 := (show 0 ≤ I34 23 5 ∧ I34 23 5 ≤ 1000 from gc_in hI34 R_23 rfl rfl)
            have f40 := (show 0 ≤ I34 23 6 ∧ I34 23 6 ≤ 1001 from gc_in hI34 R_23 rfl rfl)
            have f41 := (show 0 ≤ I34 23 7 ∧ I34 23 7 ≤ 125 from gc_in hI34 R_23 rfl rfl)
            have f42 := (show 0 ≤ I34 39 12 ∧ I34 39 12 ≤ 2000 from gc_in hI34 R_39 rfl rfl)
            have f43 := (show 0 ≤ I34 39 15 ∧ I34 39 15 ≤ 41 from gc_in hI34 R_39 rfl rfl)
            have L186 : ∀ (I44 : gr_I) (J45 : gr_J) (v5_46 : Int), gc_Inv ro I44 → (∀ q j : Nat, ((q = 39 ∧ j = 3) ∨ (q = 39 ∧ j = 4) ∨ (q = 23 ∧ j = 5) ∨ (q = 23 ∧ j = 6) ∨ (q = 23 ∧ j = 7) ∨ (q = 23 ∧ j = 8) ∨ (q = 39 ∧ j = 12) ∨ (q = 39 ∧ j = 15) ∨ q = 43) ∨ I44 q j = I q j) → (∀ q j : Nat, ((q = 23 ∧ j = 9) ∨ q = 44 ∨ q = 45) ∨ J45 q j = J q j) → gc_LT I44 → gc_TK I44 → gc_TO b I44 → ((0 ≤ a1 ∧ a1 ≤ 95) ∧ (1 ≤ a2 ∧ a2 ≤ 40) ∧ (0 ≤ v4_18 ∧ v4_18 ≤ 2000) ∧ (0 ≤ v5_46 ∧ v5_46 ≤ 1) ∧ (0 ≤ v6_18 ∧ v6_18 ≤ 999) ∧ (a2 ≤ 40) ∧ (v4_18 = I 39 12) ∧ (v5_46 = 0 ∨ I44 23 7 = 44) ∧ (I44 23 1 = I 23 1) ∧ (I 23 5 ≤ I44 23 5) ∧ (I44 39 12 ≤ I44 23 5) ∧ (I 39 12 ≤ I44 39 12) ∧ (b ≤ -3 - I44 12 (Int.toNat a1)) ∧ (I44 39 15 = I 39 15)) → (gc_TD I I44) → gv_X (gc_E6 ws0 tb (6 + 2 * nr + 1) (yX6_readTerm, cX6_readTerm, 7, (some .boolean)) kX6_readTerm) (gv_Q cX6_readTerm (some .boolean) sh (fun r h' => (∃ (I' : gr_I) (J' : gr_J), h' = gc_h sh I' J' A ∧ gc_Inv ro I' ∧ (∀ q j : Nat, ((q = 39 ∧ j = 3) ∨ (q = 39 ∧ j = 4) ∨ (q = 23 ∧ j = 5) ∨ (q = 23 ∧ j = 6) ∨ (q = 23 ∧ j = 7) ∨ (q = 23 ∧ j = 8) ∨ (q = 39 ∧ j = 12) ∨ (q = 39 ∧ j = 15) ∨ q = 43) ∨ I' q j = I q j) ∧ (∀ q j : Nat, ((q = 23 ∧ j = 9) ∨ q = 44 ∨ q = 45) ∨ J' q j = J q j) ∧ gc_LT I' ∧ gc_TK I' ∧ gc_TO b I' ∧ (∃ z : Int, r = some (.inl z) ∧ 0 ≤ z ∧ z ≤ 1 ∧ (I' 23 1 = I 23 1) ∧ (I 23 5 ≤ I' 23 5) ∧ (I' 39 12 ≤ I' 23 5) ∧ (z = 0 ∨ I' 39 15 = I 39 15) ∧ (I 39 12 ≤ I' 39 12) ∧ (gc_TE z I I'))))) (186, [(0, .inr (.inr (some 39))), (1, .inl a1), (2, .inl a2), (4, .inl v4_18), (5, .inl v5_46), (6, .inl v6_18)], [], sh, gc_h sh I44 J45 A) := by
              intro I44 J45 v5_46 hI44 FI44 FJ45 KLT_I44 KTK_I44 KTO_I44 m_46 e0_46
              clear ha1_36 ha2_36 hv4_18_36 hv6_18_36 hs0_36 e1_36 e2_36 e3_36 e4_36 e5_36 e6_36 e7_36 e8_36 e9_36 t37 f38 f39 f40 f41 f42 f43
              obtain ⟨ha1_46, ha2_46, hv4_18_46, hv5_46, hv6_18_46, e1_46, e2_46, e3_46, e4_46, e5_46, e6_46, e7_46, e8_46, e9_46⟩ := m_46
              have t47 := gc_TK_mo KTK_I44
              have f48 := (show 0 ≤ I44 23 1 ∧ I44 23 1 ≤ 1000 from gc_in hI44 R_23 rfl rfl)
              have f49 := (show 0 ≤ I44 23 5 ∧ I44 23 5 ≤ 1000 from gc_in hI44 R_23 rfl rfl)
              have f50 := (show 0 ≤ I44 23 6 ∧ I44 23 6 ≤ 1001 from gc_in hI44 R_23 rfl rfl)
              have f51 := (show 0 ≤ I44 23 7 ∧ I44 23 7 ≤ 125 from gc_in hI44 R_23 rfl rfl)
              have f52 := (show 0 ≤ I44 39 12 ∧ I44 39 12 ≤ 2000 from gc_in hI44 R_39 rfl rfl)
              have f53 := (show 0 ≤ I44 39 15 ∧ I44 39 15 ≤ 41 from gc_in hI44 R_39 rfl rfl)
              refine gv_run 2 true hD (pc' := 98) (lv' := [(6, .inl (v6_18 + 1)), (0, .inr (.inr (some 39))), (1, .inl a1), (2, .inl a2), (4, .inl v4_18), (5, .inl v5_46)]) (st' := []) (h' := gc_h sh I44 J45 A) (C := ((True ∧ True) ∧ True)) rfl ⟨⟨trivial, trivial⟩, trivial⟩ ?_
              refine gv_pick [1, 2, 3, 4, 5, 0] rfl ?_
              exact ih98 I44 J45 v4_18 v5_46 (v6_18 + 1) (by omega) hI44 FI44 FJ45 KLT_I44 KTK_I44 KTO_I44 (by omega) e0_46
            refine gv_run 2 true hD (pc' := 172) (lv' := [(5, .inl s0_36), (0, .inr (.inr (some 39))), (1, .inl a1), (2, .inl a2), (4, .inl v4_18), (6, .inl v6_18)]) (st' := [.inl s0_36]) (h' := gc_h sh I34 J35 A) (C := ((True ∧ True) ∧ True)) rfl ⟨⟨trivial, trivial⟩, trivial⟩ ?_
            refine gv_if_ne (t := 186) hD rfl rfl ⟨by omega, by omega⟩ (fun c54 => ?_) (fun c54 => ?_)
            · show gv_X _ _ (186, [(5, .inl s0_36), (0, .inr (.inr (some 39))), (1, .inl a1), (2, .inl a2), (4, .inl v4_18), (6, .inl v6_18)], [], sh, gc_h sh I34 J35 A)
              refine gv_pick [1, 2, 3, 4, 0, 5] rfl ?_
              exact L186 I34 J35 s0_36 hI34 FI34 FJ35 KLT_I34 KTK_I34 KTO_I34 (by omega) e0_36
            · show gv_X _ _ (175, [(5, .inl s0_36), (0, .inr (.inr (some 39))), (1, .inl a1), (2, .inl a2), (4, .inl v4_18), (6, .inl v6_18)], [], sh, gc_h sh I34 J35 A)
              refine gv_run 2 true hD (pc' := 178) (lv' := [(5, .inl s0_36), (0, .inr (.inr (some 39))), (1, .inl a1), (2, .inl a2), (4, .inl v4_18), (6, .inl v6_18)]) (st' := [.inl 41, .inr (.inr (some 39))]) (h' := gc_h sh I34 J35 A) (C := ((True ∧ True) ∧ True)) rfl ⟨⟨trivial, trivial⟩, trivial⟩ ?_
              obtain ⟨r55, h55, E55, P55⟩ := d_X6_take (ws0 := ws0) (tb := tb) hws htb sh ro I34 J35 A hI34  41 hb   ⟨by omega, by omega⟩ (by omega) KLT_I34 KTK_I34
              obtain ⟨I56, J57, rfl, hI56, g55, k55, KLT_I56, KTK_I56, ⟨z55, rfl, q55⟩⟩ := P55
              have FI56 := gc_frc (W := fun q j => (q = 39 ∧ j = 3) ∨ (q = 39 ∧ j = 4) ∨ (q = 23 ∧ j = 5) ∨ (q = 23 ∧ j = 6) ∨ (q = 23 ∧ j = 7) ∨ (q = 23 ∧ j = 8) ∨ (q = 39 ∧ j = 12) ∨ (q = 39 ∧ j = 15) ∨ q = 43) (V := fun q j => (q = 39 ∧ j = 3) ∨ (q = 39 ∧ j = 4) ∨ (q = 23 ∧ j = 5) ∨ (q = 23 ∧ j = 6) ∨ (q = 23 ∧ j = 7) ∨ (q = 23 ∧ j = 8)) FI34 (fun q j h => (h.elim (fun h => (Or.inl h)) (fun h => (h.elim (fun h => (Or.inr (Or.inl h))) (fun h => (h.elim (fun h => (Or.inr (Or.inr (Or.inl h)))) (fun h => (h.elim (fun h => (Or.inr (Or.inr (Or.inr (Or.inl h))))) (fun h => (h.elim (fun h => (Or.inr (Or.inr (Or.inr (Or.inr (Or.inl h)))))) (fun h => (Or.inr (Or.inr (Or.inr (Or.inr (Or.inr (Or.inl h))))))))))))))))) g55
              have FJ57 := gc_frc (W := fun q j => (q = 23 ∧ j = 9) ∨ q = 44 ∨ q = 45) (V := fun q j => (q = 23 ∧ j = 9)) FJ35 (fun q j h => (Or.inl h)) k55
              have t58 := (g55 23 1).resolve_left (fun h => h.elim (fun h => absurd h.2 (by decide)) (fun h => h.elim (fun h => absurd h.2 (by decide)) (fun h => h.elim (fun h => absurd h.2 (by decide)) (fun h => h.elim (fun h => absurd h.2 (by decide)) (fun h => h.elim (fun h => absurd h.2 (by decide)) (fun h => absurd h.2 (by decide)))))))
              have t59 := (g55 39 12).resolve_left (fun h => h.elim (fun h => absurd h.2 (by decide)) (fun h => h.elim (fun h => absurd h.2 (by decide)) (fun h => h.elim (fun h => absurd h.2 (by decide)) (fun h => h.elim (fun h => absurd h.2 (by decide)) (fun h => h.elim (fun h => absurd h.2 (by decide)) (fun h => absurd h.2 (by decide)))))))
              have t60 := (g55 39 15).resolve_left (fun h => h.elim (fun h => absurd h.2 (by decide)) (fun h => h.elim (fun h => absurd h.2 (by decide)) (fun h => h.elim (fun h => absurd h.2 (by decide)) (fun h => h.elim (fun h => absurd h.2 (by decide)) (fun h => h.elim (fun h => absurd h.2 (by decide)) (fun h => absurd h.2 (by decide)))))))
              have t61 := (g55 12 (Int.toNat a1)).resolve_left (fun h => h.elim (fun h => absurd h.1 (by decide)) (fun h => h.elim (fun h => absurd h.1 (by decide)) (fun h => h.elim (fun h => absurd h.1 (by decide)) (fun h => h.elim (fun h => absurd h.1 (by decide)) (fun h => h.elim (fun h => absurd h.1 (by decide)) (fun h => absurd h.1 (by decide)))))))
              have f62 := (show 0 ≤ I56 23 5 ∧ I56 23 5 ≤ 1000 from gc_in hI56 R_23 rfl rfl)
              have f63 := (show 0 ≤ I56 23 6 ∧ I56 23 6 ≤ 1001 from gc_in hI56 R_23 rfl rfl)
              have f64 := (show 0 ≤ I56 23 7 ∧ I56 23 7 ≤ 125 from gc_in hI56 R_23 rfl rfl)
              have t65 := gc_TK_mo KTK_I56
              have KTO_I56 := gc_TO_fr KTO_I34 ((g55 39 12).resolve_left (fun h => h.elim (fun h => absurd h.2 (by decide)) (fun h => h.elim (fun h => absurd h.2 (by decide)) (fun h => h.elim (fun h => absurd h.2 (by decide)) (fun h => h.elim (fun h => absurd h.2 (by decide)) (fun h => h.elim (fun h => absurd h.2 (by decide)) (fun h => absurd h.2 (by decide)))))))) (fun k => (g55 43 k).resolve_left (fun h => h.elim (fun h => absurd h.1 (by decide)) (fun h => h.elim (fun h => absurd h.1 (by decide)) (fun h => h.elim (fun h => absurd h.1 (by decide)) (fun h => h.elim (fun h => absurd h.1 (by decide)) (fun h => h.elim (fun h => absurd h.1 (by decide)) (fun h => absurd h.1 (by decide))))))))
              refine gv_callV hD rfl (As := [.inl 41]) (st := []) rfl B_39 S_39 rfl (gc_lV6 hws rfl) (Nat.le_of_ble_eq_true rfl) (gz_Ev_mono (d := 3) (by omega) E55) ?_
              show gv_X _ _ (181, [(5, .inl s0_36), (0, .inr (.inr (some 39))), (1, .inl a1), (2, .inl a2), (4, .inl v4_18), (6, .inl v6_18)], [.inl z55], sh, gc_h sh I56 J57 A)
              refine gv_if_ne (t := 186) hD rfl rfl ⟨by omega, by omega⟩ (fun c66 => ?_) (fun c66 => ?_)
              · show gv_X _ _ (186, [(5, .inl s0_36), (0, .inr (.inr (some 39))), (1, .inl a1), (2, .inl a2), (4, .inl v4_18), (6, .inl v6_18)], [], sh, gc_h sh I56 J57 A)
                refine gv_pick [1, 2, 3, 4, 0, 5] rfl ?_
                exact L186 I56 J57 s0_36 hI56 FI56 FJ57 KLT_I56 KTK_I56 KTO_I56 (by omega) (gc_TD_fr e0_36 rfl (fun _ => rfl) (by omega) (fun k => ((g55 43 k).resolve_left (by omega))))
              · show gv_X _ _ (184, [(5, .inl s0_36), (0, .inr (.inr (some 39))), (1, .inl a1), (2, .inl a2), (4, .inl v4_18), (6, .inl v6_18)], [], sh, gc_h sh I56 J57 A)
                refine gv_run 1 true hD (pc' := 185) (lv' := [(5, .inl s0_36), (0, .inr (.inr (some 39))), (1, .inl a1), (2, .inl a2), (4, .inl v4_18), (6, .inl v6_18)]) (st' := [.inl 0]) (h' := gc_h sh I56 J57 A) (C := (True ∧ True)) rfl ⟨trivial, trivial⟩ ?_
                exact gv_zret hD rfl (by omega) ⟨I56, J57, rfl, hI56, FI56, FJ57, KLT_I56, KTK_I56, KTO_I56, ⟨_, rfl, by omega, by omega, by omega, by omega, by omega, by omega, by omega, (Or.inl (by omega))⟩⟩
          refine gv_run 1 true hD (pc' := 124) (lv' := [(0, .inr (.inr (some 39))), (1, .inl a1), (2, .inl a2), (4, .inl v4_18), (6, .inl v6_18)]) (st' := [.inr (.inr (some 39))]) (h' := gc_h sh I16 J17 A) (C := (True ∧ True)) rfl ⟨trivial, trivial⟩ ?_
          refine gv_get hD rfl rfl S_39 ⟨by decide, B_39⟩ (gc_hA S_39 rfl A_39_1) ?_
          show gv_X _ _ (127, [(0, .inr (.inr (some 39))), (1, .inl a1), (2, .inl a2), (4, .inl v4_18), (6, .inl v6_18)], [.inr (.inr (some 23))], sh, gc_h sh I16 J17 A)
          have t68 := gc_TK_nx KTK_I16 (by omega)
          have t69 := gc_TK_st KTK_I16 (by omega)
          obtain ⟨r67, h67, E67, P67⟩ := d_X9_advance (ws0 := ws0) (tb := tb) hws htb sh ro I16 J17 A hI16 23  (gc_b23 hb)    (by omega) 
          obtain ⟨I70, J71, rfl, hI70, g67, k67, ⟨rfl, V67_0, V67_1, V67_2, V67_3, V67_4, q67⟩⟩ := P67
          have FI70 := gc_frc (W := fun q j => (q = 39 ∧ j = 3) ∨ (q = 39 ∧ j = 4) ∨ (q = 23 ∧ j = 5) ∨ (q = 23 ∧ j = 6) ∨ (q = 23 ∧ j = 7) ∨ (q = 23 ∧ j = 8) ∨ (q = 39 ∧ j = 12) ∨ (q = 39 ∧ j = 15) ∨ q = 43) (V := fun q j => (q = 23 ∧ j = 5) ∨ (q = 23 ∧ j = 6) ∨ (q = 23 ∧ j = 7) ∨ (q = 23 ∧ j = 8)) FI16 (fun q j h => (h.elim (fun h => (Or.inr (Or.inr (Or.inl h)))) (fun h => (h.elim (fun h => (Or.inr (Or.inr (Or.inr (Or.inl h))))) (fun h => (h.elim (fun h => (Or.inr (Or.inr (Or.inr (Or.inr (Or.inl h)))))) (fun h => (Or.inr (Or.inr (Or.inr (Or.inr (Or.inr (Or.inl h))))))))))))) g67
          have FJ71 := gc_frc (W := fun q j => (q = 23 ∧ j = 9) ∨ q = 44 ∨ q = 45) (V := fun q j => (q = 23 ∧ j = 9)) FJ17 (fun q j h => (Or.inl h)) k67
          have t72 := (g67 23 1).resolve_left (fun h => h.elim (fun h => absurd h.2 (by decide)) (fun h => h.elim (fun h => absurd h.2 (by decide)) (fun h => h.elim (fun h => absurd h.2 (by decide)) (fun h => absurd h.2 (by decide)))))
          have t73 := (g67 39 12).resolve_left (fun h => h.elim (fun h => absurd h.2 (by decide)) (fun h => h.elim (fun h => absurd h.2 (by decide)) (fun h => h.elim (fun h => absurd h.2 (by decide)) (fun h => absurd h.2 (by decide)))))
          have t74 := (g67 39 15).resolve_left (fun h => h.elim (fun h => absurd h.2 (by decide)) (fun h => h.elim (fun h => absurd h.2 (by decide)) (fun h => h.elim (fun h => absurd h.2 (by decide)) (fun h => absurd h.2 (by decide)))))
          have t75 := (g67 12 (Int.toNat a1)).resolve_left (fun h => h.elim (fun h => absurd h.1 (by decide)) (fun h => h.elim (fun h => absurd h.1 (by decide)) (fun h => h.elim (fun h => absurd h.1 (by decide)) (fun h => absurd h.1 (by decide)))))
          have f76 := (show 0 ≤ I70 23 5 ∧ I70 23 5 ≤ 1000 from gc_in hI70 R_23 rfl rfl)
          have f77 := (show 0 ≤ I70 23 6 ∧ I70 23 6 ≤ 1001 from gc_in hI70 R_23 rfl rfl)
          have f78 := (show 0 ≤ I70 23 7 ∧ I70 23 7 ≤ 125 from gc_in hI70 R_23 rfl rfl)
          have KLT_I70 : gc_LT I70 := q67.2.2
          have KTO_I70 := gc_TO_fr KTO_I16 ((g67 39 12).resolve_left (fun h => h.elim (fun h => absurd h.2 (by decide)) (fun h => h.elim (fun h => absurd h.2 (by decide)) (fun h => h.elim (fun h => absurd h.2 (by decide)) (fun h => absurd h.2 (by decide)))))) (fun k => (g67 43 k).resolve_left (fun h => h.elim (fun h => absurd h.1 (by decide)) (fun h => h.elim (fun h => absurd h.1 (by decide)) (fun h => h.elim (fun h => absurd h.1 (by decide)) (fun h => absurd h.1 (by decide))))))
          have KTK_I70 : gc_TK I70 := And.intro V67_0 (And.intro V67_1 (And.intro V67_2 (And.intro V67_3 V67_4)))
          have t79 := gc_TK_mo KTK_I70
          clear V67_0 V67_1 V67_2 V67_3 V67_4
          refine gv_callV hD rfl (As := []) (st := []) rfl B_23 S_23 rfl (gc_lV6 hws rfl) (Nat.le_of_ble_eq_true rfl) (gz_Ev_mono (d := 2) (by omega) E67) ?_
          show gv_X _ _ (130, [(0, .inr (.inr (some 39))), (1, .inl a1), (2, .inl a2), (4, .inl v4_18), (6, .inl v6_18)], [], sh, gc_h sh I70 J71 A)
          refine gv_run 4 true hD (pc' := 135) (lv' := [(0, .inr (.inr (some 39))), (1, .inl a1), (2, .inl a2), (4, .inl v4_18), (6, .inl v6_18)]) (st' := [.inr (.inl (Int64.ofNat 0)), .inl (-1), .inl v4_18, .inr (.inr (some 39))]) (h' := gc_h sh I70 J71 A) (C := ((((True ∧ True) ∧ True) ∧ True) ∧ True)) rfl ⟨⟨⟨⟨trivial, trivial⟩, trivial⟩, trivial⟩, trivial⟩ ?_
          obtain ⟨r80, h80, E80, P80⟩ := d_X6_putNode (ws0 := ws0) (tb := tb) hws htb sh ro I70 J71 A hI70  b v4_18 (-1) (Int64.ofNat 0) hb   ⟨by omega, by omega⟩ ⟨by omega, by omega⟩ (by omega) (by omega) (by omega) KTO_I70
          obtain ⟨I81, J82, rfl, hI81, g80, k80, KTO_I81, ⟨rfl, q80⟩⟩ := P80
          have FI81 := gc_frc (W := fun q j => (q = 39 ∧ j = 3) ∨ (q = 39 ∧ j = 4) ∨ (q = 23 ∧ j = 5) ∨ (q = 23 ∧ j = 6) ∨ (q = 23 ∧ j = 7) ∨ (q = 23 ∧ j = 8) ∨ (q = 39 ∧ j = 12) ∨ (q = 39 ∧ j = 15) ∨ q = 43) (V := fun q j => (q = 39 ∧ j = 12) ∨ q = 43) FI70 (fun q j h => (h.elim (fun h => (Or.inr (Or.inr (Or.inr (Or.inr (Or.inr (Or.inr (Or.inl h)))))))) (fun h => (Or.inr (Or.inr (Or.inr (Or.inr (Or.inr (Or.inr (Or.inr (Or.inr h))))))))))) g80
          have FJ82 := gc_frc (W := fun q j => (q = 23 ∧ j = 9) ∨ q = 44 ∨ q = 45) (V := fun q j => q = 44) FJ71 (fun q j h => (Or.inr (Or.inl h))) k80
          have t83 := (g80 23 1).resolve_left (fun h => h.elim (fun h => absurd h.2 (by decide)) (fun h => absurd h (by decide)))
          have t84 := (g80 23 5).resolve_left (fun h => h.elim (fun h => absurd h.2 (by decide)) (fun h => absurd h (by decide)))
          have t85 := (g80 23 6).resolve_left (fun h => h.elim (fun h => absurd h.2 (by decide)) (fun h => absurd h (by decide)))
          have t86 := (g80 23 7).resolve_left (fun h => h.elim (fun h => absurd h.2 (by decide)) (fun h => absurd h (by decide)))
          have t87 := (g80 39 15).resolve_left (fun h => h.elim (fun h => absurd h.2 (by decide)) (fun h => absurd h (by decide)))
          have t88 := (g80 12 (Int.toNat a1)).resolve_left (fun h => h.elim (fun h => absurd h.1 (by decide)) (fun h => absurd h (by decide)))
          have f89 := (show 0 ≤ I81 39 12 ∧ I81 39 12 ≤ 2000 from gc_in hI81 R_39 rfl rfl)
          have KLT_I81 := gc_LT_fr KLT_I70 ((g80 23 5).resolve_left (fun h => h.elim (fun h => absurd h.2 (by decide)) (fun h => absurd h (by decide)))) ((g80 23 6).resolve_left (fun h => h.elim (fun h => absurd h.2 (by decide)) (fun h => absurd h (by decide)))) ((g80 23 7).resolve_left (fun h => h.elim (fun h => absurd h.2 (by decide)) (fun h => absurd h (by decide)))) (fun k => (g80 24 k).resolve_left (fun h => h.elim (fun h => absurd h.1 (by decide)) (fun h => absurd h (by decide))))
          have KTK_I81 := gc_TK_fr KTK_I70 ((g80 23 1).resolve_left (fun h => h.elim (fun h => absurd h.2 (by decide)) (fun h => absurd h (by decide)))) ((g80 23 5).resolve_left (fun h => h.elim (fun h => absurd h.2 (by decide)) (fun h => absurd h (by decide)))) ((g80 23 6).resolve_left (fun h => h.elim (fun h => absurd h.2 (by decide)) (fun h => absurd h (by decide)))) ((g80 23 7).resolve_left (fun h => h.elim (fun h => absurd h.2 (by decide)) (fun h => absurd h (by decide))))
          refine gv_callV hD rfl (As := [.inl v4_18, .inl (-1), .inr (.inl (Int64.ofNat 0))]) (st := []) rfl B_39 S_39 rfl (gc_lV6 hws rfl) (Nat.le_of_ble_eq_true rfl) (gz_Ev_mono (d := 1) (by omega) E80) ?_
          show gv_X _ _ (138, [(0, .inr (.inr (some 39))), (1, .inl a1), (2, .inl a2), (4, .inl v4_18), (6, .inl v6_18)], [], sh, gc_h sh I81 J82 A)
          refine gv_run 5 true hD (pc' := 143) (lv' := [(0, .inr (.inr (some 39))), (1, .inl a1), (2, .inl a2), (4, .inl v4_18), (6, .inl v6_18)]) (st' := [.inl (a2 + 1), .inl a1, .inr (.inr (some 39))]) (h' := gc_h sh I81 J82 A) (C := (((((True ∧ True) ∧ True) ∧ True) ∧ True) ∧ True)) rfl ⟨⟨⟨⟨⟨trivial, trivial⟩, trivial⟩, trivial⟩, trivial⟩, trivial⟩ ?_
          obtain ⟨r90, h90, E90, P90⟩ := ihR I81 J82 hI81 a1 (a2 + 1) ⟨by omega, by omega⟩ ⟨by omega, by omega⟩ (by omega) (by omega) (by omega) (by omega) KLT_I81 KTK_I81 KTO_I81 (by omega)
          obtain ⟨I91, J92, rfl, hI91, g90, k90, KLT_I91, KTK_I91, KTO_I91, ⟨z90, rfl, q90⟩⟩ := P90
          have FI91 := gc_frc (W := fun q j => (q = 39 ∧ j = 3) ∨ (q = 39 ∧ j = 4) ∨ (q = 23 ∧ j = 5) ∨ (q = 23 ∧ j = 6) ∨ (q = 23 ∧ j = 7) ∨ (q = 23 ∧ j = 8) ∨ (q = 39 ∧ j = 12) ∨ (q = 39 ∧ j = 15) ∨ q = 43) (V := fun q j => (q = 39 ∧ j = 3) ∨ (q = 39 ∧ j = 4) ∨ (q = 23 ∧ j = 5) ∨ (q = 23 ∧ j = 6) ∨ (q = 23 ∧ j = 7) ∨ (q = 23 ∧ j = 8) ∨ (q = 39 ∧ j = 12) ∨ (q = 39 ∧ j = 15) ∨ q = 43) FI81 (fun q j h => (h.elim (fun h => (Or.inl h)) (fun h => (h.elim (fun h => (Or.inr (Or.inl h))) (fun h => (h.elim (fun h => (Or.inr (Or.inr (Or.inl h)))) (fun h => (h.elim (fun h => (Or.inr (Or.inr (Or.inr (Or.inl h))))) (fun h => (h.elim (fun h => (Or.inr (Or.inr (Or.inr (Or.inr (Or.inl h)))))) (fun h => (h.elim (fun h => (Or.inr (Or.inr (Or.inr (Or.inr (Or.inr (Or.inl h))))))) (fun h => (h.elim (fun h => (Or.inr (Or.inr (Or.inr (Or.inr (Or.inr (Or.inr (Or.inl h)))))))) (fun h => (h.elim (fun h => (Or.inr (Or.inr (Or.inr (Or.inr (Or.inr (Or.inr (Or.inr (Or.inl h))))))))) (fun h => (Or.inr (Or.inr (Or.inr (Or.inr (Or.inr (Or.inr (Or.inr (Or.inr h))))))))))))))))))))))))) g90
          have FJ92 := gc_frc (W := fun q j => (q = 23 ∧ j = 9) ∨ q = 44 ∨ q = 45) (V := fun q j => (q = 23 ∧ j = 9) ∨ q = 44 ∨ q = 45) FJ82 (fun q j h => (h.elim (fun h => (Or.inl h)) (fun h => (h.elim (fun h => (Or.inr (Or.inl h))) (fun h => (Or.inr (Or.inr h))))))) k90
          have t93 := (g90 23 1).resolve_left (fun h => h.elim (fun h => absurd h.2 (by decide)) (fun h => h.elim (fun h => absurd h.2 (by decide)) (fun h => h.elim (fun h => absurd h.2 (by decide)) (fun h => h.elim (fun h => absurd h.2 (by decide)) (fun h => h.elim (fun h => absurd h.2 (by decide)) (fun h => h.elim (fun h => absurd h.2 (by decide)) (fun h => h.elim (fun h => absurd h.2 (by decide)) (fun h => h.elim (fun h => absurd h.2 (by decide)) (fun h => absurd h (by decide))))))))))
          have t94 := (g90 12 (Int.toNat a1)).resolve_left (fun h => h.elim (fun h => absurd h.1 (by decide)) (fun h => h.elim (fun h => absurd h.1 (by decide)) (fun h => h.elim (fun h => absurd h.1 (by decide)) (fun h => h.elim (fun h => absurd h.1 (by decide)) (fun h => h.elim (fun h => absurd h.1 (by decide)) (fun h => h.elim (fun h => absurd h.1 (by decide)) (fun h => h.elim (fun h => absurd h.1 (by decide)) (fun h => h.elim (fun h => absurd h.1 (by decide)) (fun h => absurd h (by decide))))))))))
          have f95 := (show 0 ≤ I91 23 5 ∧ I91 23 5 ≤ 1000 from gc_in hI91 R_23 rfl rfl)
          have f96 := (show 0 ≤ I91 23 6 ∧ I91 23 6 ≤ 1001 from gc_in hI91 R_23 rfl rfl)
          have f97 := (show 0 ≤ I91 23 7 ∧ I91 23 7 ≤ 125 from gc_in hI91 R_23 rfl rfl)
          have f98 := (show 0 ≤ I91 39 12 ∧ I91 39 12 ≤ 2000 from gc_in hI91 R_39 rfl rfl)
          have f99 := (show 0 ≤ I91 39 15 ∧ I91 39 15 ≤ 41 from gc_in hI91 R_39 rfl rfl)
          have t100 := gc_TK_mo KTK_I91
          refine gv_callV hD rfl (As := [.inl a1, .inl (a2 + 1)]) (st := []) rfl B_39 S_39 rfl (gc_lV6 hws rfl) (Nat.le_of_ble_eq_true rfl) (gz_Ev_mono (d := (6 + 2 * nr)) (by omega) E90) ?_
          show gv_X _ _ (146, [(0, .inr (.inr (some 39))), (1, .inl a1), (2, .inl a2), (4, .inl v4_18), (6, .inl v6_18)], [.inl z90], sh, gc_h sh I91 J92 A)
          refine gv_if_ne (t := 151) hD rfl rfl ⟨by omega, by omega⟩ (fun c101 => ?_) (fun c101 => ?_)
          · show gv_X _ _ (151, [(0, .inr (.inr (some 39))), (1, .inl a1), (2, .inl a2), (4, .inl v4_18), (6, .inl v6_18)], [], sh, gc_h sh I91 J92 A)
            refine gv_run 1 true hD (pc' := 152) (lv' := [(0, .inr (.inr (some 39))), (1, .inl a1), (2, .inl a2), (4, .inl v4_18), (6, .inl v6_18)]) (st' := [.inr (.inr (some 39))]) (h' := gc_h sh I91 J92 A) (C := (True ∧ True)) rfl ⟨trivial, trivial⟩ ?_
            refine gv_get hD rfl rfl S_39 ⟨by decide, B_39⟩ (gc_hA S_39 rfl A_39_1) ?_
            show gv_X _ _ (155, [(0, .inr (.inr (some 39))), (1, .inl a1), (2, .inl a2), (4, .inl v4_18), (6, .inl v6_18)], [.inr (.inr (some 23))], sh, gc_h sh I91 J92 A)
            have f102 := (show 0 ≤ I91 23 7 ∧ I91 23 7 ≤ 125 from gc_in hI91 R_23 rfl rfl)
            refine gv_get hD rfl rfl S_23 ⟨by decide, B_23⟩ (gc_hI S_23 rfl) ?_
            show gv_X _ _ (158, [(0, .inr (.inr (some 39))), (1, .inl a1), (2, .inl a2), (4, .inl v4_18), (6, .inl v6_18)], [.inl (I91 23 7)], sh, gc_h sh I91 J92 A)
            refine gv_run 1 true hD (pc' := 160) (lv' := [(0, .inr (.inr (some 39))), (1, .inl a1), (2, .inl a2), (4, .inl v4_18), (6, .inl v6_18)]) (st' := [.inl 44, .inl (I91 23 7)]) (h' := gc_h sh I91 J92 A) (C := (True ∧ True)) rfl ⟨trivial, trivial⟩ ?_
            refine gv_icmp_ne (t := 167) hD rfl rfl ⟨⟨by omega, by omega⟩, ⟨by omega, by omega⟩⟩ (fun c103 => ?_) (fun c103 => ?_)
            · show gv_X _ _ (167, [(0, .inr (.inr (some 39))), (1, .inl a1), (2, .inl a2), (4, .inl v4_18), (6, .inl v6_18)], [], sh, gc_h sh I91 J92 A)
              refine gv_run 1 true hD (pc' := 168) (lv' := [(0, .inr (.inr (some 39))), (1, .inl a1), (2, .inl a2), (4, .inl v4_18), (6, .inl v6_18)]) (st' := [.inl 0]) (h' := gc_h sh I91 J92 A) (C := (True ∧ True)) rfl ⟨trivial, trivial⟩ ?_
              exact L168 I91 J92 0 hI91 FI91 FJ92 KLT_I91 KTK_I91 KTO_I91 (by omega) (gc_TD_app (gc_TD_fr e0_26 rfl (fun _ => rfl) (by omega) (fun k => ((g67 43 k).resolve_left (by omega)))) (by omega) (by omega) q80.2 (by omega) (by omega) (q90.2.2.2.2.2.2.2.resolve_left (by omega)) (by omega))
            · show gv_X _ _ (163, [(0, .inr (.inr (some 39))), (1, .inl a1), (2, .inl a2), (4, .inl v4_18), (6, .inl v6_18)], [], sh, gc_h sh I91 J92 A)
              refine gv_run 2 true hD (pc' := 168) (lv' := [(0, .inr (.inr (some 39))), (1, .inl a1), (2, .inl a2), (4, .inl v4_18), (6, .inl v6_18)]) (st' := [.inl 1]) (h' := gc_h sh I91 J92 A) (C := ((True ∧ True) ∧ True)) rfl ⟨⟨trivial, trivial⟩, trivial⟩ ?_
              exact L168 I91 J92 1 hI91 FI91 FJ92 KLT_I91 KTK_I91 KTO_I91 (by omega) (gc_TD_app (gc_TD_fr e0_26 rfl (fun _ => rfl) (by omega) (fun k => ((g67 43 k).resolve_left (by omega)))) (by omega) (by omega) q80.2 (by omega) (by omega) (q90.2.2.2.2.2.2.2.resolve_left (by omega)) (by omega))
          · show gv_X _ _ (149, [(0, .inr (.inr (some 39))), (1, .inl a1), (2, .inl a2), (4, .inl v4_18), (6, .inl v6_18)], [], sh, gc_h sh I91 J92 A)
            refine gv_run 1 true hD (pc' := 150) (lv' := [(0, .inr (.inr (some 39))), (1, .inl a1), (2, .inl a2), (4, .inl v4_18), (6, .inl v6_18)]) (st' := [.inl 0]) (h' := gc_h sh I91 J92 A) (C := (True ∧ True)) rfl ⟨trivial, trivial⟩ ?_
            exact gv_zret hD rfl (by omega) ⟨I91, J92, rfl, hI91, FI91, FJ92, KLT_I91, KTK_I91, KTO_I91, ⟨_, rfl, by omega, by omega, by omega, by omega, by omega, by omega, by omega, (Or.inl (by omega))⟩⟩
        have L192 : ((I16 23 1 = I 23 1) ∧ (I 23 5 ≤ I16 23 5) ∧ (I16 39 12 ≤ I16 23 5) ∧ (I 39 12 ≤ I16 39 12) ∧ (b ≤ -3 - I16 12 (Int.toNat a1)) ∧ (I16 39 15 = I 39 15)) → gv_X (gc_E6 ws0 tb (6 + 2 * nr + 1) (yX6_readTerm, cX6_readTerm, 7, (some .boolean)) kX6_readTerm) (gv_Q cX6_readTerm (some .boolean) sh (fun r h' => (∃ (I' : gr_I) (J' : gr_J), h' = gc_h sh I' J' A ∧ gc_Inv ro I' ∧ (∀ q j : Nat, ((q = 39 ∧ j = 3) ∨ (q = 39 ∧ j = 4) ∨ (q = 23 ∧ j = 5) ∨ (q = 23 ∧ j = 6) ∨ (q = 23 ∧ j = 7) ∨ (q = 23 ∧ j = 8) ∨ (q = 39 ∧ j = 12) ∨ (q = 39 ∧ j = 15) ∨ q = 43) ∨ I' q j = I q j) ∧ (∀ q j : Nat, ((q = 23 ∧ j = 9) ∨ q = 44 ∨ q = 45) ∨ J' q j = J q j) ∧ gc_LT I' ∧ gc_TK I' ∧ gc_TO b I' ∧ (∃ z : Int, r = some (.inl z) ∧ 0 ≤ z ∧ z ≤ 1 ∧ (I' 23 1 = I 23 1) ∧ (I 23 5 ≤ I' 23 5) ∧ (I' 39 12 ≤ I' 23 5) ∧ (z = 0 ∨ I' 39 15 = I 39 15) ∧ (I 39 12 ≤ I' 39 12) ∧ (gc_TE z I I'))))) (192, [], [], sh, gc_h sh I16 J17 A) := by
          intro m_104
          obtain ⟨e0_104, e1_104, e2_104, e3_104, e4_104, e5_104⟩ := m_104
          have t105 := gc_TK_mo KTK_I16
          have f106 := (show 0 ≤ I16 23 1 ∧ I16 23 1 ≤ 1000 from gc_in hI16 R_23 rfl rfl)
          have f107 := (show 0 ≤ I16 23 5 ∧ I16 23 5 ≤ 1000 from gc_in hI16 R_23 rfl rfl)
          have f108 := (show 0 ≤ I16 23 6 ∧ I16 23 6 ≤ 1001 from gc_in hI16 R_23 rfl rfl)
          have f109 := (show 0 ≤ I16 23 7 ∧ I16 23 7 ≤ 125 from gc_in hI16 R_23 rfl rfl)
          have f110 := (show 0 ≤ I16 39 12 ∧ I16 39 12 ≤ 2000 from gc_in hI16 R_39 rfl rfl)
          have f111 := (show 0 ≤ I16 39 15 ∧ I16 39 15 ≤ 41 from gc_in hI16 R_39 rfl rfl)
          refine gv_run 1 true hD (pc' := 193) (lv' := []) (st' := [.inl 1]) (h' := gc_h sh I16 J17 A) (C := (True ∧ True)) rfl ⟨trivial, trivial⟩ ?_
          exact gv_zret hD rfl (by omega) ⟨I16, J17, rfl, hI16, FI16, FJ17, KLT_I16, KTK_I16, KTO_I16, ⟨_, rfl, by omega, by omega, by omega, by omega, by omega, by omega, by omega, (Or.inr e0_18)⟩⟩
        refine gv_run 2 true hD (pc' := 103) (lv' := [(0, .inr (.inr (some 39))), (1, .inl a1), (2, .inl a2), (4, .inl v4_18), (5, .inl v5_18), (6, .inl v6_18)]) (st' := [.inl 1000, .inl v6_18]) (h' := gc_h sh I16 J17 A) (C := ((True ∧ True) ∧ True)) rfl ⟨⟨trivial, trivial⟩, trivial⟩ ?_
        refine gv_icmp_ge (t := 192) hD rfl rfl ⟨⟨by omega, by omega⟩, ⟨by omega, by omega⟩⟩ (fun c112 => ?_) (fun c112 => ?_)
        · show gv_X _ _ (192, [(0, .inr (.inr (some 39))), (1, .inl a1), (2, .inl a2), (4, .inl v4_18), (5, .inl v5_18), (6, .inl v6_18)], [], sh, gc_h sh I16 J17 A)
          refine gv_pick [] rfl ?_
          exact L192 (by omega)
        · show gv_X _ _ (106, [(0, .inr (.inr (some 39))), (1, .inl a1), (2, .inl a2), (4, .inl v4_18), (5, .inl v5_18), (6, .inl v6_18)], [], sh, gc_h sh I16 J17 A)
          refine gv_run 1 true hD (pc' := 108) (lv' := [(0, .inr (.inr (some 39))), (1, .inl a1), (2, .inl a2), (4, .inl v4_18), (5, .inl v5_18), (6, .inl v6_18)]) (st' := [.inl v5_18]) (h' := gc_h sh I16 J17 A) (C := (True ∧ True)) rfl ⟨trivial, trivial⟩ ?_
          refine gv_if_ne (t := 123) hD rfl rfl ⟨by omega, by omega⟩ (fun c113 => ?_) (fun c113 => ?_)
          · show gv_X _ _ (123, [(0, .inr (.inr (some 39))), (1, .inl a1), (2, .inl a2), (4, .inl v4_18), (5, .inl v5_18), (6, .inl v6_18)], [], sh, gc_h sh I16 J17 A)
            refine gv_pick [0, 1, 2, 3, 5] rfl ?_
            exact L123 (by omega) e0_18
          · show gv_X _ _ (111, [(0, .inr (.inr (some 39))), (1, .inl a1), (2, .inl a2), (4, .inl v4_18), (5, .inl v5_18), (6, .inl v6_18)], [], sh, gc_h sh I16 J17 A)
            refine gv_run 1 true hD (pc' := 112) (lv' := [(0, .inr (.inr (some 39))), (1, .inl a1), (2, .inl a2), (4, .inl v4_18), (5, .inl v5_18), (6, .inl v6_18)]) (st' := [.inr (.inr (some 39))]) (h' := gc_h sh I16 J17 A) (C := (True ∧ True)) rfl ⟨trivial, trivial⟩ ?_
            refine gv_get hD rfl rfl S_39 ⟨by decide, B_39⟩ (gc_hA S_39 rfl A_39_1) ?_
            show gv_X _ _ (115, [(0, .inr (.inr (some 39))), (1, .inl a1), (2, .inl a2), (4, .inl v4_18), (5, .inl v5_18), (6, .inl v6_18)], [.inr (.inr (some 23))], sh, gc_h sh I16 J17 A)
            have f114 := (show 0 ≤ I16 23 7 ∧ I16 23 7 ≤ 125 from gc_in hI16 R_23 rfl rfl)
            refine gv_get hD rfl rfl S_23 ⟨by decide, B_23⟩ (gc_hI S_23 rfl) ?_
            show gv_X _ _ (118, [(0, .inr (.inr (some 39))), (1, .inl a1), (2, .inl a2), (4, .inl v4_18), (5, .inl v5_18), (6, .inl v6_18)], [.inl (I16 23 7)], sh, gc_h sh I16 J17 A)
            refine gv_run 1 true hD (pc' := 120) (lv' := [(0, .inr (.inr (some 39))), (1, .inl a1), (2, .inl a2), (4, .inl v4_18), (5, .inl v5_18), (6, .inl v6_18)]) (st' := [.inl 40, .inl (I16 23 7)]) (h' := gc_h sh I16 J17 A) (C := (True ∧ True)) rfl ⟨trivial, trivial⟩ ?_
            refine gv_icmp_ne (t := 192) hD rfl rfl ⟨⟨by omega, by omega⟩, ⟨by omega, by omega⟩⟩ (fun c115 => ?_) (fun c115 => ?_)
            · show gv_X _ _ (192, [(0, .inr (.inr (some 39))), (1, .inl a1), (2, .inl a2), (4, .inl v4_18), (5, .inl v5_18), (6, .inl v6_18)], [], sh, gc_h sh I16 J17 A)
              refine gv_pick [] rfl ?_
              exact L192 (by omega)
            · show gv_X _ _ (123, [(0, .inr (.inr (some 39))), (1, .inl a1), (2, .inl a2), (4, .inl v4_18), (5, .inl v5_18), (6, .inl v6_18)], [], sh, gc_h sh I16 J17 A)
              refine gv_pick [0, 1, 2, 3, 5] rfl ?_
              exact L123 (by omega) e0_18
    refine gv_run 2 true hD (pc' := 46) (lv' := [(0, .inr (.inr (some 39))), (1, .inl a1), (2, .inl a2), (3, .inl v3_8)]) (st' := [.inl 40, .inl a2]) (h' := gc_h sh I J A) (C := ((True ∧ True) ∧ True)) rfl ⟨⟨trivial, trivial⟩, trivial⟩ ?_
    refine gv_icmp_le (t := 62) hD rfl rfl ⟨⟨by omega, by omega⟩, ⟨by omega, by omega⟩⟩ (fun c116 => ?_) (fun c116 => ?_)
    · show gv_X _ _ (62, [(0, .inr (.inr (some 39))), (1, .inl a1), (2, .inl a2), (3, .inl v3_8)], [], sh, gc_h sh I J A)
      refine gv_run 2 true hD (pc' := 65) (lv' := [(0, .inr (.inr (some 39))), (1, .inl a1), (2, .inl a2), (3, .inl v3_8)]) (st' := [.inl 92, .inl v3_8]) (h' := gc_h sh I J A) (C := ((True ∧ True) ∧ True)) rfl ⟨⟨trivial, trivial⟩, trivial⟩ ?_
      refine gv_icmp_ne (t := 75) hD rfl rfl ⟨⟨by omega, by omega⟩, ⟨by omega, by omega⟩⟩ (fun c117 => ?_) (fun c117 => ?_)
      · show gv_X _ _ (75, [(0, .inr (.inr (some 39))), (1, .inl a1), (2, .inl a2), (3, .inl v3_8)], [], sh, gc_h sh I J A)
        refine gv_run 1 true hD (pc' := 76) (lv' := [(0, .inr (.inr (some 39))), (1, .inl a1), (2, .inl a2), (3, .inl v3_8)]) (st' := [.inr (.inr (some 39))]) (h' := gc_h sh I J A) (C := (True ∧ True)) rfl ⟨trivial, trivial⟩ ?_
        have f118 := (show 0 ≤ I 39 12 ∧ I 39 12 ≤ 2000 from gc_in hI R_39 rfl rfl)
        refine gv_get hD rfl rfl S_39 ⟨by decide, B_39⟩ (gc_hI S_39 rfl) ?_
        show gv_X _ _ (79, [(0, .inr (.inr (some 39))), (1, .inl a1), (2, .inl a2), (3, .inl v3_8)], [.inl (I 39 12)], sh, gc_h sh I J A)
        refine gv_run 4 true hD (pc' := 84) (lv' := [(4, .inl (I 39 12)), (0, .inr (.inr (some 39))), (1, .inl a1), (2, .inl a2), (3, .inl v3_8)]) (st' := [.inl a2, .inl a1, .inr (.inr (some 39))]) (h' := gc_h sh I J A) (C := ((((True ∧ True) ∧ True) ∧ True) ∧ True)) rfl ⟨⟨⟨⟨trivial, trivial⟩, trivial⟩, trivial⟩, trivial⟩ ?_
        obtain ⟨r119, h119, E119, P119⟩ := d_X6_readAtom (ws0 := ws0) (tb := tb) hws htb sh ro A  b  hb   nr ihR I J hI a1 a2 ⟨by omega, by omega⟩ ⟨by omega, by omega⟩ (by omega) (by omega) (by omega) (by omega) (by omega) KLT_I KTK_I KTO_I (by omega)
        obtain ⟨I120, J121, rfl, hI120, g119, k119, KLT_I120, KTK_I120, KTO_I120, ⟨z119, rfl, q119⟩⟩ := P119
        have FI120 := gc_frc (W := fun q j => (q = 39 ∧ j = 3) ∨ (q = 39 ∧ j = 4) ∨ (q = 23 ∧ j = 5) ∨ (q = 23 ∧ j = 6) ∨ (q = 23 ∧ j = 7) ∨ (q = 23 ∧ j = 8) ∨ (q = 39 ∧ j = 12) ∨ (q = 39 ∧ j = 15) ∨ q = 43) (V := fun q j => (q = 39 ∧ j = 3) ∨ (q = 39 ∧ j = 4) ∨ (q = 23 ∧ j = 5) ∨ (q = 23 ∧ j = 6) ∨ (q = 23 ∧ j = 7) ∨ (q = 23 ∧ j = 8) ∨ (q = 39 ∧ j = 12) ∨ (q = 39 ∧ j = 15) ∨ q = 43) FI (fun q j h => (h.elim (fun h => (Or.inl h)) (fun h => (h.elim (fun h => (Or.inr (Or.inl h))) (fun h => (h.elim (fun h => (Or.inr (Or.inr (Or.inl h)))) (fun h => (h.elim (fun h => (Or.inr (Or.inr (Or.inr (Or.inl h))))) (fun h => (h.elim (fun h => (Or.inr (Or.inr (Or.inr (Or.inr (Or.inl h)))))) (fun h => (h.elim (fun h => (Or.inr (Or.inr (Or.inr (Or.inr (Or.inr (Or.inl h))))))) (fun h => (h.elim (fun h => (Or.inr (Or.inr (Or.inr (Or.inr (Or.inr (Or.inr (Or.inl h)))))))) (fun h => (h.elim (fun h => (Or.inr (Or.inr (Or.inr (Or.inr (Or.inr (Or.inr (Or.inr (Or.inl h))))))))) (fun h => (Or.inr (Or.inr (Or.inr (Or.inr (Or.inr (Or.inr (Or.inr (Or.inr h))))))))))))))))))))))))) g119
        have FJ121 := gc_frc (W := fun q j => (q = 23 ∧ j = 9) ∨ q = 44 ∨ q = 45) (V := fun q j => (q = 23 ∧ j = 9) ∨ q = 44 ∨ q = 45) FJ (fun q j h => (h.elim (fun h => (Or.inl h)) (fun h => (h.elim (fun h => (Or.inr (Or.inl h))) (fun h => (Or.inr (Or.inr h))))))) k119
        have t122 := (g119 23 1).resolve_left (fun h => h.elim (fun h => absurd h.2 (by decide)) (fun h => h.elim (fun h => absurd h.2 (by decide)) (fun h => h.elim (fun h => absurd h.2 (by decide)) (fun h => h.elim (fun h => absurd h.2 (by decide)) (fun h => h.elim (fun h => absurd h.2 (by decide)) (fun h => h.elim (fun h => absurd h.2 (by decide)) (fun h => h.elim (fun h => absurd h.2 (by decide)) (fun h => h.elim (fun h => absurd h.2 (by decide)) (fun h => absurd h (by decide))))))))))
        have t123 := (g119 12 (Int.toNat a1)).resolve_left (fun h => h.elim (fun h => absurd h.1 (by decide)) (fun h => h.elim (fun h => absurd h.1 (by decide)) (fun h => h.elim (fun h => absurd h.1 (by decide)) (fun h => h.elim (fun h => absurd h.1 (by decide)) (fun h => h.elim (fun h => absurd h.1 (by decide)) (fun h => h.elim (fun h => absurd h.1 (by decide)) (fun h => h.elim (fun h => absurd h.1 (by decide)) (fun h => h.elim (fun h => absurd h.1 (by decide)) (fun h => absurd h (by decide))))))))))
        have f124 := (show 0 ≤ I120 23 5 ∧ I120 23 5 ≤ 1000 from gc_in hI120 R_23 rfl rfl)
        have f125 := (show 0 ≤ I120 23 6 ∧ I120 23 6 ≤ 1001 from gc_in hI120 R_23 rfl rfl)
        have f126 := (show 0 ≤ I120 23 7 ∧ I120 23 7 ≤ 125 from gc_in hI120 R_23 rfl rfl)
        have f127 := (show 0 ≤ I120 39 12 ∧ I120 39 12 ≤ 2000 from gc_in hI120 R_39 rfl rfl)
        have f128 := (show 0 ≤ I120 39 15 ∧ I120 39 15 ≤ 41 from gc_in hI120 R_39 rfl rfl)
        have t129 := gc_TK_mo KTK_I120
        refine gv_callV hD rfl (As := [.inl a1, .inl a2]) (st := []) rfl B_39 S_39 rfl (gc_lV6 hws rfl) (Nat.le_of_ble_eq_true rfl) (gz_Ev_mono (d := (6 + 2 * nr + 1)) (Nat.le_refl _) E119) ?_
        show gv_X _ _ (87, [(4, .inl (I 39 12)), (0, .inr (.inr (some 39))), (1, .inl a1), (2, .inl a2), (3, .inl v3_8)], [.inl z119], sh, gc_h sh I120 J121 A)
        refine gv_if_ne (t := 92) hD rfl rfl ⟨by omega, by omega⟩ (fun c130 => ?_) (fun c130 => ?_)
        · show gv_X _ _ (92, [(4, .inl (I 39 12)), (0, .inr (.inr (some 39))), (1, .inl a1), (2, .inl a2), (3, .inl v3_8)], [], sh, gc_h sh I120 J121 A)
          refine gv_run 4 true hD (pc' := 98) (lv' := [(6, .inl 0), (5, .inl 0), (4, .inl (I 39 12)), (0, .inr (.inr (some 39))), (1, .inl a1), (2, .inl a2), (3, .inl v3_8)]) (st' := []) (h' := gc_h sh I120 J121 A) (C := ((((True ∧ True) ∧ True) ∧ True) ∧ True)) rfl ⟨⟨⟨⟨trivial, trivial⟩, trivial⟩, trivial⟩, trivial⟩ ?_
          refine gv_pick [3, 4, 5, 2, 1, 0] rfl ?_
          exact L98 _ I120 J121 (I 39 12) 0 0 (Nat.lt_succ_self _) hI120 FI120 FJ121 KLT_I120 KTK_I120 KTO_I120 (by omega) (q119.2.2.2.2.2.2.2.resolve_left (by omega))
        · show gv_X _ _ (90, [(4, .inl (I 39 12)), (0, .inr (.inr (some 39))), (1, .inl a1), (2, .inl a2), (3, .inl v3_8)], [], sh, gc_h sh I120 J121 A)
          refine gv_run 1 true hD (pc' := 91) (lv' := [(4, .inl (I 39 12)), (0, .inr (.inr (some 39))), (1, .inl a1), (2, .inl a2), (3, .inl v3_8)]) (st' := [.inl 0]) (h' := gc_h sh I120 J121 A) (C := (True ∧ True)) rfl ⟨trivial, trivial⟩ ?_
          exact gv_zret hD rfl (by omega) ⟨I120, J121, rfl, hI120, FI120, FJ121, KLT_I120, KTK_I120, KTO_I120, ⟨_, rfl, by omega, by omega, by omega, by omega, by omega, by omega, by omega, (Or.inl (by omega))⟩⟩
      · show gv_X _ _ (68, [(0, .inr (.inr (some 39))), (1, .inl a1), (2, .inl a2), (3, .inl v3_8)], [], sh, gc_h sh I J A)
        refine gv_run 3 true hD (pc' := 71) (lv' := [(0, .inr (.inr (some 39))), (1, .inl a1), (2, .inl a2), (3, .inl v3_8)]) (st' := [.inl a2, .inl a1, .inr (.inr (some 39))]) (h' := gc_h sh I J A) (C := (((True ∧ True) ∧ True) ∧ True)) rfl ⟨⟨⟨trivial, trivial⟩, trivial⟩, trivial⟩ ?_
        obtain ⟨r131, h131, E131, P131⟩ := d_X6_readBinder (ws0 := ws0) (tb := tb) hws htb sh ro A  b  hb   nr ihR I J hI a1 a2 ⟨by omega, by omega⟩ ⟨by omega, by omega⟩ (by omega) (by omega) (by omega) (by omega) (by omega) KLT_I KTK_I KTO_I (by omega)
        obtain ⟨I132, J133, rfl, hI132, g131, k131, KLT_I132, KTK_I132, KTO_I132, ⟨z131, rfl, q131⟩⟩ := P131
        have FI132 := gc_frc (W := fun q j => (q = 39 ∧ j = 3) ∨ (q = 39 ∧ j = 4) ∨ (q = 23 ∧ j = 5) ∨ (q = 23 ∧ j = 6) ∨ (q = 23 ∧ j = 7) ∨ (q = 23 ∧ j = 8) ∨ (q = 39 ∧ j = 12) ∨ (q = 39 ∧ j = 15) ∨ q = 43) (V := fun q j => (q = 39 ∧ j = 3) ∨ (q = 39 ∧ j = 4) ∨ (q = 23 ∧ j = 5) ∨ (q = 23 ∧ j = 6) ∨ (q = 23 ∧ j = 7) ∨ (q = 23 ∧ j = 8) ∨ (q = 39 ∧ j = 12) ∨ (q = 39 ∧ j = 15) ∨ q = 43) FI (fun q j h => (h.elim (fun h => (Or.inl h)) (fun h => (h.elim (fun h => (Or.inr (Or.inl h))) (fun h => (h.elim (fun h => (Or.inr (Or.inr (Or.inl h)))) (fun h => (h.elim (fun h => (Or.inr (Or.inr (Or.inr (Or.inl h))))) (fun h => (h.elim (fun h => (Or.inr (Or.inr (Or.inr (Or.inr (Or.inl h)))))) (fun h => (h.elim (fun h => (Or.inr (Or.inr (Or.inr (Or.inr (Or.inr (Or.inl h))))))) (fun h => (h.elim (fun h => (Or.inr (Or.inr (Or.inr (Or.inr (Or.inr (Or.inr (Or.inl h)))))))) (fun h => (h.elim (fun h => (Or.inr (Or.inr (Or.inr (Or.inr (Or.inr (Or.inr (Or.inr (Or.inl h))))))))) (fun h => (Or.inr (Or.inr (Or.inr (Or.inr (Or.inr (Or.inr (Or.inr (Or.inr h))))))))))))))))))))))))) g131
        have FJ133 := gc_frc (W := fun q j => (q = 23 ∧ j = 9) ∨ q = 44 ∨ q = 45) (V := fun q j => (q = 23 ∧ j = 9) ∨ q = 44 ∨ q = 45) FJ (fun q j h => (h.elim (fun h => (Or.inl h)) (fun h => (h.elim (fun h => (Or.inr (Or.inl h))) (fun h => (Or.inr (Or.inr h))))))) k131
        have t134 := (g131 23 1).resolve_left (fun h => h.elim (fun h => absurd h.2 (by decide)) (fun h => h.elim (fun h => absurd h.2 (by decide)) (fun h => h.elim (fun h => absurd h.2 (by decide)) (fun h => h.elim (fun h => absurd h.2 (by decide)) (fun h => h.elim (fun h => absurd h.2 (by decide)) (fun h => h.elim (fun h => absurd h.2 (by decide)) (fun h => h.elim (fun h => absurd h.2 (by decide)) (fun h => h.elim (fun h => absurd h.2 (by decide)) (fun h => absurd h (by decide))))))))))
        have t135 := (g131 12 (Int.toNat a1)).resolve_left (fun h => h.elim (fun h => absurd h.1 (by decide)) (fun h => h.elim (fun h => absurd h.1 (by decide)) (fun h => h.elim (fun h => absurd h.1 (by decide)) (fun h => h.elim (fun h => absurd h.1 (by decide)) (fun h => h.elim (fun h => absurd h.1 (by decide)) (fun h => h.elim (fun h => absurd h.1 (by decide)) (fun h => h.elim (fun h => absurd h.1 (by decide)) (fun h => h.elim (fun h => absurd h.1 (by decide)) (fun h => absurd h (by decide))))))))))
        have f136 := (show 0 ≤ I132 23 5 ∧ I132 23 5 ≤ 1000 from gc_in hI132 R_23 rfl rfl)
        have f137 := (show 0 ≤ I132 23 6 ∧ I132 23 6 ≤ 1001 from gc_in hI132 R_23 rfl rfl)
        have f138 := (show 0 ≤ I132 23 7 ∧ I132 23 7 ≤ 125 from gc_in hI132 R_23 rfl rfl)
        have f139 := (show 0 ≤ I132 39 12 ∧ I132 39 12 ≤ 2000 from gc_in hI132 R_39 rfl rfl)
        have f140 := (show 0 ≤ I132 39 15 ∧ I132 39 15 ≤ 41 from gc_in hI132 R_39 rfl rfl)
        have t141 := gc_TK_mo KTK_I132
        refine gv_callV hD rfl (As := [.inl a1, .inl a2]) (st := []) rfl B_39 S_39 rfl (gc_lV6 hws rfl) (Nat.le_of_ble_eq_true rfl) (gz_Ev_mono (d := (6 + 2 * nr + 1)) (Nat.le_refl _) E131) ?_
        show gv_X _ _ (74, [(0, .inr (.inr (some 39))), (1, .inl a1), (2, .inl a2), (3, .inl v3_8)], [.inl z131], sh, gc_h sh I132 J133 A)
        exact gv_zret hD rfl (by omega) ⟨I132, J133, rfl, hI132, FI132, FJ133, KLT_I132, KTK_I132, KTO_I132, ⟨_, rfl, by omega, by omega, by omega, by omega, by omega, by omega, by omega, q131.2.2.2.2.2.2.2⟩⟩
    · show gv_X _ _ (49, [(0, .inr (.inr (some 39))), (1, .inl a1), (2, .inl a2), (3, .inl v3_8)], [], sh, gc_h sh I J A)
      refine gv_run 3 true hD (pc' := 52) (lv' := [(0, .inr (.inr (some 39))), (1, .inl a1), (2, .inl a2), (3, .inl v3_8)]) (st' := [.inr (.inr (some 39)), .inl 5, .inr (.inr (some 39))]) (h' := gc_h sh I J A) (C := (((True ∧ True) ∧ True) ∧ True)) rfl ⟨⟨⟨trivial, trivial⟩, trivial⟩, trivial⟩ ?_
      refine gv_get hD rfl rfl S_39 ⟨by decide, B_39⟩ (gc_hA S_39 rfl A_39_1) ?_
      show gv_X _ _ (55, [(0, .inr (.inr (some 39))), (1, .inl a1), (2, .inl a2), (3, .inl v3_8)], [.inr (.inr (some 23)), .inl 5, .inr (.inr (some 39))], sh, gc_h sh I J A)
      have f142 := (show 0 ≤ I 23 5 ∧ I 23 5 ≤ 1000 from gc_in hI R_23 rfl rfl)
      refine gv_get hD rfl rfl S_23 ⟨by decide, B_23⟩ (gc_hI S_23 rfl) ?_
      show gv_X _ _ (58, [(0, .inr (.inr (some 39))), (1, .inl a1), (2, .inl a2), (3, .inl v3_8)], [.inl (I 23 5), .inl 5, .inr (.inr (some 39))], sh, gc_h sh I J A)
      obtain ⟨r143, h143, E143, P143⟩ := d_X6_wrong (ws0 := ws0) (tb := tb) hws htb sh ro I J A hI  5 (I 23 5) hb   ⟨by omega, by omega⟩ ⟨by omega, by omega⟩  
      obtain ⟨I144, J145, rfl, hI144, g143, k143, ⟨z143, rfl, q143⟩⟩ := P143
      have FI144 := gc_frc (W := fun q j => (q = 39 ∧ j = 3) ∨ (q = 39 ∧ j = 4) ∨ (q = 23 ∧ j = 5) ∨ (q = 23 ∧ j = 6) ∨ (q = 23 ∧ j = 7) ∨ (q = 23 ∧ j = 8) ∨ (q = 39 ∧ j = 12) ∨ (q = 39 ∧ j = 15) ∨ q = 43) (V := fun q j => (q = 39 ∧ j = 3) ∨ (q = 39 ∧ j = 4)) FI (fun q j h => (h.elim (fun h => (Or.inl h)) (fun h => (Or.inr (Or.inl h))))) g143
      have t146 := (g143 23 1).resolve_left (fun h => h.elim (fun h => absurd h.2 (by decide)) (fun h => absurd h.2 (by decide)))
      have t147 := (g143 23 5).resolve_left (fun h => h.elim (fun h => absurd h.2 (by decide)) (fun h => absurd h.2 (by decide)))
      have t148 := (g143 23 6).resolve_left (fun h => h.elim (fun h => absurd h.2 (by decide)) (fun h => absurd h.2 (by decide)))
      have t149 := (g143 23 7).resolve_left (fun h => h.elim (fun h => absurd h.2 (by decide)) (fun h => absurd h.2 (by decide)))
      have t150 := (g143 39 12).resolve_left (fun h => h.elim (fun h => absurd h.2 (by decide)) (fun h => absurd h.2 (by decide)))
      have t151 := (g143 39 15).resolve_left (fun h => h.elim (fun h => absurd h.2 (by decide)) (fun h => absurd h.2 (by decide)))
      have t152 := (g143 12 (Int.toNat a1)).resolve_left (fun h => h.elim (fun h => absurd h.1 (by decide)) (fun h => absurd h.1 (by decide)))
      obtain rfl : J = J145 := funext fun q => funext fun j => ((k143 q j).resolve_left id).symm
      have KLT_I144 := gc_LT_fr KLT_I ((g143 23 5).resolve_left (fun h => h.elim (fun h => absurd h.2 (by decide)) (fun h => absurd h.2 (by decide)))) ((g143 23 6).resolve_left (fun h => h.elim (fun h => absurd h.2 (by decide)) (fun h => absurd h.2 (by decide)))) ((g143 23 7).resolve_left (fun h => h.elim (fun h => absurd h.2 (by decide)) (fun h => absurd h.2 (by decide)))) (fun k => (g143 24 k).resolve_left (fun h => h.elim (fun h => absurd h.1 (by decide)) (fun h => absurd h.1 (by decide))))
      have KTK_I144 := gc_TK_fr KTK_I ((g143 23 1).resolve_left (fun h => h.elim (fun h => absurd h.2 (by decide)) (fun h => absurd h.2 (by decide)))) ((g143 23 5).resolve_left (fun h => h.elim (fun h => absurd h.2 (by decide)) (fun h => absurd h.2 (by decide)))) ((g143 23 6).resolve_left (fun h => h.elim (fun h => absurd h.2 (by decide)) (fun h => absurd h.2 (by decide)))) ((g143 23 7).resolve_left (fun h => h.elim (fun h => absurd h.2 (by decide)) (fun h => absurd h.2 (by decide))))
      have KTO_I144 := gc_TO_fr KTO_I ((g143 39 12).resolve_left (fun h => h.elim (fun h => absurd h.2 (by decide)) (fun h => absurd h.2 (by decide)))) (fun k => (g143 43 k).resolve_left (fun h => h.elim (fun h => absurd h.1 (by decide)) (fun h => absurd h.1 (by decide))))
      refine gv_callV hD rfl (As := [.inl 5, .inl (I 23 5)]) (st := []) rfl B_39 S_39 rfl (gc_lV6 hws rfl) (Nat.le_of_ble_eq_true rfl) (gz_Ev_mono (d := 1) (by omega) E143) ?_
      show gv_X _ _ (61, [(0, .inr (.inr (some 39))), (1, .inl a1), (2, .inl a2), (3, .inl v3_8)], [.inl z143], sh, gc_h sh I144 J A)
      exact gv_zret hD rfl (by omega) ⟨I144, J, rfl, hI144, FI144, FJ, KLT_I144, KTK_I144, KTO_I144, ⟨_, rfl, by omega, by omega, by omega, by omega, by omega, by omega, by omega, (Or.inl (by omega))⟩⟩
  refine gv_run 1 true hD (pc' := 1) (lv' := [(0, .inr (.inr (some 39))), (1, .inl a1), (2, .inl a2)]) (st' := [.inr (.inr (some 39))]) (h' := gc_h sh I J A) (C := (True ∧ True)) rfl ⟨trivial, trivial⟩ ?_
  refine gv_get hD rfl rfl S_39 ⟨by decide, B_39⟩ (gc_hA S_39 rfl A_39_1) ?_
  show gv_X _ _ (4, [(0, .inr (.inr (some 39))), (1, .inl a1), (2, .inl a2)], [.inr (.inr (some 23))], sh, gc_h sh I J A)
  have f153 := (show 0 ≤ I 23 7 ∧ I 23 7 ≤ 125 from gc_in hI R_23 rfl rfl)
  refine gv_get hD rfl rfl S_23 ⟨by decide, B_23⟩ (gc_hI S_23 rfl) ?_
  show gv_X _ _ (7, [(0, .inr (.inr (some 39))), (1, .inl a1), (2, .inl a2)], [.inl (I 23 7)], sh, gc_h sh I J A)
  refine gv_run 3 true hD (pc' := 11) (lv' := [(3, .inl (I 23 7)), (0, .inr (.inr (some 39))), (1, .inl a1), (2, .inl a2)]) (st' := [.inl 92, .inl (I 23 7)]) (h' := gc_h sh I J A) (C := (((True ∧ True) ∧ True) ∧ True)) rfl ⟨⟨⟨trivial, trivial⟩, trivial⟩, trivial⟩ ?_
  refine gv_icmp_eq (t := 43) hD rfl rfl ⟨⟨by omega, by omega⟩, ⟨by omega, by omega⟩⟩ (fun c154 => ?_) (fun c154 => ?_)
  · show gv_X _ _ (43, [(3, .inl (I 23 7)), (0, .inr (.inr (some 39))), (1, .inl a1), (2, .inl a2)], [], sh, gc_h sh I J A)
    refine gv_pick [1, 2, 3, 0] rfl ?_
    exact L43 (I 23 7) (by omega)
  · show gv_X _ _ (14, [(3, .inl (I 23 7)), (0, .inr (.inr (some 39))), (1, .inl a1), (2, .inl a2)], [], sh, gc_h sh I J A)
    refine gv_run 2 true hD (pc' := 17) (lv' := [(3, .inl (I 23 7)), (0, .inr (.inr (some 39))), (1, .inl a1), (2, .inl a2)]) (st' := [.inl 40, .inl (I 23 7)]) (h' := gc_h sh I J A) (C := ((True ∧ True) ∧ True)) rfl ⟨⟨trivial, trivial⟩, trivial⟩ ?_
    refine gv_icmp_eq (t := 43) hD rfl rfl ⟨⟨by omega, by omega⟩, ⟨by omega, by omega⟩⟩ (fun c155 => ?_) (fun c155 => ?_)
    · show gv_X _ _ (43, [(3, .inl (I 23 7)), (0, .inr (.inr (some 39))), (1, .inl a1), (2, .inl a2)], [], sh, gc_h sh I J A)
      refine gv_pick [1, 2, 3, 0] rfl ?_
      exact L43 (I 23 7) (by omega)
    · show gv_X _ _ (20, [(3, .inl (I 23 7)), (0, .inr (.inr (some 39))), (1, .inl a1), (2, .inl a2)], [], sh, gc_h sh I J A)
      refine gv_run 2 true hD (pc' := 22) (lv' := [(3, .inl (I 23 7)), (0, .inr (.inr (some 39))), (1, .inl a1), (2, .inl a2)]) (st' := [.inl 1, .inl (I 23 7)]) (h' := gc_h sh I J A) (C := ((True ∧ True) ∧ True)) rfl ⟨⟨trivial, trivial⟩, trivial⟩ ?_
      refine gv_icmp_eq (t := 43) hD rfl rfl ⟨⟨by omega, by omega⟩, ⟨by omega, by omega⟩⟩ (fun c156 => ?_) (fun c156 => ?_)
      · show gv_X _ _ (43, [(3, .inl (I 23 7)), (0, .inr (.inr (some 39))), (1, .inl a1), (2, .inl a2)], [], sh, gc_h sh I J A)
        refine gv_pick [1, 2, 3, 0] rfl ?_
        exact L43 (I 23 7) (by omega)
      · show gv_X _ _ (25, [(3, .inl (I 23 7)), (0, .inr (.inr (some 39))), (1, .inl a1), (2, .inl a2)], [], sh, gc_h sh I J A)
        refine gv_run 2 true hD (pc' := 27) (lv' := [(3, .inl (I 23 7)), (0, .inr (.inr (some 39))), (1, .inl a1), (2, .inl a2)]) (st' := [.inl 2, .inl (I 23 7)]) (h' := gc_h sh I J A) (C := ((True ∧ True) ∧ True)) rfl ⟨⟨trivial, trivial⟩, trivial⟩ ?_
        refine gv_icmp_eq (t := 43) hD rfl rfl ⟨⟨by omega, by omega⟩, ⟨by omega, by omega⟩⟩ (fun c157 => ?_) (fun c157 => ?_)
        · show gv_X _ _ (43, [(3, .inl (I 23 7)), (0, .inr (.inr (some 39))), (1, .inl a1), (2, .inl a2)], [], sh, gc_h sh I J A)
          refine gv_pick [1, 2, 3, 0] rfl ?_
          exact L43 (I 23 7) (by omega)
        · show gv_X _ _ (30, [(3, .inl (I 23 7)), (0, .inr (.inr (some 39))), (1, .inl a1), (2, .inl a2)], [], sh, gc_h sh I J A)
          refine gv_run 3 true hD (pc' := 33) (lv' := [(3, .inl (I 23 7)), (0, .inr (.inr (some 39))), (1, .inl a1), (2, .inl a2)]) (st' := [.inr (.inr (some 39)), .inl 1, .inr (.inr (some 39))]) (h' := gc_h sh I J A) (C := (((True ∧ True) ∧ True) ∧ True)) rfl ⟨⟨⟨trivial, trivial⟩, trivial⟩, trivial⟩ ?_
          refine gv_get hD rfl rfl S_39 ⟨by decide, B_39⟩ (gc_hA S_39 rfl A_39_1) ?_
          show gv_X _ _ (36, [(3, .inl (I 23 7)), (0, .inr (.inr (some 39))), (1, .inl a1), (2, .inl a2)], [.inr (.inr (some 23)), .inl 1, .inr (.inr (some 39))], sh, gc_h sh I J A)
          have f158 := (show 0 ≤ I 23 5 ∧ I 23 5 ≤ 1000 from gc_in hI R_23 rfl rfl)
          refine gv_get hD rfl rfl S_23 ⟨by decide, B_23⟩ (gc_hI S_23 rfl) ?_
          show gv_X _ _ (39, [(3, .inl (I 23 7)), (0, .inr (.inr (some 39))), (1, .inl a1), (2, .inl a2)], [.inl (I 23 5), .inl 1, .inr (.inr (some 39))], sh, gc_h sh I J A)
          obtain ⟨r159, h159, E159, P159⟩ := d_X6_wrong (ws0 := ws0) (tb := tb) hws htb sh ro I J A hI  1 (I 23 5) hb   ⟨by omega, by omega⟩ ⟨by omega, by omega⟩  
          obtain ⟨I160, J161, rfl, hI160, g159, k159, ⟨z159, rfl, q159⟩⟩ := P159
          have FI160 := gc_frc (W := fun q j => (q = 39 ∧ j = 3) ∨ (q = 39 ∧ j = 4) ∨ (q = 23 ∧ j = 5) ∨ (q = 23 ∧ j = 6) ∨ (q = 23 ∧ j = 7) ∨ (q = 23 ∧ j = 8) ∨ (q = 39 ∧ j = 12) ∨ (q = 39 ∧ j = 15) ∨ q = 43) (V := fun q j => (q = 39 ∧ j = 3) ∨ (q = 39 ∧ j = 4)) FI (fun q j h => (h.elim (fun h => (Or.inl h)) (fun h => (Or.inr (Or.inl h))))) g159
          have t162 := (g159 23 1).resolve_left (fun h => h.elim (fun h => absurd h.2 (by decide)) (fun h => absurd h.2 (by decide)))
          have t163 := (g159 23 5).resolve_left (fun h => h.elim (fun h => absurd h.2 (by decide)) (fun h => absurd h.2 (by decide)))
          have t164 := (g159 23 6).resolve_left (fun h => h.elim (fun h => absurd h.2 (by decide)) (fun h => absurd h.2 (by decide)))
          have t165 := (g159 23 7).resolve_left (fun h => h.elim (fun h => absurd h.2 (by decide)) (fun h => absurd h.2 (by decide)))
          have t166 := (g159 39 12).resolve_left (fun h => h.elim (fun h => absurd h.2 (by decide)) (fun h => absurd h.2 (by decide)))
          have t167 := (g159 39 15).resolve_left (fun h => h.elim (fun h => absurd h.2 (by decide)) (fun h => absurd h.2 (by decide)))
          have t168 := (g159 12 (Int.toNat a1)).resolve_left (fun h => h.elim (fun h => absurd h.1 (by decide)) (fun h => absurd h.1 (by decide)))
          obtain rfl : J = J161 := funext fun q => funext fun j => ((k159 q j).resolve_left id).symm
          have KLT_I160 := gc_LT_fr KLT_I ((g159 23 5).resolve_left (fun h => h.elim (fun h => absurd h.2 (by decide)) (fun h => absurd h.2 (by decide)))) ((g159 23 6).resolve_left (fun h => h.elim (fun h => absurd h.2 (by decide)) (fun h => absurd h.2 (by decide)))) ((g159 23 7).resolve_left (fun h => h.elim (fun h => absurd h.2 (by decide)) (fun h => absurd h.2 (by decide)))) (fun k => (g159 24 k).resolve_left (fun h => h.elim (fun h => absurd h.1 (by decide)) (fun h => absurd h.1 (by decide))))
          have KTK_I160 := gc_TK_fr KTK_I ((g159 23 1).resolve_left (fun h => h.elim (fun h => absurd h.2 (by decide)) (fun h => absurd h.2 (by decide)))) ((g159 23 5).resolve_left (fun h => h.elim (fun h => absurd h.2 (by decide)) (fun h => absurd h.2 (by decide)))) ((g159 23 6).resolve_left (fun h => h.elim (fun h => absurd h.2 (by decide)) (fun h => absurd h.2 (by decide)))) ((g159 23 7).resolve_left (fun h => h.elim (fun h => absurd h.2 (by decide)) (fun h => absurd h.2 (by decide))))
          have KTO_I160 := gc_TO_fr KTO_I ((g159 39 12).resolve_left (fun h => h.elim (fun h => absurd h.2 (by decide)) (fun h => absurd h.2 (by decide)))) (fun k => (g159 43 k).resolve_left (fun h => h.elim (fun h => absurd h.1 (by decide)) (fun h => absurd h.1 (by decide))))
          refine gv_callV hD rfl (As := [.inl 1, .inl (I 23 5)]) (st := []) rfl B_39 S_39 rfl (gc_lV6 hws rfl) (Nat.le_of_ble_eq_true rfl) (gz_Ev_mono (d := 1) (by omega) E159) ?_
          show gv_X _ _ (42, [(3, .inl (I 23 7)), (0, .inr (.inr (some 39))), (1, .inl a1), (2, .inl a2)], [.inl z159], sh, gc_h sh I160 J A)
          exact gv_zret hD rfl (by omega) ⟨I160, J, rfl, hI160, FI160, FJ, KLT_I160, KTK_I160, KTO_I160, ⟨_, rfl, by omega, by omega, by omega, by omega, by omega, by omega, by omega, (Or.inl (by omega))⟩⟩
