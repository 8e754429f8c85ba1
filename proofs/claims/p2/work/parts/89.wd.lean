set_option maxHeartbeats 4000000 in
set_option maxRecDepth 100000 in
theorem d_X6_readMean_a {ws0 : List Cond} {tb : String → gz_T} (hws : gc_Ws ws0) (htb : gc_tbs tb) (sh : gz_Sh) (ro : Nat → Nat) (I : gr_I) (J : gr_J) (A : gc_A) (hI : gc_Inv ro I)  (hb : gc_Base sh ro A)  (KLT_I : gc_LT I) (KTK_I : gc_TK I) (KMS_I : gc_MS I) : ∃ r h', gz_Ev ws0 tb 91 (yX6_readMean, cX6_readMean, 2, (some .boolean)) [.inr (.inr (some 39))] sh (gc_h sh I J A) r sh h' 0 0 ∧ (∃ (I' : gr_I) (J' : gr_J), h' = gc_h sh I' J' A ∧ gc_Inv ro I' ∧ (∀ q j : Nat, ((q = 39 ∧ j = 3) ∨ (q = 39 ∧ j = 4) ∨ (q = 23 ∧ j = 5) ∨ (q = 23 ∧ j = 6) ∨ (q = 23 ∧ j = 7) ∨ (q = 23 ∧ j = 8) ∨ (q = 39 ∧ j = 12) ∨ (q = 39 ∧ j = 15) ∨ q = 43 ∨ (q = 15 ∧ (I 15 j ≤ 0)) ∨ (q = 16 ∧ (I 15 (j / 40) ≤ 0))) ∨ I' q j = I q j) ∧ (∀ q j : Nat, ((q = 23 ∧ j = 9) ∨ q = 44 ∨ q = 45 ∨ q = 17) ∨ J' q j = J q j) ∧ gc_LT I' ∧ gc_TK I' ∧ gc_MS I' ∧ (∃ z : Int, r = some (.inl z) ∧ 0 ≤ z ∧ z ≤ 1 ∧ (I' 23 1 = I 23 1) ∧ (I 23 5 ≤ I' 23 5))) := by
  have FI : ∀ q j : Nat, ((q = 39 ∧ j = 3) ∨ (q = 39 ∧ j = 4) ∨ (q = 23 ∧ j = 5) ∨ (q = 23 ∧ j = 6) ∨ (q = 23 ∧ j = 7) ∨ (q = 23 ∧ j = 8) ∨ (q = 39 ∧ j = 12) ∨ (q = 39 ∧ j = 15) ∨ q = 43 ∨ (q = 15 ∧ (I 15 j ≤ 0)) ∨ (q = 16 ∧ (I 15 (j / 40) ≤ 0))) ∨ I q j = I q j := fun _ _ => Or.inr rfl
  have FJ : ∀ q j : Nat, ((q = 23 ∧ j = 9) ∨ q = 44 ∨ q = 45 ∨ q = 17) ∨ J q j = J q j := fun _ _ => Or.inr rfl
  have A_1_1 : A 1 1 = some 4 := gc_bA hb rfl
  have A_1_10 : A 1 10 = some 15 := gc_bA hb rfl
  have A_1_11 : A 1 11 = some 16 := gc_bA hb rfl
  have A_1_12 : A 1 12 = some 17 := gc_bA hb rfl
  have A_39_0 : A 39 0 = some 1 := gc_bA hb rfl
  have A_39_1 : A 39 1 = some 23 := gc_bA hb rfl
  have A_39_13 : A 39 13 = some 43 := gc_bA hb rfl
  have A_39_14 : A 39 14 = some 44 := gc_bA hb rfl
  have B_1 : 1 < 1000000 := by decide
  have B_15 : 15 < 1000000 := by decide
  have B_16 : 16 < 1000000 := by decide
  have B_17 : 17 < 1000000 := by decide
  have B_23 : 23 < 1000000 := by decide
  have B_39 : 39 < 1000000 := by decide
  have B_4 : 4 < 1000000 := by decide
  have B_43 : 43 < 1000000 := by decide
  have B_44 : 44 < 1000000 := by decide
  have R_12 : ro 12 = 26 := gc_bR hb (by decide) rfl
  have R_15 : ro 15 = 28 := gc_bR hb (by decide) rfl
  have R_16 : ro 16 = 50 := gc_bR hb (by decide) rfl
  have R_17 : ro 17 = 0 := gc_bR hb (by decide) rfl
  have R_23 : ro 23 = 3 := gc_bR hb (by decide) rfl
  have R_39 : ro 39 = 42 := gc_bR hb (by decide) rfl
  have R_4 : ro 4 = 11 := gc_bR hb (by decide) rfl
  have R_43 : ro 43 = 50 := gc_bR hb (by decide) rfl
  have R_44 : ro 44 = 0 := gc_bR hb (by decide) rfl
  have S_1 : sh[1]? = some (false, 8, 21) := gc_bS hb rfl
  have S_15 : sh[15]? = some (true, 1, 96) := gc_bS hb rfl
  have S_16 : sh[16]? = some (true, 1, 3840) := gc_bS hb rfl
  have S_17 : sh[17]? = some (true, 2, 3840) := gc_bS hb rfl
  have S_23 : sh[23]? = some (false, 9, 10) := gc_bS hb rfl
  have S_39 : sh[39]? = some (false, 6, 19) := gc_bS hb rfl
  have S_4 : sh[4]? = some (false, 4, 2) := gc_bS hb rfl
  have S_43 : sh[43]? = some (true, 1, 40) := gc_bS hb rfl
  have S_44 : sh[44]? = some (true, 2, 40) := gc_bS hb rfl
  have hD : gv_D (gc_E6 ws0 tb 90 (yX6_readMean, cX6_readMean, 2, (some .boolean)) kX6_readMean) := gq_ok oX6_readMean
  refine gc_ev6 (d := 90) (l := kX6_readMean) (Po := fun r h' => (∃ (I' : gr_I) (J' : gr_J), h' = gc_h sh I' J' A ∧ gc_Inv ro I' ∧ (∀ q j : Nat, ((q = 39 ∧ j = 3) ∨ (q = 39 ∧ j = 4) ∨ (q = 23 ∧ j = 5) ∨ (q = 23 ∧ j = 6) ∨ (q = 23 ∧ j = 7) ∨ (q = 23 ∧ j = 8) ∨ (q = 39 ∧ j = 12) ∨ (q = 39 ∧ j = 15) ∨ q = 43 ∨ (q = 15 ∧ (I 15 j ≤ 0)) ∨ (q = 16 ∧ (I 15 (j / 40) ≤ 0))) ∨ I' q j = I q j) ∧ (∀ q j : Nat, ((q = 23 ∧ j = 9) ∨ q = 44 ∨ q = 45 ∨ q = 17) ∨ J' q j = J q j) ∧ gc_LT I' ∧ gc_TK I' ∧ gc_MS I' ∧ (∃ z : Int, r = some (.inl z) ∧ 0 ≤ z ∧ z ≤ 1 ∧ (I' 23 1 = I 23 1) ∧ (I 23 5 ≤ I' 23 5)))) htb rfl (Nat.le_of_ble_eq_true rfl) ?_
  have t1 := gc_TK_mo KTK_I
  have f2 := (show 0 ≤ I 23 1 ∧ I 23 1 ≤ 1000 from gc_in hI R_23 rfl rfl)
  have f3 := (show 0 ≤ I 23 5 ∧ I 23 5 ≤ 1000 from gc_in hI R_23 rfl rfl)
  have f4 := (show 0 ≤ I 23 6 ∧ I 23 6 ≤ 1001 from gc_in hI R_23 rfl rfl)
  have f5 := (show 0 ≤ I 23 7 ∧ I 23 7 ≤ 125 from gc_in hI R_23 rfl rfl)
  have f6 := (show 0 ≤ I 39 12 ∧ I 39 12 ≤ 2000 from gc_in hI R_39 rfl rfl)
  have f7 := (show 0 ≤ I 39 15 ∧ I 39 15 ≤ 41 from gc_in hI R_39 rfl rfl)
  have f8 := (show 0 ≤ I 4 1 ∧ I 4 1 ≤ 96 from gc_in hI R_4 rfl rfl)
  have L115 : ∀ (I9 : gr_I) (J10 : gr_J) , gc_Inv ro I9 → (∀ q j : Nat, ((q = 39 ∧ j = 3) ∨ (q = 39 ∧ j = 4) ∨ (q = 23 ∧ j = 5) ∨ (q = 23 ∧ j = 6) ∨ (q = 23 ∧ j = 7) ∨ (q = 23 ∧ j = 8) ∨ (q = 39 ∧ j = 12) ∨ (q = 39 ∧ j = 15) ∨ q = 43 ∨ (q = 15 ∧ (I 15 j ≤ 0)) ∨ (q = 16 ∧ (I 15 (j / 40) ≤ 0))) ∨ I9 q j = I q j) → (∀ q j : Nat, ((q = 23 ∧ j = 9) ∨ q = 44 ∨ q = 45 ∨ q = 17) ∨ J10 q j = J q j) → gc_MS I9 → gc_LT I9 → gc_TK I9 → ((I9 23 1 = I 23 1) ∧ (I 23 5 ≤ I9 23 5)) → gv_X (gc_E6 ws0 tb 90 (yX6_readMean, cX6_readMean, 2, (some .boolean)) kX6_readMean) (gv_Q cX6_readMean (some .boolean) sh (fun r h' => (∃ (I' : gr_I) (J' : gr_J), h' = gc_h sh I' J' A ∧ gc_Inv ro I' ∧ (∀ q j : Nat, ((q = 39 ∧ j = 3) ∨ (q = 39 ∧ j = 4) ∨ (q = 23 ∧ j = 5) ∨ (q = 23 ∧ j = 6) ∨ (q = 23 ∧ j = 7) ∨ (q = 23 ∧ j = 8) ∨ (q = 39 ∧ j = 12) ∨ (q = 39 ∧ j = 15) ∨ q = 43 ∨ (q = 15 ∧ (I 15 j ≤ 0)) ∨ (q = 16 ∧ (I 15 (j / 40) ≤ 0))) ∨ I' q j = I q j) ∧ (∀ q j : Nat, ((q = 23 ∧ j = 9) ∨ q = 44 ∨ q = 45 ∨ q = 17) ∨ J' q j = J q j) ∧ gc_LT I' ∧ gc_TK I' ∧ gc_MS I' ∧ (∃ z : Int, r = some (.inl z) ∧ 0 ≤ z ∧ z ≤ 1 ∧ (I' 23 1 = I 23 1) ∧ (I 23 5 ≤ I' 23 5))))) (115, [], [], sh, gc_h sh I9 J10 A) := by
    intro I9 J10 hI9 FI9 FJ10 KMS_I9 KLT_I9 KTK_I9 m_11
    obtain ⟨e0_11, e1_11⟩ := m_11
    have t12 := gc_TK_mo KTK_I9
    have f13 := (show 0 ≤ I9 23 1 ∧ I9 23 1 ≤ 1000 from gc_in hI9 R_23 rfl rfl)
    have f14 := (show 0 ≤ I9 23 5 ∧ I9 23 5 ≤ 1000 from gc_in hI9 R_23 rfl rfl)
    have f15 := (show 0 ≤ I9 23 6 ∧ I9 23 6 ≤ 1001 from gc_in hI9 R_23 rfl rfl)
    have f16 := (show 0 ≤ I9 23 7 ∧ I9 23 7 ≤ 125 from gc_in hI9 R_23 rfl rfl)
    have f17 := (show 0 ≤ I9 39 12 ∧ I9 39 12 ≤ 2000 from gc_in hI9 R_39 rfl rfl)
    have f18 := (show 0 ≤ I9 39 15 ∧ I9 39 15 ≤ 41 from gc_in hI9 R_39 rfl rfl)
    have f19 := (show 0 ≤ I9 4 1 ∧ I9 4 1 ≤ 96 from gc_in hI9 R_4 rfl rfl)
    refine gv_run 1 true hD (pc' := 116) (lv' := []) (st' := [.inl 0]) (h' := gc_h sh I9 J10 A) (C := (True ∧ True)) rfl ⟨trivial, trivial⟩ ?_
    exact gv_zret hD rfl (by omega) ⟨I9, J10, rfl, hI9, FI9, FJ10, KLT_I9, KTK_I9, KMS_I9, ⟨_, rfl, by omega⟩⟩
  refine gv_run 2 true hD (pc' := 2) (lv' := [(0, .inr (.inr (some 39)))]) (st' := [.inr (.inr (some 39)), .inr (.inr (some 39))]) (h' := gc_h sh I J A) (C := ((True ∧ True) ∧ True)) rfl ⟨⟨trivial, trivial⟩, trivial⟩ ?_
  refine gv_get hD rfl rfl S_39 ⟨by decide, B_39⟩ (gc_hA S_39 rfl A_39_0) ?_
  show gv_X _ _ (5, [(0, .inr (.inr (some 39)))], [.inr (.inr (some 1)), .inr (.inr (some 39))], sh, gc_h sh I J A)
  refine gv_get hD rfl rfl S_1 ⟨by decide, B_1⟩ (gc_hA S_1 rfl A_1_1) ?_
  show gv_X _ _ (8, [(0, .inr (.inr (some 39)))], [.inr (.inr (some 4)), .inr (.inr (some 39))], sh, gc_h sh I J A)
  obtain ⟨r20, h20, E20, P20⟩ := d_X6_needKnown (ws0 := ws0) (tb := tb) hws htb sh ro I J A hI  96 11 4 hb (gc_b4 hb)    
  obtain ⟨I21, J22, rfl, hI21, g20, k20, ⟨z20, rfl, q20⟩⟩ := P20
  have FI21 := gc_frc (W := fun q j => (q = 39 ∧ j = 3) ∨ (q = 39 ∧ j = 4) ∨ (q = 23 ∧ j = 5) ∨ (q = 23 ∧ j = 6) ∨ (q = 23 ∧ j = 7) ∨ (q = 23 ∧ j = 8) ∨ (q = 39 ∧ j = 12) ∨ (q = 39 ∧ j = 15) ∨ q = 43 ∨ (q = 15 ∧ (I 15 j ≤ 0)) ∨ (q = 16 ∧ (I 15 (j / 40) ≤ 0))) (V := fun q j => (q = 39 ∧ j = 3) ∨ (q = 39 ∧ j = 4)) FI (fun q j h => (h.elim (fun h => (Or.inl h)) (fun h => (Or.inr (Or.inl h))))) g20
  have t23 := (g20 23 1).resolve_left (fun h => h.elim (fun h => absurd h.2 (by decide)) (fun h => absurd h.2 (by decide)))
  have t24 := (g20 23 5).resolve_left (fun h => h.elim (fun h => absurd h.2 (by decide)) (fun h => absurd h.2 (by decide)))
  have t25 := (g20 23 6).resolve_left (fun h => h.elim (fun h => absurd h.2 (by decide)) (fun h => absurd h.2 (by decide)))
  have t26 := (g20 23 7).resolve_left (fun h => h.elim (fun h => absurd h.2 (by decide)) (fun h => absurd h.2 (by decide)))
  have t27 := (g20 39 12).resolve_left (fun h => h.elim (fun h => absurd h.2 (by decide)) (fun h => absurd h.2 (by decide)))
  have t28 := (g20 39 15).resolve_left (fun h => h.elim (fun h => absurd h.2 (by decide)) (fun h => absurd h.2 (by decide)))
  have t29 := (g20 4 1).resolve_left (fun h => h.elim (fun h => absurd h.2 (by decide)) (fun h => absurd h.2 (by decide)))
  obtain rfl : J = J22 := funext fun q => funext fun j => ((k20 q j).resolve_left id).symm
  have KLT_I21 := gc_LT_fr KLT_I ((g20 23 5).resolve_left (fun h => h.elim (fun h => absurd h.2 (by decide)) (fun h => absurd h.2 (by decide)))) ((g20 23 6).resolve_left (fun h => h.elim (fun h => absurd h.2 (by decide)) (fun h => absurd h.2 (by decide)))) ((g20 23 7).resolve_left (fun h => h.elim (fun h => absurd h.2 (by decide)) (fun h => absurd h.2 (by decide)))) (fun k => (g20 24 k).resolve_left (fun h => h.elim (fun h => absurd h.1 (by decide)) (fun h => absurd h.1 (by decide))))
  have KTK_I21 := gc_TK_fr KTK_I ((g20 23 1).resolve_left (fun h => h.elim (fun h => absurd h.2 (by decide)) (fun h => absurd h.2 (by decide)))) ((g20 23 5).resolve_left (fun h => h.elim (fun h => absurd h.2 (by decide)) (fun h => absurd h.2 (by decide)))) ((g20 23 6).resolve_left (fun h => h.elim (fun h => absurd h.2 (by decide)) (fun h => absurd h.2 (by decide)))) ((g20 23 7).resolve_left (fun h => h.elim (fun h => absurd h.2 (by decide)) (fun h => absurd h.2 (by decide))))
  have KMS_I21 := gc_MS_fr KMS_I (Int.le_of_eq ((g20 4 1).resolve_left (fun h => h.elim (fun h => absurd h.2 (by decide)) (fun h => absurd h.2 (by decide)))).symm) (fun k => (g20 12 k).resolve_left (fun h => h.elim (fun h => absurd h.1 (by decide)) (fun h => absurd h.1 (by decide)))) (fun k => (g20 15 k).resolve_left (fun h => h.elim (fun h => absurd h.1 (by decide)) (fun h => absurd h.1 (by decide)))) (fun k => (g20 16 k).resolve_left (fun h => h.elim (fun h => absurd h.1 (by decide)) (fun h => absurd h.1 (by decide))))
  refine gv_callV hD rfl (As := [.inr (.inr (some 4))]) (st := []) rfl B_39 S_39 rfl (gc_lV6 hws rfl) (Nat.le_of_ble_eq_true rfl) (gz_Ev_mono (d := 3) (by decide) E20) ?_
  show gv_X _ _ (11, [(0, .inr (.inr (some 39)))], [.inl z20], sh, gc_h sh I21 J A)
  refine gv_if_ne (t := 16) hD rfl rfl ⟨by omega, by omega⟩ (fun c30 => ?_) (fun c30 => ?_)
  · show gv_X _ _ (16, [(0, .inr (.inr (some 39)))], [], sh, gc_h sh I21 J A)
    refine gv_run 1 true hD (pc' := 17) (lv' := [(0, .inr (.inr (some 39)))]) (st' := [.inr (.inr (some 39))]) (h' := gc_h sh I21 J A) (C := (True ∧ True)) rfl ⟨trivial, trivial⟩ ?_
    refine gv_get hD rfl rfl S_39 ⟨by decide, B_39⟩ (gc_hA S_39 rfl A_39_0) ?_
    show gv_X _ _ (20, [(0, .inr (.inr (some 39)))], [.inr (.inr (some 1))], sh, gc_h sh I21 J A)
    refine gv_get hD rfl rfl S_1 ⟨by decide, B_1⟩ (gc_hA S_1 rfl A_1_1) ?_
    show gv_X _ _ (23, [(0, .inr (.inr (some 39)))], [.inr (.inr (some 4))], sh, gc_h sh I21 J A)
    refine gv_run 1 true hD (pc' := 24) (lv' := [(0, .inr (.inr (some 39)))]) (st' := [.inr (.inr (some 39)), .inr (.inr (some 4))]) (h' := gc_h sh I21 J A) (C := (True ∧ True)) rfl ⟨trivial, trivial⟩ ?_
    refine gv_get hD rfl rfl S_39 ⟨by decide, B_39⟩ (gc_hA S_39 rfl A_39_1) ?_
    show gv_X _ _ (27, [(0, .inr (.inr (some 39)))], [.inr (.inr (some 23)), .inr (.inr (some 4))], sh, gc_h sh I21 J A)
    refine gv_get hD rfl rfl S_23 ⟨by decide, B_23⟩ (gc_hJ S_23 rfl) ?_
    show gv_X _ _ (30, [(0, .inr (.inr (some 39)))], [.inr (.inl (J 23 9)), .inr (.inr (some 4))], sh, gc_h sh I21 J A)
    obtain ⟨r31, h31, E31, P31⟩ := d_X4_find (ws0 := ws0) (tb := tb) hws htb sh ro I21 J A hI21 4 96 11 (J 23 9) (gc_b4 hb)     
    obtain ⟨rfl, ⟨z31, rfl, q31⟩⟩ := P31
    refine gv_callV hD rfl (As := [.inr (.inl (J 23 9))]) (st := []) rfl B_4 S_4 rfl (gc_lV6 hws rfl) (Nat.le_of_ble_eq_true rfl) (gz_Ev_mono (d := 1) (by decide) E31) ?_
    show gv_X _ _ (33, [(0, .inr (.inr (some 39)))], [.inl z31], sh, gc_h sh I21 J A)
    refine gv_run 2 true hD (pc' := 35) (lv' := [(1, .inl z31), (0, .inr (.inr (some 39)))]) (st' := [.inr (.inr (some 39))]) (h' := gc_h sh I21 J A) (C := ((True ∧ True) ∧ True)) rfl ⟨⟨trivial, trivial⟩, trivial⟩ ?_
    refine gv_get hD rfl rfl S_39 ⟨by decide, B_39⟩ (gc_hA S_39 rfl A_39_0) ?_
    show gv_X _ _ (38, [(1, .inl z31), (0, .inr (.inr (some 39)))], [.inr (.inr (some 1))], sh, gc_h sh I21 J A)
    refine gv_get hD rfl rfl S_1 ⟨by decide, B_1⟩ (gc_hA S_1 rfl A_1_10) ?_
    show gv_X _ _ (41, [(1, .inl z31), (0, .inr (.inr (some 39)))], [.inr (.inr (some 15))], sh, gc_h sh I21 J A)
    refine gv_run 1 true hD (pc' := 42) (lv' := [(1, .inl z31), (0, .inr (.inr (some 39)))]) (st' := [.inl z31, .inr (.inr (some 15))]) (h' := gc_h sh I21 J A) (C := (True ∧ True)) rfl ⟨trivial, trivial⟩ ?_
    have f32 := (show 0 ≤ I21 15 (Int.toNat z31) ∧ I21 15 (Int.toNat z31) ≤ 40 from gc_in hI21 R_15 rfl rfl)
    refine gv_iald hD rfl S_15 rfl ⟨by decide, B_15⟩ ⟨by omega, by omega⟩ (gc_iI S_15 rfl) ?_
    show gv_X _ _ (43, [(1, .inl z31), (0, .inr (.inr (some 39)))], [.inl (I21 15 (Int.toNat z31))], sh, gc_h sh I21 J A)
    refine gv_if_le (t := 59) hD rfl rfl ⟨by omega, by omega⟩ (fun c33 => ?_) (fun c33 => ?_)
    · show gv_X _ _ (59, [(1, .inl z31), (0, .inr (.inr (some 39)))], [], sh, gc_h sh I21 J A)
      have t34 := (show I 15 (Int.toNat z31) ≤ 0 from by have h9 := FI21 15 (Int.toNat z31); omega)
      refine gv_run 1 true hD (pc' := 60) (lv' := [(1, .inl z31), (0, .inr (.inr (some 39)))]) (st' := [.inr (.inr (some 39))]) (h' := gc_h sh I21 J A) (C := (True ∧ True)) rfl ⟨trivial, trivial⟩ ?_
      refine gv_get hD rfl rfl S_39 ⟨by decide, B_39⟩ (gc_hA S_39 rfl A_39_1) ?_
      show gv_X _ _ (63, [(1, .inl z31), (0, .inr (.inr (some 39)))], [.inr (.inr (some 23))], sh, gc_h sh I21 J A)
      have t36 := gc_TK_nx KTK_I21 (by omega)
      have t37 := gc_TK_st KTK_I21 (by omega)
      obtain ⟨r35, h35, E35, P35⟩ := d_X9_advance (ws0 := ws0) (tb := tb) hws htb sh ro I21 J A hI21 23  (gc_b23 hb)    (by omega) 
      obtain ⟨I38, J39, rfl, hI38, g35, k35, ⟨rfl, V35_0, V35_1, V35_2, V35_3, V35_4, q35⟩⟩ := P35
      have FI38 := gc_frc (W := fun q j => (q = 39 ∧ j = 3) ∨ (q = 39 ∧ j = 4) ∨ (q = 23 ∧ j = 5) ∨ (q = 23 ∧ j = 6) ∨ (q = 23 ∧ j = 7) ∨ (q = 23 ∧ j = 8) ∨ (q = 39 ∧ j = 12) ∨ (q = 39 ∧ j = 15) ∨ q = 43 ∨ (q = 15 ∧ (I 15 j ≤ 0)) ∨ (q = 16 ∧ (I 15 (j / 40) ≤ 0))) (V := fun q j => (q = 23 ∧ j = 5) ∨ (q = 23 ∧ j = 6) ∨ (q = 23 ∧ j = 7) ∨ (q = 23 ∧ j = 8)) FI21 (fun q j h => (h.elim (fun h => (Or.inr (Or.inr (Or.inl h)))) (fun h => (h.elim (fun h => (Or.inr (Or.inr (Or.inr (Or.inl h))))) (fun h => (h.elim (fun h => (Or.inr (Or.inr (Or.inr (Or.inr (Or.inl h)))))) (fun h => (Or.inr (Or.inr (Or.inr (Or.inr (Or.inr (Or.inl h))))))))))))) g35
      have FJ39 := gc_frc (W := fun q j => (q = 23 ∧ j = 9) ∨ q = 44 ∨ q = 45 ∨ q = 17) (V := fun q j => (q = 23 ∧ j = 9)) FJ (fun q j h => (Or.inl h)) k35
      have t40 := (g35 23 1).resolve_left (fun h => h.elim (fun h => absurd h.2 (by decide)) (fun h => h.elim (fun h => absurd h.2 (by decide)) (fun h => h.elim (fun h => absurd h.2 (by decide)) (fun h => absurd h.2 (by decide)))))
      have t41 := (g35 39 12).resolve_left (fun h => h.elim (fun h => absurd h.2 (by decide)) (fun h => h.elim (fun h => absurd h.2 (by decide)) (fun h => h.elim (fun h => absurd h.2 (by decide)) (fun h => absurd h.2 (by decide)))))
      have t42 := (g35 39 15).resolve_left (fun h => h.elim (fun h => absurd h.2 (by decide)) (fun h => h.elim (fun h => absurd h.2 (by decide)) (fun h => h.elim (fun h => absurd h.2 (by decide)) (fun h => absurd h.2 (by decide)))))
      have t43 := (g35 4 1).resolve_left (fun h => h.elim (fun h => absurd h.2 (by decide)) (fun h => h.elim (fun h => absurd h.2 (by decide)) (fun h => h.elim (fun h => absurd h.2 (by decide)) (fun h => absurd h.2 (by decide)))))
      have f44 := (show 0 ≤ I38 23 5 ∧ I38 23 5 ≤ 1000 from gc_in hI38 R_23 rfl rfl)
      have f45 := (show 0 ≤ I38 23 6 ∧ I38 23 6 ≤ 1001 from gc_in hI38 R_23 rfl rfl)
      have f46 := (show 0 ≤ I38 23 7 ∧ I38 23 7 ≤ 125 from gc_in hI38 R_23 rfl rfl)
      have KLT_I38 : gc_LT I38 := q35.2.2
      have KMS_I38 := gc_MS_fr KMS_I21 (Int.le_of_eq ((g35 4 1).resolve_left (fun h => h.elim (fun h => absurd h.2 (by decide)) (fun h => h.elim (fun h => absurd h.2 (by decide)) (fun h => h.elim (fun h => absurd h.2 (by decide)) (fun h => absurd h.2 (by decide)))))).symm) (fun k => (g35 12 k).resolve_left (fun h => h.elim (fun h => absurd h.1 (by decide)) (fun h => h.elim (fun h => absurd h.1 (by decide)) (fun h => h.elim (fun h => absurd h.1 (by decide)) (fun h => absurd h.1 (by decide)))))) (fun k => (g35 15 k).resolve_left (fun h => h.elim (fun h => absurd h.1 (by decide)) (fun h => h.elim (fun h => absurd h.1 (by decide)) (fun h => h.elim (fun h => absurd h.1 (by decide)) (fun h => absurd h.1 (by decide)))))) (fun k => (g35 16 k).resolve_left (fun h => h.elim (fun h => absurd h.1 (by decide)) (fun h => h.elim (fun h => absurd h.1 (by decide)) (fun h => h.elim (fun h => absurd h.1 (by decide)) (fun h => absurd h.1 (by decide))))))
      have KTK_I38 : gc_TK I38 := And.intro V35_0 (And.intro V35_1 (And.intro V35_2 (And.intro V35_3 V35_4)))
      have t47 := gc_TK_mo KTK_I38
      clear V35_0 V35_1 V35_2 V35_3 V35_4
      refine gv_callV hD rfl (As := []) (st := []) rfl B_23 S_23 rfl (gc_lV6 hws rfl) (Nat.le_of_ble_eq_true rfl) (gz_Ev_mono (d := 2) (by decide) E35) ?_
      show gv_X _ _ (66, [(1, .inl z31), (0, .inr (.inr (some 39)))], [], sh, gc_h sh I38 J39 A)
      refine gv_run 2 true hD (pc' := 68) (lv' := [(1, .inl z31), (0, .inr (.inr (some 39)))]) (st' := [.inl 0, .inr (.inr (some 39))]) (h' := gc_h sh I38 J39 A) (C := ((True ∧ True) ∧ True)) rfl ⟨⟨trivial, trivial⟩, trivial⟩ ?_
      refine gv_put hD rfl rfl S_39 ⟨by decide, B_39⟩ rfl trivial ?_
      refine gc_st (k := 12) hI38 S_39 rfl R_39 (lo := 0) (hi := 2000) rfl rfl (by omega) (by omega) (fun I48 hI48 q49 p49 => ?_)
      have FI48 := gc_frs (W := fun q j => (q = 39 ∧ j = 3) ∨ (q = 39 ∧ j = 4) ∨ (q = 23 ∧ j = 5) ∨ (q = 23 ∧ j = 6) ∨ (q = 23 ∧ j = 7) ∨ (q = 23 ∧ j = 8) ∨ (q = 39 ∧ j = 12) ∨ (q = 39 ∧ j = 15) ∨ q = 43 ∨ (q = 15 ∧ (I 15 j ≤ 0)) ∨ (q = 16 ∧ (I 15 (j / 40) ≤ 0))) FI38 (Or.inr (Or.inr (Or.inr (Or.inr (Or.inr (Or.inr (Or.inl ⟨rfl, rfl⟩))))))) p49
      have t50 := p49 23 1 (fun h => absurd h.2 (by decide))
      have t51 := p49 23 5 (fun h => absurd h.2 (by decide))
      have t52 := p49 23 6 (fun h => absurd h.2 (by decide))
      have t53 := p49 23 7 (fun h => absurd h.2 (by decide))
      have t54 := p49 39 15 (fun h => absurd h.2 (by decide))
      have t55 := p49 4 1 (fun h => absurd h.2 (by decide))
      have f56 := (show 0 ≤ I48 39 12 ∧ I48 39 12 ≤ 2000 from gc_in hI48 R_39 rfl rfl)
      have KLT_I48 := gc_LT_fr KLT_I38 (p49 23 5 (fun h => absurd h.2 (by decide))) (p49 23 6 (fun h => absurd h.2 (by decide))) (p49 23 7 (fun h => absurd h.2 (by decide))) (fun k => p49 24 k (fun h => absurd h.1 (by decide)))
      have KTK_I48 := gc_TK_fr KTK_I38 (p49 23 1 (fun h => absurd h.2 (by decide))) (p49 23 5 (fun h => absurd h.2 (by decide))) (p49 23 6 (fun h => absurd h.2 (by decide))) (p49 23 7 (fun h => absurd h.2 (by decide)))
      have KMS_I48 := gc_MS_fr KMS_I38 (Int.le_of_eq (p49 4 1 (fun h => absurd h.2 (by decide))).symm) (fun k => p49 12 k (fun h => absurd h.1 (by decide))) (fun k => p49 15 k (fun h => absurd h.1 (by decide))) (fun k => p49 16 k (fun h => absurd h.1 (by decide)))
      have KTO_I48 : gc_TO (-3 - I 12 (Int.toNat z31)) I48 := (gc_TO_0 (by omega))
      show gv_X _ _ (71, [(1, .inl z31), (0, .inr (.inr (some 39)))], [], sh, gc_h sh I48 J39 A)
      refine gv_run 2 true hD (pc' := 73) (lv' := [(1, .inl z31), (0, .inr (.inr (some 39)))]) (st' := [.inl 0, .inr (.inr (some 39))]) (h' := gc_h sh I48 J39 A) (C := ((True ∧ True) ∧ True)) rfl ⟨⟨trivial, trivial⟩, trivial⟩ ?_
      refine gv_put hD rfl rfl S_39 ⟨by decide, B_39⟩ rfl trivial ?_
      refine gc_st (k := 15) hI48 S_39 rfl R_39 (lo := 0) (hi := 41) rfl rfl (by omega) (by omega) (fun I57 hI57 q58 p58 => ?_)
      have FI57 := gc_frs (W := fun q j => (q = 39 ∧ j = 3) ∨ (q = 39 ∧ j = 4) ∨ (q = 23 ∧ j = 5) ∨ (q = 23 ∧ j = 6) ∨ (q = 23 ∧ j = 7) ∨ (q = 23 ∧ j = 8) ∨ (q = 39 ∧ j = 12) ∨ (q = 39 ∧ j = 15) ∨ q = 43 ∨ (q = 15 ∧ (I 15 j ≤ 0)) ∨ (q = 16 ∧ (I 15 (j / 40) ≤ 0))) FI48 (Or.inr (Or.inr (Or.inr (Or.inr (Or.inr (Or.inr (Or.inr (Or.inl ⟨rfl, rfl⟩)))))))) p58
      have t59 := p58 23 1 (fun h => absurd h.2 (by decide))
      have t60 := p58 23 5 (fun h => absurd h.2 (by decide))
      have t61 := p58 23 6 (fun h => absurd h.2 (by decide))
      have t62 := p58 23 7 (fun h => absurd h.2 (by decide))
      have t63 := p58 39 12 (fun h => absurd h.2 (by decide))
      have t64 := p58 4 1 (fun h => absurd h.2 (by decide))
      have f65 := (show 0 ≤ I57 39 15 ∧ I57 39 15 ≤ 41 from gc_in hI57 R_39 rfl rfl)
      have KLT_I57 := gc_LT_fr KLT_I48 (p58 23 5 (fun h => absurd h.2 (by decide))) (p58 23 6 (fun h => absurd h.2 (by decide))) (p58 23 7 (fun h => absurd h.2 (by decide))) (fun k => p58 24 k (fun h => absurd h.1 (by decide)))
      have KTK_I57 := gc_TK_fr KTK_I48 (p58 23 1 (fun h => absurd h.2 (by decide))) (p58 23 5 (fun h => absurd h.2 (by decide))) (p58 23 6 (fun h => absurd h.2 (by decide))) (p58 23 7 (fun h => absurd h.2 (by decide)))
      have KMS_I57 := gc_MS_fr KMS_I48 (Int.le_of_eq (p58 4 1 (fun h => absurd h.2 (by decide))).symm) (fun k => p58 12 k (fun h => absurd h.1 (by decide))) (fun k => p58 15 k (fun h => absurd h.1 (by decide))) (fun k => p58 16 k (fun h => absurd h.1 (by decide)))
      have KTO_I57 := gc_TO_fr KTO_I48 (p58 39 12 (fun h => absurd h.2 (by decide))) (fun k => p58 43 k (fun h => absurd h.1 (by decide)))
      show gv_X _ _ (76, [(1, .inl z31), (0, .inr (.inr (some 39)))], [], sh, gc_h sh I57 J39 A)
      refine gv_run 2 true hD (pc' := 79) (lv' := [(1, .inl z31), (0, .inr (.inr (some 39)))]) (st' := [.inl 61, .inr (.inr (some 39))]) (h' := gc_h sh I57 J39 A) (C := ((True ∧ True) ∧ True)) rfl ⟨⟨trivial, trivial⟩, trivial⟩ ?_
      obtain ⟨r66, h66, E66, P66⟩ := d_X6_take (ws0 := ws0) (tb := tb) hws htb sh ro I57 J39 A hI57  61 hb   ⟨by omega, by omega⟩ (by omega) KLT_I57 KTK_I57
      obtain ⟨I67, J68, rfl, hI67, g66, k66, KLT_I67, KTK_I67, ⟨z66, rfl, q66⟩⟩ := P66
      have FI67 := gc_frc (W := fun q j => (q = 39 ∧ j = 3) ∨ (q = 39 ∧ j = 4) ∨ (q = 23 ∧ j = 5) ∨ (q = 23 ∧ j = 6) ∨ (q = 23 ∧ j = 7) ∨ (q = 23 ∧ j = 8) ∨ (q = 39 ∧ j = 12) ∨ (q = 39 ∧ j = 15) ∨ q = 43 ∨ (q = 15 ∧ (I 15 j ≤ 0)) ∨ (q = 16 ∧ (I 15 (j / 40) ≤ 0))) (V := fun q j => (q = 39 ∧ j = 3) ∨ (q = 39 ∧ j = 4) ∨ (q = 23 ∧ j = 5) ∨ (q = 23 ∧ j = 6) ∨ (q = 23 ∧ j = 7) ∨ (q = 23 ∧ j = 8)) FI57 (fun q j h => (h.elim (fun h => (Or.inl h)) (fun h => (h.elim (fun h => (Or.inr (Or.inl h))) (fun h => (h.elim (fun h => (Or.inr (Or.inr (Or.inl h)))) (fun h => (h.elim (fun h => (Or.inr (Or.inr (Or.inr (Or.inl h))))) (fun h => (h.elim (fun h => (Or.inr (Or.inr (Or.inr (Or.inr (Or.inl h)))))) (fun h => (Or.inr (Or.inr (Or.inr (Or.inr (Or.inr (Or.inl h))))))))))))))))) g66
      have FJ68 := gc_frc (W := fun q j => (q = 23 ∧ j = 9) ∨ q = 44 ∨ q = 45 ∨ q = 17) (V := fun q j => (q = 23 ∧ j = 9)) FJ39 (fun q j h => (Or.inl h)) k66
      have t69 := (g66 23 1).resolve_left (fun h => h.elim (fun h => absurd h.2 (by decide)) (fun h => h.elim (fun h => absurd h.2 (by decide)) (fun h => h.elim (fun h => absurd h.2 (by decide)) (fun h => h.elim (fun h => absurd h.2 (by decide)) (fun h => h.elim (fun h => absurd h.2 (by decide)) (fun h => absurd h.2 (by decide)))))))
      have t70 := (g66 39 12).resolve_left (fun h => h.elim (fun h => absurd h.2 (by decide)) (fun h => h.elim (fun h => absurd h.2 (by decide)) (fun h => h.elim (fun h => absurd h.2 (by decide)) (fun h => h.elim (fun h => absurd h.2 (by decide)) (fun h => h.elim (fun h => absurd h.2 (by decide)) (fun h => absurd h.2 (by decide)))))))
      have t71 := (g66 39 15).resolve_left (fun h => h.elim (fun h => absurd h.2 (by decide)) (fun h => h.elim (fun h => absurd h.2 (by decide)) (fun h => h.elim (fun h => absurd h.2 (by decide)) (fun h => h.elim (fun h => absurd h.2 (by decide)) (fun h => h.elim (fun h => absurd h.2 (by decide)) (fun h => absurd h.2 (by decide)))))))
      have t72 := (g66 4 1).resolve_left (fun h => h.elim (fun h => absurd h.2 (by decide)) (fun h => h.elim (fun h => absurd h.2 (by decide)) (fun h => h.elim (fun h => absurd h.2 (by decide)) (fun h => h.elim (fun h => absurd h.2 (by decide)) (fun h => h.elim (fun h => absurd h.2 (by decide)) (fun h => absurd h.2 (by decide)))))))
      have f73 := (show 0 ≤ I67 23 5 ∧ I67 23 5 ≤ 1000 from gc_in hI67 R_23 rfl rfl)
      have f74 := (show 0 ≤ I67 23 6 ∧ I67 23 6 ≤ 1001 from gc_in hI67 R_23 rfl rfl)
      have f75 := (show 0 ≤ I67 23 7 ∧ I67 23 7 ≤ 125 from gc_in hI67 R_23 rfl rfl)
      have t76 := gc_TK_mo KTK_I67
      have KMS_I67 := gc_MS_fr KMS_I57 (Int.le_of_eq ((g66 4 1).resolve_left (fun h => h.elim (fun h => absurd h.2 (by decide)) (fun h => h.elim (fun h => absurd h.2 (by decide)) (fun h => h.elim (fun h => absurd h.2 (by decide)) (fun h => h.elim (fun h => absurd h.2 (by decide)) (fun h => h.elim (fun h => absurd h.2 (by decide)) (fun h => absurd h.2 (by decide)))))))).symm) (fun k => (g66 12 k).resolve_left (fun h => h.elim (fun h => absurd h.1 (by decide)) (fun h => h.elim (fun h => absurd h.1 (by decide)) (fun h => h.elim (fun h => absurd h.1 (by decide)) (fun h => h.elim (fun h => absurd h.1 (by decide)) (fun h => h.elim (fun h => absurd h.1 (by decide)) (fun h => absurd h.1 (by decide)))))))) (fun k => (g66 15 k).resolve_left (fun h => h.elim (fun h => absurd h.1 (by decide)) (fun h => h.elim (fun h => absurd h.1 (by decide)) (fun h => h.elim (fun h => absurd h.1 (by decide)) (fun h => h.elim (fun h => absurd h.1 (by decide)) (fun h => h.elim (fun h => absurd h.1 (by decide)) (fun h => absurd h.1 (by decide)))))))) (fun k => (g66 16 k).resolve_left (fun h => h.elim (fun h => absurd h.1 (by decide)) (fun h => h.elim (fun h => absurd h.1 (by decide)) (fun h => h.elim (fun h => absurd h.1 (by decide)) (fun h => h.elim (fun h => absurd h.1 (by decide)) (fun h => h.elim (fun h => absurd h.1 (by decide)) (fun h => absurd h.1 (by decide))))))))
      have KTO_I67 := gc_TO_fr KTO_I57 ((g66 39 12).resolve_left (fun h => h.elim (fun h => absurd h.2 (by decide)) (fun h => h.elim (fun h => absurd h.2 (by decide)) (fun h => h.elim (fun h => absurd h.2 (by decide)) (fun h => h.elim (fun h => absurd h.2 (by decide)) (fun h => h.elim (fun h => absurd h.2 (by decide)) (fun h => absurd h.2 (by decide)))))))) (fun k => (g66 43 k).resolve_left (fun h => h.elim (fun h => absurd h.1 (by decide)) (fun h => h.elim (fun h => absurd h.1 (by decide)) (fun h => h.elim (fun h => absurd h.1 (by decide)) (fun h => h.elim (fun h => absurd h.1 (by decide)) (fun h => h.elim (fun h => absurd h.1 (by decide)) (fun h => absurd h.1 (by decide))))))))
      refine gv_callV hD rfl (As := [.inl 61]) (st := []) rfl B_39 S_39 rfl (gc_lV6 hws rfl) (Nat.le_of_ble_eq_true rfl) (gz_Ev_mono (d := 3) (by decide) E66) ?_
      show gv_X _ _ (82, [(1, .inl z31), (0, .inr (.inr (some 39)))], [.inl z66], sh, gc_h sh I67 J68 A)
      refine gv_if_eq (t := 115) hD rfl rfl ⟨by omega, by omega⟩ (fun c77 => ?_) (fun c77 => ?_)
      · show gv_X _ _ (115, [(1, .inl z31), (0, .inr (.inr (some 39)))], [], sh, gc_h sh I67 J68 A)
        refine gv_pick [] rfl ?_
        exact L115 I67 J68 hI67 FI67 FJ68 KMS_I67 KLT_I67 KTK_I67 (by omega)
      · show gv_X _ _ (85, [(1, .inl z31), (0, .inr (.inr (some 39)))], [], sh, gc_h sh I67 J68 A)
        refine gv_run 3 true hD (pc' := 88) (lv' := [(1, .inl z31), (0, .inr (.inr (some 39)))]) (st' := [.inl 1, .inl z31, .inr (.inr (some 39))]) (h' := gc_h sh I67 J68 A) (C := (((True ∧ True) ∧ True) ∧ True)) rfl ⟨⟨⟨trivial, trivial⟩, trivial⟩, trivial⟩ ?_
        have t78 := (FI67 12 (Int.toNat z31)).resolve_left (by omega)
        have t79 := (show 0 ≤ I 12 (Int.toNat z31) ∧ I 12 (Int.toNat z31) ≤ 4 from gc_in hI R_12 rfl rfl)
        obtain ⟨r80, h80, E80, P80⟩ := d_X6_readTerm (ws0 := ws0) (tb := tb) hws htb sh ro A  ((-3 - I 12 (Int.toNat z31)))  hb   42 I67 J68 hI67 z31 1 ⟨by omega, by omega⟩ ⟨by omega, by omega⟩ (by omega) (by omega) (by omega) (by omega) KLT_I67 KTK_I67 KTO_I67 (by omega)
        obtain ⟨I81, J82, rfl, hI81, g80, k80, KLT_I81, KTK_I81, KTO_I81, ⟨z80, rfl, q80⟩⟩ := P80
        have FI81 := gc_frc (W := fun q j => (q = 39 ∧ j = 3) ∨ (q = 39 ∧ j = 4) ∨ (q = 23 ∧ j = 5) ∨ (q = 23 ∧ j = 6) ∨ (q = 23 ∧ j = 7) ∨ (q = 23 ∧ j = 8) ∨ (q = 39 ∧ j = 12) ∨ (q = 39 ∧ j = 15) ∨ q = 43 ∨ (q = 15 ∧ (I 15 j ≤ 0)) ∨ (q = 16 ∧ (I 15 (j / 40) ≤ 0))) (V := fun q j => (q = 39 ∧ j = 3) ∨ (q = 39 ∧ j = 4) ∨ (q = 23 ∧ j = 5) ∨ (q = 23 ∧ j = 6) ∨ (q = 23 ∧ j = 7) ∨ (q = 23 ∧ j = 8) ∨ (q = 39 ∧ j = 12) ∨ (q = 39 ∧ j = 15) ∨ q = 43) FI67 (fun q j h => (h.elim (fun h => (Or.inl h)) (fun h => (h.elim (fun h => (Or.inr (Or.inl h))) (fun h => (h.elim (fun h => (Or.inr (Or.inr (Or.inl h)))) (fun h => (h.elim (fun h => (Or.inr (Or.inr (Or.inr (Or.inl h))))) (fun h => (h.elim (fun h => (Or.inr (Or.inr (Or.inr (Or.inr (Or.inl h)))))) (fun h => (h.elim (fun h => (Or.inr (Or.inr (Or.inr (Or.inr (Or.inr (Or.inl h))))))) (fun h => (h.elim (fun h => (Or.inr (Or.inr (Or.inr (Or.inr (Or.inr (Or.inr (Or.inl h)))))))) (fun h => (h.elim (fun h => (Or.inr (Or.inr (Or.inr (Or.inr (Or.inr (Or.inr (Or.inr (Or.inl h))))))))) (fun h => (Or.inr (Or.inr (Or.inr (Or.inr (Or.inr (Or.inr (Or.inr (Or.inr (Or.inl h)))))))))))))))))))))))))) g80
        have FJ82 := gc_frc (W := fun q j => (q = 23 ∧ j = 9) ∨ q = 44 ∨ q = 45 ∨ q = 17) (V := fun q j => (q = 23 ∧ j = 9) ∨ q = 44 ∨ q = 45) FJ68 (fun q j h => (h.elim (fun h => (Or.inl h)) (fun h => (h.elim (fun h => (Or.inr (Or.inl h))) (fun h => (Or.inr (Or.inr (Or.inl h)))))))) k80
        have t83 := (g80 23 1).resolve_left (fun h => h.elim (fun h => absurd h.2 (by decide)) (fun h => h.elim (fun h => absurd h.2 (by decide)) (fun h => h.elim (fun h => absurd h.2 (by decide)) (fun h => h.elim (fun h => absurd h.2 (by decide)) (fun h => h.elim (fun h => absurd h.2 (by decide)) (fun h => h.elim (fun h => absurd h.2 (by decide)) (fun h => h.elim (fun h => absurd h.2 (by decide)) (fun h => h.elim (fun h => absurd h.2 (by decide)) (fun h => absurd h (by decide))))))))))
        have t84 := (g80 4 1).resolve_left (fun h => h.elim (fun h => absurd h.2 (by decide)) (fun h => h.elim (fun h => absurd h.2 (by decide)) (fun h => h.elim (fun h => absurd h.2 (by decide)) (fun h => h.elim (fun h => absurd h.2 (by decide)) (fun h => h.elim (fun h => absurd h.2 (by decide)) (fun h => h.elim (fun h => absurd h.2 (by decide)) (fun h => h.elim (fun h => absurd h.2 (by decide)) (fun h => h.elim (fun h => absurd h.2 (by decide)) (fun h => absurd h (by decide))))))))))
        have f85 := (show 0 ≤ I81 23 5 ∧ I81 23 5 ≤ 1000 from gc_in hI81 R_23 rfl rfl)
        have f86 := (show 0 ≤ I81 23 6 ∧ I81 23 6 ≤ 1001 from gc_in hI81 R_23 rfl rfl)
        have f87 := (show 0 ≤ I81 23 7 ∧ I81 23 7 ≤ 125 from gc_in hI81 R_23 rfl rfl)
        have f88 := (show 0 ≤ I81 39 12 ∧ I81 39 12 ≤ 2000 from gc_in hI81 R_39 rfl rfl)
        have f89 := (show 0 ≤ I81 39 15 ∧ I81 39 15 ≤ 41 from gc_in hI81 R_39 rfl rfl)
        have t90 := gc_TK_mo KTK_I81
        have KMS_I81 := gc_MS_fr KMS_I67 (Int.le_of_eq ((g80 4 1).resolve_left (fun h => h.elim (fun h => absurd h.2 (by decide)) (fun h => h.elim (fun h => absurd h.2 (by decide)) (fun h => h.elim (fun h => absurd h.2 (by decide)) (fun h => h.elim (fun h => absurd h.2 (by decide)) (fun h => h.elim (fun h => absurd h.2 (by decide)) (fun h => h.elim (fun h => absurd h.2 (by decide)) (fun h => h.elim (fun h => absurd h.2 (by decide)) (fun h => h.elim (fun h => absurd h.2 (by decide)) (fun h => absurd h (by decide))))))))))).symm) (fun k => (g80 12 k).resolve_left (fun h => h.elim (fun h => absurd h.1 (by decide)) (fun h => h.elim (fun h => absurd h.1 (by decide)) (fun h => h.elim (fun h => absurd h.1 (by decide)) (fun h => h.elim (fun h => absurd h.1 (by decide)) (fun h => h.elim (fun h => absurd h.1 (by decide)) (fun h => h.elim (fun h => absurd h.1 (by decide)) (fun h => h.elim (fun h => absurd h.1 (by decide)) (fun h => h.elim (fun h => absurd h.1 (by decide)) (fun h => absurd h (by decide))))))))))) (fun k => (g80 15 k).resolve_left (fun h => h.elim (fun h => absurd h.1 (by decide)) (fun h => h.elim (fun h => absurd h.1 (by decide)) (fun h => h.elim (fun h => absurd h.1 (by decide)) (fun h => h.elim (fun h => absurd h.1 (by decide)) (fun h => h.elim (fun h => absurd h.1 (by decide)) (fun h => h.elim (fun h => absurd h.1 (by decide)) (fun h => h.elim (fun h => absurd h.1 (by decide)) (fun h => h.elim (fun h => absurd h.1 (by decide)) (fun h => absurd h (by decide))))))))))) (fun k => (g80 16 k).resolve_left (fun h => h.elim (fun h => absurd h.1 (by decide)) (fun h => h.elim (fun h => absurd h.1 (by decide)) (fun h => h.elim (fun h => absurd h.1 (by decide)) (fun h => h.elim (fun h => absurd h.1 (by decide)) (fun h => h.elim (fun h => absurd h.1 (by decide)) (fun h => h.elim (fun h => absurd h.1 (by decide)) (fun h => h.elim (fun h => absurd h.1 (by decide)) (fun h => h.elim (fun h => absurd h.1 (by decide)) (fun h => absurd h (by decide)))))))))))
        refine gv_callV hD rfl (As := [.inl z31, .inl 1]) (st := []) rfl B_39 S_39 rfl (gc_lV6 hws rfl) (Nat.le_of_ble_eq_true rfl) (gz_Ev_mono (d := 90) (by decide) E80) ?_
        show gv_X _ _ (91, [(1, .inl z31), (0, .inr (.inr (some 39)))], [.inl z80], sh, gc_h sh I81 J82 A)
        refine gv_if_eq (t := 115) hD rfl rfl ⟨by omega, by omega⟩ (fun c91 => ?_) (fun c91 => ?_)
        · show gv_X _ _ (115, [(1, .inl z31), (0, .inr (.inr (some 39)))], [], sh, gc_h sh I81 J82 A)
          refine gv_pick [] rfl ?_
          exact L115 I81 J82 hI81 FI81 FJ82 KMS_I81 KLT_I81 KTK_I81 (by omega)
        · show gv_X _ _ (94, [(1, .inl z31), (0, .inr (.inr (some 39)))], [], sh, gc_h sh I81 J82 A)
          refine gv_run 2 true hD (pc' := 96) (lv' := [(1, .inl z31), (0, .inr (.inr (some 39)))]) (st' := [.inr (.inr (some 39)), .inr (.inr (some 39))]) (h' := gc_h sh I81 J82 A) (C := ((True ∧ True) ∧ True)) rfl ⟨⟨trivial, trivial⟩, trivial⟩ ?_
          have f92 := (show 0 ≤ I81 39 12 ∧ I81 39 12 ≤ 2000 from gc_in hI81 R_39 rfl rfl)
          refine gv_get hD rfl rfl S_39 ⟨by decide, B_39⟩ (gc_hI S_39 rfl) ?_
          show gv_X _ _ (99, [(1, .inl z31), (0, .inr (.inr (some 39)))], [.inl (I81 39 12), .inr (.inr (some 39))], sh, gc_h sh I81 J82 A)
          refine gv_run 1 true hD (pc' := 101) (lv' := [(1, .inl z31), (0, .inr (.inr (some 39)))]) (st' := [.inl 40, .inl (I81 39 12), .inr (.inr (some 39))]) (h' := gc_h sh I81 J82 A) (C := (True ∧ True)) rfl ⟨trivial, trivial⟩ ?_
          refine gv_icmp_le (t := 108) hD rfl rfl ⟨⟨by omega, by omega⟩, ⟨by omega, by omega⟩⟩ (fun c93 => ?_) (fun c93 => ?_)
          · show gv_X _ _ (108, [(1, .inl z31), (0, .inr (.inr (some 39)))], [.inr (.inr (some 39))], sh, gc_h sh I81 J82 A)
            refine gv_run 1 true hD (pc' := 109) (lv' := [(1, .inl z31), (0, .inr (.inr (some 39)))]) (st' := [.inl 0, .inr (.inr (some 39))]) (h' := gc_h sh I81 J82 A) (C := (True ∧ True)) rfl ⟨trivial, trivial⟩ ?_
            obtain ⟨r94, h94, E94, P94⟩ := d_X6_closes (ws0 := ws0) (tb := tb) hws htb sh ro I81 J82 A hI81  0 hb   ⟨by omega, by omega⟩  KLT_I81 KTK_I81
            obtain ⟨I95, J96, rfl, hI95, g94, k94, KLT_I95, KTK_I95, ⟨z94, rfl, q94⟩⟩ := P94
            have FI95 := gc_frc (W := fun q j => (q = 39 ∧ j = 3) ∨ (q = 39 ∧ j = 4) ∨ (q = 23 ∧ j = 5) ∨ (q = 23 ∧ j = 6) ∨ (q = 23 ∧ j = 7) ∨ (q = 23 ∧ j = 8) ∨ (q = 39 ∧ j = 12) ∨ (q = 39 ∧ j = 15) ∨ q = 43 ∨ (q = 15 ∧ (I 15 j ≤ 0)) ∨ (q = 16 ∧ (I 15 (j / 40) ≤ 0))) (V := fun q j => (q = 39 ∧ j = 3) ∨ (q = 39 ∧ j = 4) ∨ (q = 23 ∧ j = 5) ∨ (q = 23 ∧ j = 6) ∨ (q = 23 ∧ j = 7) ∨ (q = 23 ∧ j = 8)) FI81 (fun q j h => (h.elim (fun h => (Or.inl h)) (fun h => (h.elim (fun h => (Or.inr (Or.inl h))) (fun h => (h.elim (fun h => (Or.inr (Or.inr (Or.inl h)))) (fun h => (h.elim (fun h => (Or.inr (Or.inr (Or.inr (Or.inl h))))) (fun h => (h.elim (fun h => (Or.inr (Or.inr (Or.inr (Or.inr (Or.inl h)))))) (fun h => (Or.inr (Or.inr (Or.inr (Or.inr (Or.inr (Or.inl h))))))))))))))))) g94
            have FJ96 := gc_frc (W := fun q j => (q = 23 ∧ j = 9) ∨ q = 44 ∨ q = 45 ∨ q = 17) (V := fun q j => (q = 23 ∧ j = 9)) FJ82 (fun q j h => (Or.inl h)) k94
            have t97 := (g94 23 1).resolve_left (fun h => h.elim (fun h => absurd h.2 (by decide)) (fun h => h.elim (fun h => absurd h.2 (by decide)) (fun h => h.elim (fun h => absurd h.2 (by decide)) (fun h => h.elim (fun h => absurd h.2 (by decide)) (fun h => h.elim (fun h => absurd h.2 (by decide)) (fun h => absurd h.2 (by decide)))))))
            have t98 := (g94 39 12).resolve_left (fun h => h.elim (fun h => absurd h.2 (by decide)) (fun h => h.elim (fun h => absurd h.2 (by decide)) (fun h => h.elim (fun h => absurd h.2 (by decide)) (fun h => h.elim (fun h => absurd h.2 (by decide)) (fun h => h.elim (fun h => absurd h.2 (by decide)) (fun h => absurd h.2 (by decide)))))))
            have t99 := (g94 39 15).resolve_left (fun h => h.elim (fun h => absurd h.2 (by decide)) (fun h => h.elim (fun h => absurd h.2 (by decide)) (fun h => h.elim (fun h => absurd h.2 (by decide)) (fun h => h.elim (fun h => absurd h.2 (by decide)) (fun h => h.elim (fun h => absurd h.2 (by decide)) (fun h => absurd h.2 (by decide)))))))
            have t100 := (g94 4 1).resolve_left (fun h => h.elim (fun h => absurd h.2 (by decide)) (fun h => h.elim (fun h => absurd h.2 (by decide)) (fun h => h.elim (fun h => absurd h.2 (by decide)) (fun h => h.elim (fun h => absurd h.2 (by decide)) (fun h => h.elim (fun h => absurd h.2 (by decide)) (fun h => absurd h.2 (by decide)))))))
            have f101 := (show 0 ≤ I95 23 5 ∧ I95 23 5 ≤ 1000 from gc_in hI95 R_23 rfl rfl)
            have f102 := (show 0 ≤ I95 23 6 ∧ I95 23 6 ≤ 1001 from gc_in hI95 R_23 rfl rfl)
            have f103 := (show 0 ≤ I95 23 7 ∧ I95 23 7 ≤ 125 from gc_in hI95 R_23 rfl rfl)
            have t104 := gc_TK_mo KTK_I95
            have KMS_I95 := gc_MS_fr KMS_I81 (Int.le_of_eq ((g94 4 1).resolve_left (fun h => h.elim (fun h => absurd h.2 (by decide)) (fun h => h.elim (fun h => absurd h.2 (by decide)) (fun h => h.elim (fun h => absurd h.2 (by decide)) (fun h => h.elim (fun h => absurd h.2 (by decide)) (fun h => h.elim (fun h => absurd h.2 (by decide)) (fun h => absurd h.2 (by decide)))))))).symm) (fun k => (g94 12 k).resolve_left (fun h => h.elim (fun h => absurd h.1 (by decide)) (fun h => h.elim (fun h => absurd h.1 (by decide)) (fun h => h.elim (fun h => absurd h.1 (by decide)) (fun h => h.elim (fun h => absurd h.1 (by decide)) (fun h => h.elim (fun h => absurd h.1 (by decide)) (fun h => absurd h.1 (by decide)))))))) (fun k => (g94 15 k).resolve_left (fun h => h.elim (fun h => absurd h.1 (by decide)) (fun h => h.elim (fun h => absurd h.1 (by decide)) (fun h => h.elim (fun h => absurd h.1 (by decide)) (fun h => h.elim (fun h => absurd h.1 (by decide)) (fun h => h.elim (fun h => absurd h.1 (by decide)) (fun h => absurd h.1 (by decide)))))))) (fun k => (g94 16 k).resolve_left (fun h => h.elim (fun h => absurd h.1 (by decide)) (fun h => h.elim (fun h => absurd h.1 (by decide)) (fun h => h.elim (fun h => absurd h.1 (by decide)) (fun h => h.elim (fun h => absurd h.1 (by decide)) (fun h => h.elim (fun h => absurd h.1 (by decide)) (fun h => absurd h.1 (by decide))))))))
            have KTO_I95 := gc_TO_fr KTO_I81 ((g94 39 12).resolve_left (fun h => h.elim (fun h => absurd h.2 (by decide)) (fun h => h.elim (fun h => absurd h.2 (by decide)) (fun h => h.elim (fun h => absurd h.2 (by decide)) (fun h => h.elim (fun h => absurd h.2 (by decide)) (fun h => h.elim (fun h => absurd h.2 (by decide)) (fun h => absurd h.2 (by decide)))))))) (fun k => (g94 43 k).resolve_left (fun h => h.elim (fun h => absurd h.1 (by decide)) (fun h => h.elim (fun h => absurd h.1 (by decide)) (fun h => h.elim (fun h => absurd h.1 (by decide)) (fun h => h.elim (fun h => absurd h.1 (by decide)) (fun h => h.elim (fun h => absurd h.1 (by decide)) (fun h => absurd h.1 (by decide))))))))
            refine gv_callV hD rfl (As := [.inl 0]) (st := []) rfl B_39 S_39 rfl (gc_lV6 hws rfl) (Nat.le_of_ble_eq_true rfl) (gz_Ev_mono (d := 4) (by decide) E94) ?_
            show gv_X _ _ (112, [(1, .inl z31), (0, .inr (.inr (some 39)))], [.inl z94], sh, gc_h sh I95 J96 A)
            refine gv_if_ne (t := 117) hD rfl rfl ⟨by omega, by omega⟩ (fun c105 => ?_) (fun c105 => ?_)
            · show gv_X _ _ (117, [(1, .inl z31), (0, .inr (.inr (some 39)))], [], sh, gc_h sh I95 J96 A)
              refine gv_run 1 true hD (pc' := 118) (lv' := [(1, .inl z31), (0, .inr (.inr (some 39)))]) (st' := [.inr (.inr (some 39))]) (h' := gc_h sh I95 J96 A) (C := (True ∧ True)) rfl ⟨trivial, trivial⟩ ?_
              refine gv_get hD rfl rfl S_39 ⟨by decide, B_39⟩ (gc_hA S_39 rfl A_39_0) ?_
              show gv_X _ _ (121, [(1, .inl z31), (0, .inr (.inr (some 39)))], [.inr (.inr (some 1))], sh, gc_h sh I95 J96 A)
              refine gv_get hD rfl rfl S_1 ⟨by decide, B_1⟩ (gc_hA S_1 rfl A_1_10) ?_
              show gv_X _ _ (124, [(1, .inl z31), (0, .inr (.inr (some 39)))], [.inr (.inr (some 15))], sh, gc_h sh I95 J96 A)
              refine gv_run 2 true hD (pc' := 126) (lv' := [(1, .inl z31), (0, .inr (.inr (some 39)))]) (st' := [.inr (.inr (some 39)), .inl z31, .inr (.inr (some 15))]) (h' := gc_h sh I95 J96 A) (C := ((True ∧ True) ∧ True)) rfl ⟨⟨trivial, trivial⟩, trivial⟩ ?_
              have f106 := (show 0 ≤ I95 39 12 ∧ I95 39 12 ≤ 2000 from gc_in hI95 R_39 rfl rfl)
              refine gv_get hD rfl rfl S_39 ⟨by decide, B_39⟩ (gc_hI S_39 rfl) ?_
              show gv_X _ _ (129, [(1, .inl z31), (0, .inr (.inr (some 39)))], [.inl (I95 39 12), .inl z31, .inr (.inr (some 15))], sh, gc_h sh I95 J96 A)
              refine gv_iast hD rfl S_15 ⟨by decide, B_15⟩ ⟨by omega, by omega⟩ ?_
              refine gc_st hI95 S_15 rfl R_15 (lo := 0) (hi := 40) rfl rfl (by omega) (by omega) (fun I107 hI107 q108 p108 => ?_)
              have FI107 := gc_frs (W := fun q j => (q = 39 ∧ j = 3) ∨ (q = 39 ∧ j = 4) ∨ (q = 23 ∧ j = 5) ∨ (q = 23 ∧ j = 6) ∨ (q = 23 ∧ j = 7) ∨ (q = 23 ∧ j = 8) ∨ (q = 39 ∧ j = 12) ∨ (q = 39 ∧ j = 15) ∨ q = 43 ∨ (q = 15 ∧ (I 15 j ≤ 0)) ∨ (q = 16 ∧ (I 15 (j / 40) ≤ 0))) FI95 (Or.inr (Or.inr (Or.inr (Or.inr (Or.inr (Or.inr (Or.inr (Or.inr (Or.inr (Or.inl ⟨rfl, by omega⟩)))))))))) p108
              have t109 := p108 23 1 (fun h => absurd h.1 (by decide))
              have t110 := p108 23 5 (fun h => absurd h.1 (by decide))
              have t111 := p108 23 6 (fun h => absurd h.1 (by decide))
              have t112 := p108 23 7 (fun h => absurd h.1 (by decide))
              have t113 := p108 39 12 (fun h => absurd h.1 (by decide))
              have t114 := p108 39 15 (fun h => absurd h.1 (by decide))
              have t115 := p108 4 1 (fun h => absurd h.1 (by decide))
              have KLT_I107 := gc_LT_fr KLT_I95 (p108 23 5 (fun h => absurd h.1 (by decide))) (p108 23 6 (fun h => absurd h.1 (by decide))) (p108 23 7 (fun h => absurd h.1 (by decide))) (fun k => p108 24 k (fun h => absurd h.1 (by decide)))
              have KTK_I107 := gc_TK_fr KTK_I95 (p108 23 1 (fun h => absurd h.1 (by decide))) (p108 23 5 (fun h => absurd h.1 (by decide))) (p108 23 6 (fun h => absurd h.1 (by decide))) (p108 23 7 (fun h => absurd h.1 (by decide)))
              have KTO_I107 := gc_TO_fr KTO_I95 (p108 39 12 (fun h => absurd h.1 (by decide))) (fun k => p108 43 k (fun h => absurd h.1 (by decide)))
              show gv_X _ _ (130, [(1, .inl z31), (0, .inr (.inr (some 39)))], [], sh, gc_h sh I107 J96 A)
              refine gv_run 1 true hD (pc' := 131) (lv' := [(1, .inl z31), (0, .inr (.inr (some 39)))]) (st' := [.inr (.inr (some 39))]) (h' := gc_h sh I107 J96 A) (C := (True ∧ True)) rfl ⟨trivial, trivial⟩ ?_
              refine gv_get hD rfl rfl S_39 ⟨by decide, B_39⟩ (gc_hA S_39 rfl A_39_13) ?_
              show gv_X _ _ (134, [(1, .inl z31), (0, .inr (.inr (some 39)))], [.inr (.inr (some 43))], sh, gc_h sh I107 J96 A)
              refine gv_run 2 true hD (pc' := 136) (lv' := [(1, .inl z31), (0, .inr (.inr (some 39)))]) (st' := [.inr (.inr (some 39)), .inl 0, .inr (.inr (some 43))]) (h' := gc_h sh I107 J96 A) (C := ((True ∧ True) ∧ True)) rfl ⟨⟨trivial, trivial⟩, trivial⟩ ?_
              refine gv_get hD rfl rfl S_39 ⟨by decide, B_39⟩ (gc_hA S_39 rfl A_39_0) ?_
              show gv_X _ _ (139, [(1, .inl z31), (0, .inr (.inr (some 39)))], [.inr (.inr (some 1)), .inl 0, .inr (.inr (some 43))], sh, gc_h sh I107 J96 A)
              refine gv_get hD rfl rfl S_1 ⟨by decide, B_1⟩ (gc_hA S_1 rfl A_1_11) ?_
              show gv_X _ _ (142, [(1, .inl z31), (0, .inr (.inr (some 39)))], [.inr (.inr (some 16)), .inl 0, .inr (.inr (some 43))], sh, gc_h sh I107 J96 A)
              refine gv_run 4 true hD (pc' := 147) (lv' := [(1, .inl z31), (0, .inr (.inr (some 39)))]) (st' := [.inr (.inr (some 39)), .inl (z31 * 40), .inr (.inr (some 16)), .inl 0, .inr (.inr (some 43))]) (h' := gc_h sh I107 J96 A) (C := ((((True ∧ True) ∧ True) ∧ True) ∧ True)) rfl ⟨⟨⟨⟨trivial, trivial⟩, trivial⟩, trivial⟩, trivial⟩ ?_
              have f116 := (show 0 ≤ I107 39 12 ∧ I107 39 12 ≤ 2000 from gc_in hI107 R_39 rfl rfl)
              refine gv_get hD rfl rfl S_39 ⟨by decide, B_39⟩ (gc_hI S_39 rfl) ?_
              show gv_X _ _ (150, [(1, .inl z31), (0, .inr (.inr (some 39)))], [.inl (I107 39 12), .inl (z31 * 40), .inr (.inr (some 16)), .inl 0, .inr (.inr (some 43))], sh, gc_h sh I107 J96 A)
              refine gv_copy hD rfl (gc_lC6_263 hws) (Nat.le_of_ble_eq_true rfl) ⟨B_43, B_16⟩ S_43 S_16 (by decide) ⟨by decide, by decide⟩ ⟨by omega, by omega, by omega⟩ (by omega) (by omega) (fun h => absurd h (by decide)) ?_
              refine gc_cp hI107 S_43 S_16 (by decide) (fun j hj => by have h9 := (show (-7) ≤ I107 43 (Int.toNat 0 + j) ∧ I107 43 (Int.toNat 0 + j) ≤ 41 from gc_in hI107 R_43 rfl rfl); rw [R_16]; exact ⟨by show (-7) ≤ _; omega, by show _ ≤ 41; omega⟩) (fun I118 hI118 p117 q117 => ?_)
              have FI118 := gc_frp (W := fun q j => (q = 39 ∧ j = 3) ∨ (q = 39 ∧ j = 4) ∨ (q = 23 ∧ j = 5) ∨ (q = 23 ∧ j = 6) ∨ (q = 23 ∧ j = 7) ∨ (q = 23 ∧ j = 8) ∨ (q = 39 ∧ j = 12) ∨ (q = 39 ∧ j = 15) ∨ q = 43 ∨ (q = 15 ∧ (I 15 j ≤ 0)) ∨ (q = 16 ∧ (I 15 (j / 40) ≤ 0))) (V := fun q j => q = 16 ∧ Int.toNat (z31 * 40) ≤ j ∧ j < Int.toNat (z31 * 40) + Int.toNat (I107 39 12)) FI107 (fun q j h => (Or.inr (Or.inr (Or.inr (Or.inr (Or.inr (Or.inr (Or.inr (Or.inr (Or.inr (Or.inr ⟨h.1, by have h9 := h.2; rw [show j / 40 = Int.toNat z31 from by omega]; omega⟩))))))))))) p117
              have KLT_I118 := gc_LT_fr KLT_I107 (p117 23 5 (fun h => absurd h.1 (by decide))) (p117 23 6 (fun h => absurd h.1 (by decide))) (p117 23 7 (fun h => absurd h.1 (by decide))) (fun k => p117 24 k (fun h => absurd h.1 (by decide)))
              have KTK_I118 := gc_TK_fr KTK_I107 (p117 23 1 (fun h => absurd h.1 (by decide))) (p117 23 5 (fun h => absurd h.1 (by decide))) (p117 23 6 (fun h => absurd h.1 (by decide))) (p117 23 7 (fun h => absurd h.1 (by decide)))
              have KTO_I118 := gc_TO_fr KTO_I107 (p117 39 12 (fun h => absurd h.1 (by decide))) (fun k => p117 43 k (fun h => absurd h.1 (by decide)))
              have t120 := p117 23 1 (fun h => absurd h.1 (by decide))
              have t121 := p117 23 5 (fun h => absurd h.1 (by decide))
              have t122 := p117 23 6 (fun h => absurd h.1 (by decide))
              have t123 := p117 23 7 (fun h => absurd h.1 (by decide))
              have t124 := p117 39 12 (fun h => absurd h.1 (by decide))
              have t125 := p117 39 15 (fun h => absurd h.1 (by decide))
              have t126 := p117 4 1 (fun h => absurd h.1 (by decide))
              have t127 := gc_TK_mo KTK_I118
              have f128 := (show 0 ≤ I118 23 1 ∧ I118 23 1 ≤ 1000 from gc_in hI118 R_23 rfl rfl)
              have f129 := (show 0 ≤ I118 23 5 ∧ I118 23 5 ≤ 1000 from gc_in hI118 R_23 rfl rfl)
              have f130 := (show 0 ≤ I118 23 6 ∧ I118 23 6 ≤ 1001 from gc_in hI118 R_23 rfl rfl)
              have f131 := (show 0 ≤ I118 23 7 ∧ I118 23 7 ≤ 125 from gc_in hI118 R_23 rfl rfl)
              have f132 := (show 0 ≤ I118 39 12 ∧ I118 39 12 ≤ 2000 from gc_in hI118 R_39 rfl rfl)
              have f133 := (show 0 ≤ I118 39 15 ∧ I118 39 15 ≤ 41 from gc_in hI118 R_39 rfl rfl)
              have f134 := (show 0 ≤ I118 4 1 ∧ I118 4 1 ≤ 96 from gc_in hI118 R_4 rfl rfl)
              show gv_X _ _ (153, [(1, .inl z31), (0, .inr (.inr (some 39)))], [], sh, gc_h sh I118 J96 A)
              refine gv_run 1 true hD (pc' := 154) (lv' := [(1, .inl z31), (0, .inr (.inr (some 39)))]) (st' := [.inr (.inr (some 39))]) (h' := gc_h sh I118 J96 A) (C := (True ∧ True)) rfl ⟨trivial, trivial⟩ ?_
              refine gv_get hD rfl rfl S_39 ⟨by decide, B_39⟩ (gc_hA S_39 rfl A_39_14) ?_
              show gv_X _ _ (157, [(1, .inl z31), (0, .inr (.inr (some 39)))], [.inr (.inr (some 44))], sh, gc_h sh I118 J96 A)
              refine gv_run 2 true hD (pc' := 159) (lv' := [(1, .inl z31), (0, .inr (.inr (some 39)))]) (st' := [.inr (.inr (some 39)), .inl 0, .inr (.inr (some 44))]) (h' := gc_h sh I118 J96 A) (C := ((True ∧ True) ∧ True)) rfl ⟨⟨trivial, trivial⟩, trivial⟩ ?_
              refine gv_get hD rfl rfl S_39 ⟨by decide, B_39⟩ (gc_hA S_39 rfl A_39_0) ?_
              show gv_X _ _ (162, [(1, .inl z31), (0, .inr (.inr (some 39)))], [.inr (.inr (some 1)), .inl 0, .inr (.inr (some 44))], sh, gc_h sh I118 J96 A)
              refine gv_get hD rfl rfl S_1 ⟨by decide, B_1⟩ (gc_hA S_1 rfl A_1_12) ?_
              show gv_X _ _ (165, [(1, .inl z31), (0, .inr (.inr (some 39)))], [.inr (.inr (some 17)), .inl 0, .inr (.inr (some 44))], sh, gc_h sh I118 J96 A)
              refine gv_run 4 true hD (pc' := 170) (lv' := [(1, .inl z31), (0, .inr (.inr (some 39)))]) (st' := [.inr (.inr (some 39)), .inl (z31 * 40), .inr (.inr (some 17)), .inl 0, .inr (.inr (some 44))]) (h' := gc_h sh I118 J96 A) (C := ((((True ∧ True) ∧ True) ∧ True) ∧ True)) rfl ⟨⟨⟨⟨trivial, trivial⟩, trivial⟩, trivial⟩, trivial⟩ ?_
              have f135 := (show 0 ≤ I118 39 12 ∧ I118 39 12 ≤ 2000 from gc_in hI118 R_39 rfl rfl)
              refine gv_get hD rfl rfl S_39 ⟨by decide, B_39⟩ (gc_hI S_39 rfl) ?_
              show gv_X _ _ (173, [(1, .inl z31), (0, .inr (.inr (some 39)))], [.inl (I118 39 12), .inl (z31 * 40), .inr (.inr (some 17)), .inl 0, .inr (.inr (some 44))], sh, gc_h sh I118 J96 A)
              refine gv_copy hD rfl (gc_lC6_263 hws) (Nat.le_of_ble_eq_true rfl) ⟨B_44, B_17⟩ S_44 S_17 (by decide) ⟨by decide, by decide⟩ ⟨by omega, by omega, by omega⟩ (by omega) (by omega) (fun h => absurd h (by decide)) ?_
              refine gc_cpJ S_44 S_17 (fun J138 p136 q136 => ?_)
              have FJ138 := gc_frp (W := fun q j => (q = 23 ∧ j = 9) ∨ q = 44 ∨ q = 45 ∨ q = 17) (V := fun q j => q = 17 ∧ Int.toNat (z31 * 40) ≤ j ∧ j < Int.toNat (z31 * 40) + Int.toNat (I118 39 12)) FJ96 (fun q j h => (Or.inr (Or.inr (Or.inr h.1)))) p136
              show gv_X _ _ (176, [(1, .inl z31), (0, .inr (.inr (some 39)))], [], sh, gc_h sh I118 J138 A)
              refine gv_run 1 true hD (pc' := 177) (lv' := [(1, .inl z31), (0, .inr (.inr (some 39)))]) (st' := [.inl 1]) (h' := gc_h sh I118 J138 A) (C := (True ∧ True)) rfl ⟨trivial, trivial⟩ ?_
              exact gv_zret hD rfl (by omega) ⟨I118, J138, rfl, hI118, FI118, FJ138, KLT_I118, KTK_I118, (gc_MS_put (f0 := (Int.toNat z31)) (n := I81 39 12) (g := I81 43) KMS_I95 (by omega) (fun k => (p117 12 k (fun h => absurd h.1 (by decide))).trans (p108 12 k (fun h => absurd h.1 (by decide)))) (fun k hk => (p117 15 k (fun h => absurd h.1 (by decide))).trans (p108 15 k (fun h => hk h.2))) (fun k hk => (p117 16 k (fun h => hk (by have := h.2; omega))).trans (p108 16 k (fun h => absurd h.1 (by decide)))) (fun k => (show 0 ≤ I95 15 k ∧ I95 15 k ≤ 40 from gc_in hI95 R_15 rfl rfl).2) (by have h9 := (p117 15 (Int.toNat z31) (fun h => absurd h.1 (by decide))).trans q108; omega) (by omega) ((gc_TZ_of (q80.2.2.2.2.2.2.2.resolve_left (by omega)) (by omega)) (by omega)) (fun k hk => by have h9 := q117 k (by omega); rw [show Int.toNat ((z31 * 40)) = (Int.toNat z31) * 40 from by omega, show Int.toNat 0 + k = k from by omega] at h9; rw [h9]; exact (p108 43 k (fun h => absurd h.1 (by decide))).trans (((g94 43 k).resolve_left (by omega)))) (fun k hk => by have h9 := KTO_I81 k (by omega) (by omega); have h8 : I118 12 (Int.toNat z31) = I 12 (Int.toNat z31) := (FI118 12 (Int.toNat z31)).resolve_left (by omega); omega)), ⟨_, rfl, by omega⟩⟩
            · show gv_X _ _ (115, [(1, .inl z31), (0, .inr (.inr (some 39)))], [], sh, gc_h sh I95 J96 A)
              refine gv_pick [] rfl ?_
              exact L115 I95 J96 hI95 FI95 FJ96 KMS_I95 KLT_I95 KTK_I95 (by omega)
          · show gv_X _ _ (104, [(1, .inl z31), (0, .inr (.inr (some 39)))], [.inr (.inr (some 39))], sh, gc_h sh I81 J82 A)
            refine gv_run 2 true hD (pc' := 109) (lv' := [(1, .inl z31), (0, .inr (.inr (some 39)))]) (st' := [.inl 1, .inr (.inr (some 39))]) (h' := gc_h sh I81 J82 A) (C := ((True ∧ True) ∧ True)) rfl ⟨⟨trivial, trivial⟩, trivial⟩ ?_
            obtain ⟨r139, h139, E139, P139⟩ := d_X6_closes (ws0 := ws0) (tb := tb) hws htb sh ro I81 J82 A hI81  1 hb   ⟨by omega, by omega⟩  KLT_I81 KTK_I81
            obtain ⟨I140, J141, rfl, hI140, g139, k139, KLT_I140, KTK_I140, ⟨z139, rfl, q139⟩⟩ := P139
            have FI140 := gc_frc (W := fun q j => (q = 39 ∧ j = 3) ∨ (q = 39 ∧ j = 4) ∨ (q = 23 ∧ j = 5) ∨ (q = 23 ∧ j = 6) ∨ (q = 23 ∧ j = 7) ∨ (q = 23 ∧ j = 8) ∨ (q = 39 ∧ j = 12) ∨ (q = 39 ∧ j = 15) ∨ q = 43 ∨ (q = 15 ∧ (I 15 j ≤ 0)) ∨ (q = 16 ∧ (I 15 (j / 40) ≤ 0))) (V := fun q j => (q = 39 ∧ j = 3) ∨ (q = 39 ∧ j = 4) ∨ (q = 23 ∧ j = 5) ∨ (q = 23 ∧ j = 6) ∨ (q = 23 ∧ j = 7) ∨ (q = 23 ∧ j = 8)) FI81 (fun q j h => (h.elim (fun h => (Or.inl h)) (fun h => (h.elim (fun h => (Or.inr (Or.inl h))) (fun h => (h.elim (fun h => (Or.inr (Or.inr (Or.inl h)))) (fun h => (h.elim (fun h => (Or.inr (Or.inr (Or.inr (Or.inl h))))) (fun h => (h.elim (fun h => (Or.inr (Or.inr (Or.inr (Or.inr (Or.inl h)))))) (fun h => (Or.inr (Or.inr (Or.inr (Or.inr (Or.inr (Or.inl h))))))))))))))))) g139
            have FJ141 := gc_frc (W := fun q j => (q = 23 ∧ j = 9) ∨ q = 44 ∨ q = 45 ∨ q = 17) (V := fun q j => (q = 23 ∧ j = 9)) FJ82 (fun q j h => (Or.inl h)) k139
            have t142 := (g139 23 1).resolve_left (fun h => h.elim (fun h => absurd h.2 (by decide)) (fun h => h.elim (fun h => absurd h.2 (by decide)) (fun h => h.elim (fun h => absurd h.2 (by decide)) (fun h => h.elim (fun h => absurd h.2 (by decide)) (fun h => h.elim (fun h => absurd h.2 (by decide)) (fun h => absurd h.2 (by decide)))))))
            have t143 := (g139 39 12).resolve_left (fun h => h.elim (fun h => absurd h.2 (by decide)) (fun h => h.elim (fun h => absurd h.2 (by decide)) (fun h => h.elim (fun h => absurd h.2 (by decide)) (fun h => h.elim (fun h => absurd h.2 (by decide)) (fun h => h.elim (fun h => absurd h.2 (by decide)) (fun h => absurd h.2 (by decide)))))))
            have t144 := (g139 39 15).resolve_left (fun h => h.elim (fun h => absurd h.2 (by decide)) (fun h => h.elim (fun h => absurd h.2 (by decide)) (fun h => h.elim (fun h => absurd h.2 (by decide)) (fun h => h.elim (fun h => absurd h.2 (by decide)) (fun h => h.elim (fun h => absurd h.2 (by decide)) (fun h => absurd h.2 (by decide)))))))
            have t145 := (g139 4 1).resolve_left (fun h => h.elim (fun h => absurd h.2 (by decide)) (fun h => h.elim (fun h => absurd h.2 (by decide)) (fun h => h.elim (fun h => absurd h.2 (by decide)) (fun h => h.elim (fun h => absurd h.2 (by decide)) (fun h => h.elim (fun h => absurd h.2 (by decide)) (fun h => absurd h.2 (by decide)))))))
            have f146 := (show 0 ≤ I140 23 5 ∧ I140 23 5 ≤ 1000 from gc_in hI140 R_23 rfl rfl)
            have f147 := (show 0 ≤ I140 23 6 ∧ I140 23 6 ≤ 1001 from gc_in hI140 R_23 rfl rfl)
            have f148 := (show 0 ≤ I140 23 7 ∧ I140 23 7 ≤ 125 from gc_in hI140 R_23 rfl rfl)
            have t149 := gc_TK_mo KTK_I140
            have KMS_I140 := gc_MS_fr KMS_I81 (Int.le_of_eq ((g139 4 1).resolve_left (fun h => h.elim (fun h => absurd h.2 (by decide)) (fun h => h.elim (fun h => absurd h.2 (by decide)) (fun h => h.elim (fun h => absurd h.2 (by decide)) (fun h => h.elim (fun h => absurd h.2 (by decide)) (fun h => h.elim (fun h => absurd h.2 (by decide)) (fun h => absurd h.2 (by decide)))))))).symm) (fun k => (g139 12 k).resolve_left (fun h => h.elim (fun h => absurd h.1 (by decide)) (fun h => h.elim (fun h => absurd h.1 (by decide)) (fun h => h.elim (fun h => absurd h.1 (by decide)) (fun h => h.elim (fun h => absurd h.1 (by decide)) (fun h => h.elim (fun h => absurd h.1 (by decide)) (fun h => absurd h.1 (by decide)))))))) (fun k => (g139 15 k).resolve_left (fun h => h.elim (fun h => absurd h.1 (by decide)) (fun h => h.elim (fun h => absurd h.1 (by decide)) (fun h => h.elim (fun h => absurd h.1 (by decide)) (fun h => h.elim (fun h => absurd h.1 (by decide)) (fun h => h.elim (fun h => absurd h.1 (by decide)) (fun h => absurd h.1 (by decide)))))))) (fun k => (g139 16 k).resolve_left (fun h => h.elim (fun h => absurd h.1 (by decide)) (fun h => h.elim (fun h => absurd h.1 (by decide)) (fun h => h.elim (fun h => absurd h.1 (by decide)) (fun h => h.elim (fun h => absurd h.1 (by decide)) (fun h => h.elim (fun h => absurd h.1 (by decide)) (fun h => absurd h.1 (by decide))))))))
            have KTO_I140 := gc_TO_fr KTO_I81 ((g139 39 12).resolve_left (fun h => h.elim (fun h => absurd h.2 (by decide)) (fun h => h.elim (fun h => absurd h.2 (by decide)) (fun h => h.elim (fun h => absurd h.2 (by decide)) (fun h => h.elim (fun h => absurd h.2 (by decide)) (fun h => h.elim (fun h => absurd h.2 (by decide)) (fun h => absurd h.2 (by decide)))))))) (fun k => (g139 43 k).resolve_left (fun h => h.elim (fun h => absurd h.1 (by decide)) (fun h => h.elim (fun h => absurd h.1 (by decide)) (fun h => h.elim (fun h => absurd h.1 (by decide)) (fun h => h.elim (fun h => absurd h.1 (by decide)) (fun h => h.elim (fun h => absurd h.1 (by decide)) (fun h => absurd h.1 (by decide))))))))
            refine gv_callV hD rfl (As := [.inl 1]) (st := []) rfl B_39 S_39 rfl (gc_lV6 hws rfl) (Nat.le_of_ble_eq_true rfl) (gz_Ev_mono (d := 4) (by decide) E139) ?_
            show gv_X _ _ (112, [(1, .inl z31), (0, .inr (.inr (some 39)))], [.inl z139], sh, gc_h sh I140 J141 A)
            refine gv_if_ne (t := 117) hD rfl rfl ⟨by omega, by omega⟩ (fun c150 => ?_) (fun c150 => ?_)
            · show gv_X _ _ (117, [(1, .inl z31), (0, .inr (.inr (some 39)))], [], sh, gc_h sh I140 J141 A)
              refine gv_run 1 true hD (pc' := 118) (lv' := [(1, .inl z31), (0, .inr (.inr (some 39)))]) (st' := [.inr (.inr (some 39))]) (h' := gc_h sh I140 J141 A) (C := (True ∧ True)) rfl ⟨trivial, trivial⟩ ?_
              refine gv_get hD rfl rfl S_39 ⟨by decide, B_39⟩ (gc_hA S_39 rfl A_39_0) ?_
              show gv_X _ _ (121, [(1, .inl z31), (0, .inr (.inr (some 39)))], [.inr (.inr (some 1))], sh, gc_h sh I140 J141 A)
              refine gv_get hD rfl rfl S_1 ⟨by decide, B_1⟩ (gc_hA S_1 rfl A_1_10) ?_
              show gv_X _ _ (124, [(1, .inl z31), (0, .inr (.inr (some 39)))], [.inr (.inr (some 15))], sh, gc_h sh I140 J141 A)
              refine gv_run 2 true hD (pc' := 126) (lv' := [(1, .inl z31), (0, .inr (.inr (some 39)))]) (st' := [.inr (.inr (some 39)), .inl z31, .inr (.inr (some 15))]) (h' := gc_h sh I140 J141 A) (C := ((True ∧ True) ∧ True)) rfl ⟨⟨trivial, trivial⟩, trivial⟩ ?_
              have f151 := (show 0 ≤ I140 39 12 ∧ I140 39 12 ≤ 2000 from gc_in hI140 R_39 rfl rfl)
              refine gv_get hD rfl rfl S_39 ⟨by decide, B_39⟩ (gc_hI S_39 rfl) ?_
              show gv_X _ _ (129, [(1, .inl z31), (0, .inr (.inr (some 39)))], [.inl (I140 39 12), .inl z31, .inr (.inr (some 15))], sh, gc_h sh I140 J141 A)
              refine gv_iast hD rfl S_15 ⟨by decide, B_15⟩ ⟨by omega, by omega⟩ ?_
              refine gc_st hI140 S_15 rfl R_15 (lo := 0) (hi := 40) rfl rfl (by omega) (by omega) (fun I152 hI152 q153 p153 => ?_)
              have FI152 := gc_frs (W := fun q j => (q = 39 ∧ j = 3) ∨ (q = 39 ∧ j = 4) ∨ (q = 23 ∧ j = 5) ∨ (q = 23 ∧ j = 6) ∨ (q = 23 ∧ j = 7) ∨ (q = 23 ∧ j = 8) ∨ (q = 39 ∧ j = 12) ∨ (q = 39 ∧ j = 15) ∨ q = 43 ∨ (q = 15 ∧ (I 15 j ≤ 0)) ∨ (q = 16 ∧ (I 15 (j / 40) ≤ 0))) FI140 (Or.inr (Or.inr (Or.inr (Or.inr (Or.inr (Or.inr (Or.inr (Or.inr (Or.inr (Or.inl ⟨rfl, by omega⟩)))))))))) p153
              have t154 := p153 23 1 (fun h => absurd h.1 (by decide))
              have t155 := p153 23 5 (fun h => absurd h.1 (by decide))
              have t156 := p153 23 6 (fun h => absurd h.1 (by decide))
              have t157 := p153 23 7 (fun h => absurd h.1 (by decide))
              have t158 := p153 39 12 (fun h => absurd h.1 (by decide))
              have t159 := p153 39 15 (fun h => absurd h.1 (by decide))
              have t160 := p153 4 1 (fun h => absurd h.1 (by decide))
              have KLT_I152 := gc_LT_fr KLT_I140 (p153 23 5 (fun h => absurd h.1 (by decide))) (p153 23 6 (fun h => absurd h.1 (by decide))) (p153 23 7 (fun h => absurd h.1 (by decide))) (fun k => p153 24 k (fun h => absurd h.1 (by decide)))
              have KTK_I152 := gc_TK_fr KTK_I140 (p153 23 1 (fun h => absurd h.1 (by decide))) (p153 23 5 (fun h => absurd h.1 (by decide))) (p153 23 6 (fun h => absurd h.1 (by decide))) (p153 23 7 (fun h => absurd h.1 (by decide)))
              have KTO_I152 := gc_TO_fr KTO_I140 (p153 39 12 (fun h => absurd h.1 (by decide))) (fun k => p153 43 k (fun h => absurd h.1 (by decide)))
              show gv_X _ _ (130, [(1, .inl z31), (0, .inr (.inr (some 39)))], [], sh, gc_h sh I152 J141 A)
              refine gv_run 1 true hD (pc' := 131) (lv' := [(1, .inl z31), (0, .inr (.inr (some 39)))]) (st' := [.inr (.inr (some 39))]) (h' := gc_h sh I152 J141 A) (C := (True ∧ True)) rfl ⟨trivial, trivial⟩ ?_
              refine gv_get hD rfl rfl S_39 ⟨by decide, B_39⟩ (gc_hA S_39 rfl A_39_13) ?_
              show gv_X _ _ (134, [(1, .inl z31), (0, .inr (.inr (some 39)))], [.inr (.inr (some 43))], sh, gc_h sh I152 J141 A)
              refine gv_run 2 true hD (pc' := 136) (lv' := [(1, .inl z31), (0, .inr (.inr (some 39)))]) (st' := [.inr (.inr (some 39)), .inl 0, .inr (.inr (some 43))]) (h' := gc_h sh I152 J141 A) (C := ((True ∧ True) ∧ True)) rfl ⟨⟨trivial, trivial⟩, trivial⟩ ?_
              refine gv_get hD rfl rfl S_39 ⟨by decide, B_39⟩ (gc_hA S_39 rfl A_39_0) ?_
              show gv_X _ _ (139, [(1, .inl z31), (0, .inr (.inr (some 39)))], [.inr (.inr (some 1)), .inl 0, .inr (.inr (some 43))], sh, gc_h sh I152 J141 A)
              refine gv_get hD rfl rfl S_1 ⟨by decide, B_1⟩ (gc_hA S_1 rfl A_1_11) ?_
              show gv_X _ _ (142, [(1, .inl z31), (0, .inr (.inr (some 39)))], [.inr (.inr (some 16)), .inl 0, .inr (.inr (some 43))], sh, gc_h sh I152 J141 A)
              refine gv_run 4 true hD (pc' := 147) (lv' := [(1, .inl z31), (0, .inr (.inr (some 39)))]) (st' := [.inr (.inr (some 39)), .inl (z31 * 40), .inr (.inr (some 16)), .inl 0, .inr (.inr (some 43))]) (h' := gc_h sh I152 J141 A) (C := ((((True ∧ True) ∧ True) ∧ True) ∧ True)) rfl ⟨⟨⟨⟨trivial, trivial⟩, trivial⟩, trivial⟩, trivial⟩ ?_
              have f161 := (show 0 ≤ I152 39 12 ∧ I152 39 12 ≤ 2000 from gc_in hI152 R_39 rfl rfl)
              refine gv_get hD rfl rfl S_39 ⟨by decide, B_39⟩ (gc_hI S_39 rfl) ?_
              show gv_X _ _ (150, [(1, .inl z31), (0, .inr (.inr (some 39)))], [.inl (I152 39 12), .inl (z31 * 40), .inr (.inr (some 16)), .inl 0, .inr (.inr (some 43))], sh, gc_h sh I152 J141 A)
              refine gv_copy hD rfl (gc_lC6_263 hws) (Nat.le_of_ble_eq_true rfl) ⟨B_43, B_16⟩ S_43 S_16 (by decide) ⟨by decide, by decide⟩ ⟨by omega, by omega, by omega⟩ (by omega) (by omega) (fun h => absurd h (by decide)) ?_
              refine gc_cp hI152 S_43 S_16 (by decide) (fun j hj => by have h9 := (show (-7) ≤ I152 43 (Int.toNat 0 + j) ∧ I152 43 (Int.toNat 0 + j) ≤ 41 from gc_in hI152 R_43 rfl rfl); rw [R_16]; exact ⟨by show (-7) ≤ _; omega, by show _ ≤ 41; omega⟩) (fun I163 hI163 p162 q162 => ?_)
              have FI163 := gc_frp (W := fun q j => (q = 39 ∧ j = 3) ∨ (q = 39 ∧ j = 4) ∨ (q = 23 ∧ j = 5) ∨ (q = 23 ∧ j = 6) ∨ (q = 23 ∧ j = 7) ∨ (q = 23 ∧ j = 8) ∨ (q = 39 ∧ j = 12) ∨ (q = 39 ∧ j = 15) ∨ q = 43 ∨ (q = 15 ∧ (I 15 j ≤ 0)) ∨ (q = 16 ∧ (I 15 (j / 40) ≤ 0))) (V := fun q j => q = 16 ∧ Int.toNat (z31 * 40) ≤ j ∧ j < Int.toNat (z31 * 40) + Int.toNat (I152 39 12)) FI152 (fun q j h => (Or.inr (Or.inr (Or.inr (Or.inr (Or.inr (Or.inr (Or.inr (Or.inr (Or.inr (Or.inr ⟨h.1, by have h9 := h.2; rw [show j / 40 = Int.toNat z31 from by omega]; omega⟩))))))))))) p162
              have KLT_I163 := gc_LT_fr KLT_I152 (p162 23 5 (fun h => absurd h.1 (by decide))) (p162 23 6 (fun h => absurd h.1 (by decide))) (p162 23 7 (fun h => absurd h.1 (by decide))) (fun k => p162 24 k (fun h => absurd h.1 (by decide)))
              have KTK_I163 := gc_TK_fr KTK_I152 (p162 23 1 (fun h => absurd h.1 (by decide))) (p162 23 5 (fun h => absurd h.1 (by decide))) (p162 23 6 (fun h => absurd h.1 (by decide))) (p162 23 7 (fun h => absurd h.1 (by decide)))
              have KTO_I163 := gc_TO_fr KTO_I152 (p162 39 12 (fun h => absurd h.1 (by decide))) (fun k => p162 43 k (fun h => absurd h.1 (by decide)))
              have t165 := p162 23 1 (fun h => absurd h.1 (by decide))
              have t166 := p162 23 5 (fun h => absurd h.1 (by decide))
              have t167 := p162 23 6 (fun h => absurd h.1 (by decide))
              have t168 := p162 23 7 (fun h => absurd h.1 (by decide))
              have t169 := p162 39 12 (fun h => absurd h.1 (by decide))
              have t170 := p162 39 15 (fun h => absurd h.1 (by decide))
              have t171 := p162 4 1 (fun h => absurd h.1 (by decide))
              have t172 := gc_TK_mo KTK_I163
              have f173 := (show 0 ≤ I163 23 1 ∧ I163 23 1 ≤ 1000 from gc_in hI163 R_23 rfl rfl)
              have f174 := (show 0 ≤ I163 23 5 ∧ I163 23 5 ≤ 1000 from gc_in hI163 R_23 rfl rfl)
              have f175 := (show 0 ≤ I163 23 6 ∧ I163 23 6 ≤ 1001 from gc_in hI163 R_23 rfl rfl)
              have f176 := (show 0 ≤ I163 23 7 ∧ I163 23 7 ≤ 125 from gc_in hI163 R_23 rfl rfl)
              have f177 := (show 0 ≤ I163 39 12 ∧ I163 39 12 ≤ 2000 from gc_in hI163 R_39 rfl rfl)
              have f178 := (show 0 ≤ I163 39 15 ∧ I163 39 15 ≤ 41 from gc_in hI163 R_39 rfl rfl)
              have f179 := (show 0 ≤ I163 4 1 ∧ I163 4 1 ≤ 96 from gc_in hI163 R_4 rfl rfl)
              show gv_X _ _ (153, [(1, .inl z31), (0, .inr (.inr (some 39)))], [], sh, gc_h sh I163 J141 A)
              refine gv_run 1 true hD (pc' := 154) (lv' := [(1, .inl z31), (0, .inr (.inr (some 39)))]) (st' := [.inr (.inr (some 39))]) (h' := gc_h sh I163 J141 A) (C := (True ∧ True)) rfl ⟨trivial, trivial⟩ ?_
              refine gv_get hD rfl rfl S_39 ⟨by decide, B_39⟩ (gc_hA S_39 rfl A_39_14) ?_
              show gv_X _ _ (157, [(1, .inl z31), (0, .inr (.inr (some 39)))], [.inr (.inr (some 44))], sh, gc_h sh I163 J141 A)
              refine gv_run 2 true hD (pc' := 159) (lv' := [(1, .inl z31), (0, .inr (.inr (some 39)))]) (st' := [.inr (.inr (some 39)), .inl 0, .inr (.inr (some 44))]) (h' := gc_h sh I163 J141 A) (C := ((True ∧ True) ∧ True)) rfl ⟨⟨trivial, trivial⟩, trivial⟩ ?_
              refine gv_get hD rfl rfl S_39 ⟨by decide, B_39⟩ (gc_hA S_39 rfl A_39_0) ?_
              show gv_X _ _ (162, [(1, .inl z31), (0, .inr (.inr (some 39)))], [.inr (.inr (some 1)), .inl 0, .inr (.inr (some 44))], sh, gc_h sh I163 J141 A)
              refine gv_get hD rfl rfl S_1 ⟨by decide, B_1⟩ (gc_hA S_1 rfl A_1_12) ?_
              show gv_X _ _ (165, [(1, .inl z31), (0, .inr (.inr (some 39)))], [.inr (.inr (some 17)), .inl 0, .inr (.inr (some 44))], sh, gc_h sh I163 J141 A)
              refine gv_run 4 true hD (pc' := 170) (lv' := [(1, .inl z31), (0, .inr (.inr (some 39)))]) (st' := [.inr (.inr (some 39)), .inl (z31 * 40), .inr (.inr (some 17)), .inl 0, .inr (.inr (some 44))]) (h' := gc_h sh I163 J141 A) (C := ((((True ∧ True) ∧ True) ∧ True) ∧ True)) rfl ⟨⟨⟨⟨trivial, trivial⟩, trivial⟩, trivial⟩, trivial⟩ ?_
              have f180 := (show 0 ≤ I163 39 12 ∧ I163 39 12 ≤ 2000 from gc_in hI163 R_39 rfl rfl)
              refine gv_get hD rfl rfl S_39 ⟨by decide, B_39⟩ (gc_hI S_39 rfl) ?_
              show gv_X _ _ (173, [(1, .inl z31), (0, .inr (.inr (some 39)))], [.inl (I163 39 12), .inl (z31 * 40), .inr (.inr (some 17)), .inl 0, .inr (.inr (some 44))], sh, gc_h sh I163 J141 A)
              refine gv_copy hD rfl (gc_lC6_263 hws) (Nat.le_of_ble_eq_true rfl) ⟨B_44, B_17⟩ S_44 S_17 (by decide) ⟨by decide, by decide⟩ ⟨by omega, by omega, by omega⟩ (by omega) (by omega) (fun h => absurd h (by decide)) ?_
              refine gc_cpJ S_44 S_17 (fun J183 p181 q181 => ?_)
              have FJ183 := gc_frp (W := fun q j => (q = 23 ∧ j = 9) ∨ q = 44 ∨ q = 45 ∨ q = 17) (V := fun q j => q = 17 ∧ Int.toNat (z31 * 40) ≤ j ∧ j < Int.toNat (z31 * 40) + Int.toNat (I163 39 12)) FJ141 (fun q j h => (Or.inr (Or.inr (Or.inr h.1)))) p181
              show gv_X _ _ (176, [(1, .inl z31), (0, .inr (.inr (some 39)))], [], sh, gc_h sh I163 J183 A)
              refine gv_run 1 true hD (pc' := 177) (lv' := [(1, .inl z31), (0, .inr (.inr (some 39)))]) (st' := [.inl 1]) (h' := gc_h sh I163 J183 A) (C := (True ∧ True)) rfl ⟨trivial, trivial⟩ ?_
              exact gv_zret hD rfl (by omega) ⟨I163, J183, rfl, hI163, FI163, FJ183, KLT_I163, KTK_I163, (gc_MS_put (f0 := (Int.toNat z31)) (n := I81 39 12) (g := I81 43) KMS_I140 (by omega) (fun k => (p162 12 k (fun h => absurd h.1 (by decide))).trans (p153 12 k (fun h => absurd h.1 (by decide)))) (fun k hk => (p162 15 k (fun h => absurd h.1 (by decide))).trans (p153 15 k (fun h => hk h.2))) (fun k hk => (p162 16 k (fun h => hk (by have := h.2; omega))).trans (p153 16 k (fun h => absurd h.1 (by decide)))) (fun k => (show 0 ≤ I140 15 k ∧ I140 15 k ≤ 40 from gc_in hI140 R_15 rfl rfl).2) (by have h9 := (p162 15 (Int.toNat z31) (fun h => absurd h.1 (by decide))).trans q153; omega) (by omega) ((gc_TZ_of (q80.2.2.2.2.2.2.2.resolve_left (by omega)) (by omega)) (by omega)) (fun k hk => by have h9 := q162 k (by omega); rw [show Int.toNat ((z31 * 40)) = (Int.toNat z31) * 40 from by omega, show Int.toNat 0 + k = k from by omega] at h9; rw [h9]; exact (p153 43 k (fun h => absurd h.1 (by decide))).trans (((g139 43 k).resolve_left (by omega)))) (fun k hk => by have h9 := KTO_I81 k (by omega) (by omega); have h8 : I163 12 (Int.toNat z31) = I 12 (Int.toNat z31) := (FI163 12 (Int.toNat z31)).resolve_left (by omega); omega)), ⟨_, rfl, by omega⟩⟩
            · show gv_X _ _ (115, [(1, .inl z31), (0, .inr (.inr (some 39)))], [], sh, gc_h sh I140 J141 A)
              refine gv_pick [] rfl ?_
              exact L115 I140 J141 hI140 FI140 FJ141 KMS_I140 KLT_I140 KTK_I140 (by omega)
    · show gv_X _ _ (46, [(1, .inl z31), (0, .inr (.inr (some 39)))], [], sh, gc_h sh I21 J A)
      refine gv_run 3 true hD (pc' := 49) (lv' := [(1, .inl z31), (0, .inr (.inr (some 39)))]) (st' := [.inr (.inr (some 39)), .inl 4, .inr (.inr (some 39))]) (h' := gc_h sh I21 J A) (C := (((True ∧ True) ∧ True) ∧ True)) rfl ⟨⟨⟨trivial, trivial⟩, trivial⟩, trivial⟩ ?_
      refine gv_get hD rfl rfl S_39 ⟨by decide, B_39⟩ (gc_hA S_39 rfl A_39_1) ?_
      show gv_X _ _ (52, [(1, .inl z31), (0, .inr (.inr (some 39)))], [.inr (.inr (some 23)), .inl 4, .inr (.inr (some 39))], sh, gc_h sh I21 J A)
      have f184 := (show 0 ≤ I21 23 5 ∧ I21 23 5 ≤ 1000 from gc_in hI21 R_23 rfl rfl)
      refine gv_get hD rfl rfl S_23 ⟨by decide, B_23⟩ (gc_hI S_23 rfl) ?_
      show gv_X _ _ (55, [(1, .inl z31), (0, .inr (.inr (some 39)))], [.inl (I21 23 5), .inl 4, .inr (.inr (some 39))], sh, gc_h sh I21 J A)
      obtain ⟨r185, h185, E185, P185⟩ := d_X6_wrong (ws0 := ws0) (tb := tb) hws htb sh ro I21 J A hI21  4 (I21 23 5) hb   ⟨by omega, by omega⟩ ⟨by omega, by omega⟩  
      obtain ⟨I186, J187, rfl, hI186, g185, k185, ⟨z185, rfl, q185⟩⟩ := P185
      have FI186 := gc_frc (W := fun q j => (q = 39 ∧ j = 3) ∨ (q = 39 ∧ j = 4) ∨ (q = 23 ∧ j = 5) ∨ (q = 23 ∧ j = 6) ∨ (q = 23 ∧ j = 7) ∨ (q = 23 ∧ j = 8) ∨ (q = 39 ∧ j = 12) ∨ (q = 39 ∧ j = 15) ∨ q = 43 ∨ (q = 15 ∧ (I 15 j ≤ 0)) ∨ (q = 16 ∧ (I 15 (j / 40) ≤ 0))) (V := fun q j => (q = 39 ∧ j = 3) ∨ (q = 39 ∧ j = 4)) FI21 (fun q j h => (h.elim (fun h => (Or.inl h)) (fun h => (Or.inr (Or.inl h))))) g185
      have t188 := (g185 23 1).resolve_left (fun h => h.elim (fun h => absurd h.2 (by decide)) (fun h => absurd h.2 (by decide)))
      have t189 := (g185 23 5).resolve_left (fun h => h.elim (fun h => absurd h.2 (by decide)) (fun h => absurd h.2 (by decide)))
      have t190 := (g185 23 6).resolve_left (fun h => h.elim (fun h => absurd h.2 (by decide)) (fun h => absurd h.2 (by decide)))
      have t191 := (g185 23 7).resolve_left (fun h => h.elim (fun h => absurd h.2 (by decide)) (fun h => absurd h.2 (by decide)))
      have t192 := (g185 39 12).resolve_left (fun h => h.elim (fun h => absurd h.2 (by decide)) (fun h => absurd h.2 (by decide)))
      have t193 := (g185 39 15).resolve_left (fun h => h.elim (fun h => absurd h.2 (by decide)) (fun h => absurd h.2 (by decide)))
      have t194 := (g185 4 1).resolve_left (fun h => h.elim (fun h => absurd h.2 (by decide)) (fun h => absurd h.2 (by decide)))
      obtain rfl : J = J187 := funext fun q => funext fun j => ((k185 q j).resolve_left id).symm
      have KLT_I186 := gc_LT_fr KLT_I21 ((g185 23 5).resolve_left (fun h => h.elim (fun h => absurd h.2 (by decide)) (fun h => absurd h.2 (by decide)))) ((g185 23 6).resolve_left (fun h => h.elim (fun h => absurd h.2 (by decide)) (fun h => absurd h.2 (by decide)))) ((g185 23 7).resolve_left (fun h => h.elim (fun h => absurd h.2 (by decide)) (fun h => absurd h.2 (by decide)))) (fun k => (g185 24 k).resolve_left (fun h => h.elim (fun h => absurd h.1 (by decide)) (fun h => absurd h.1 (by decide))))
      have KTK_I186 := gc_TK_fr KTK_I21 ((g185 23 1).resolve_left (fun h => h.elim (fun h => absurd h.2 (by decide)) (fun h => absurd h.2 (by decide)))) ((g185 23 5).resolve_left (fun h => h.elim (fun h => absurd h.2 (by decide)) (fun h => absurd h.2 (by decide)))) ((g185 23 6).resolve_left (fun h => h.elim (fun h => absurd h.2 (by decide)) (fun h => absurd h.2 (by decide)))) ((g185 23 7).resolve_left (fun h => h.elim (fun h => absurd h.2 (by decide)) (fun h => absurd h.2 (by decide))))
      have KMS_I186 := gc_MS_fr KMS_I21 (Int.le_of_eq ((g185 4 1).resolve_left (fun h => h.elim (fun h => absurd h.2 (by decide)) (fun h => absurd h.2 (by decide)))).symm) (fun k => (g185 12 k).resolve_left (fun h => h.elim (fun h => absurd h.1 (by decide)) (fun h => absurd h.1 (by decide)))) (fun k => (g185 15 k).resolve_left (fun h => h.elim (fun h => absurd h.1 (by decide)) (fun h => absurd h.1 (by decide)))) (fun k => (g185 16 k).resolve_left (fun h => h.elim (fun h => absurd h.1 (by decide)) (fun h => absurd h.1 (by decide))))
      refine gv_callV hD rfl (As := [.inl 4, .inl (I21 23 5)]) (st := []) rfl B_39 S_39 rfl (gc_lV6 hws rfl) (Nat.le_of_ble_eq_true rfl) (gz_Ev_mono (d := 1) (by decide) E185) ?_
      show gv_X _ _ (58, [(1, .inl z31), (0, .inr (.inr (some 39)))], [.inl z185], sh, gc_h sh I186 J A)
      exact gv_zret hD rfl (by omega) ⟨I186, J, rfl, hI186, FI186, FJ, KLT_I186, KTK_I186, KMS_I186, ⟨_, rfl, by omega⟩⟩
  · show gv_X _ _ (14, [(0, .inr (.inr (some 39)))], [], sh, gc_h sh I21 J A)
    refine gv_run 1 true hD (pc' := 15) (lv' := [(0, .inr (.inr (some 39)))]) (st' := [.inl 0]) (h' := gc_h sh I21 J A) (C := (True ∧ True)) rfl ⟨trivial, trivial⟩ ?_
    exact gv_zret hD rfl (by omega) ⟨I21, J, rfl, hI21, FI21, FJ, KLT_I21, KTK_I21, KMS_I21, ⟨_, rfl, by omega⟩⟩
