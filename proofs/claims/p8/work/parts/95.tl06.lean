set_option maxHeartbeats 8000000 in
set_option maxRecDepth 100000 in
theorem d_X6_readPart_p {ws0 : List Cond} {tb : String → gz_T} (hws : gc_Ws ws0) (htb : gc_tbs tb) (sh : gz_Sh) (ro : Nat → Nat) (I : gr_I) (J : gr_J) (A : gc_A) (hI : gc_Inv ro I) (B : Int) (β : Int → Int) (η : Int) (p9 : Int)  (hb : gc_Base sh ro A)  (x0 : B ≤ 1280 ∧ I 1 17 + I 23 1 ≤ B + I 23 5) (x1 : gc_AT β η p9 23 I J) (x2 : 0 ≤ p9) (x3 : I 1 18 = 0) (KLT_I : gc_LT I) (KTK_I : gc_TK I) : ∃ r h', gz_Ev ws0 tb 3 (yX6_readPart, cX6_readPart, 1, (some .boolean)) [.inr (.inr (some 39))] sh (gc_h sh I J A) r sh h' 0 0 ∧ (∃ (I' : gr_I) (J' : gr_J), h' = gc_h sh I' J' A ∧ gc_Inv ro I' ∧ (∀ q j : Nat, ((q = 39 ∧ j = 3) ∨ (q = 39 ∧ j = 4) ∨ (q = 23 ∧ j = 5) ∨ (q = 23 ∧ j = 6) ∨ (q = 23 ∧ j = 7) ∨ (q = 23 ∧ j = 8) ∨ (q = 1 ∧ j = 17) ∨ (q = 1 ∧ j = 18) ∨ q = 20) ∨ I' q j = I q j) ∧ (∀ q j : Nat, ((q = 23 ∧ j = 9)) ∨ J' q j = J q j) ∧ gc_LT I' ∧ gc_TK I' ∧ (∃ z : Int, r = some (.inl z) ∧ 0 ≤ z ∧ z ≤ 1 ∧ (I' 23 1 = I 23 1) ∧ (I 23 5 ≤ I' 23 5) ∧ (B ≤ 1280 ∧ I' 1 17 + I' 23 1 ≤ B + I' 23 5) ∧ (I 1 17 ≤ I' 1 17) ∧ (gc_PKs I I') ∧ (gs_Or z (0 ≤ (gs_part β η p9) ∧ gc_AT β η (gs_part β η p9) 23 I' J' ∧ (I' 1 18 = 0 ∧ I 23 5 < I' 23 5) ∧ gc_pb β η p9 I I') ((gs_part β η p9) < 0 ∧ I' 39 4 = -1 - (gs_part β η p9))))) := by
  have FI : ∀ q j : Nat, ((q = 39 ∧ j = 3) ∨ (q = 39 ∧ j = 4) ∨ (q = 23 ∧ j = 5) ∨ (q = 23 ∧ j = 6) ∨ (q = 23 ∧ j = 7) ∨ (q = 23 ∧ j = 8) ∨ (q = 1 ∧ j = 17) ∨ (q = 1 ∧ j = 18) ∨ q = 20) ∨ I q j = I q j := fun _ _ => Or.inr rfl
  have FJ : ∀ q j : Nat, ((q = 23 ∧ j = 9)) ∨ J q j = J q j := fun _ _ => Or.inr rfl
  have A_39_0 : A 39 0 = some 1 := gc_bA_39_0 hb
  have A_39_1 : A 39 1 = some 23 := gc_bA_39_1 hb
  have B_1 : 1 < 1000000 := by decide
  have B_23 : 23 < 1000000 := by decide
  have B_39 : 39 < 1000000 := by decide
  have R_1 : ro 1 = 22 := gc_bR_1 hb
  have R_23 : ro 23 = 3 := gc_bR_23 hb
  have S_1 : sh[1]? = some (false, 8, 21) := gc_bS_1 hb
  have S_23 : sh[23]? = some (false, 9, 10) := gc_bS_23 hb
  have S_39 : sh[39]? = some (false, 6, 19) := gc_bS_39 hb
  have hD : gv_D (gc_E6 ws0 tb 2 (yX6_readPart, cX6_readPart, 1, (some .boolean)) kX6_readPart) := gq_of oX6_readPart
  refine gc_ev6 (d := 2) (l := kX6_readPart) (Po := fun r h' => (∃ (I' : gr_I) (J' : gr_J), h' = gc_h sh I' J' A ∧ gc_Inv ro I' ∧ (∀ q j : Nat, ((q = 39 ∧ j = 3) ∨ (q = 39 ∧ j = 4) ∨ (q = 23 ∧ j = 5) ∨ (q = 23 ∧ j = 6) ∨ (q = 23 ∧ j = 7) ∨ (q = 23 ∧ j = 8) ∨ (q = 1 ∧ j = 17) ∨ (q = 1 ∧ j = 18) ∨ q = 20) ∨ I' q j = I q j) ∧ (∀ q j : Nat, ((q = 23 ∧ j = 9)) ∨ J' q j = J q j) ∧ gc_LT I' ∧ gc_TK I' ∧ (∃ z : Int, r = some (.inl z) ∧ 0 ≤ z ∧ z ≤ 1 ∧ (I' 23 1 = I 23 1) ∧ (I 23 5 ≤ I' 23 5) ∧ (B ≤ 1280 ∧ I' 1 17 + I' 23 1 ≤ B + I' 23 5) ∧ (I 1 17 ≤ I' 1 17) ∧ (gc_PKs I I') ∧ (gs_Or z (0 ≤ (gs_part β η p9) ∧ gc_AT β η (gs_part β η p9) 23 I' J' ∧ (I' 1 18 = 0 ∧ I 23 5 < I' 23 5) ∧ gc_pb β η p9 I I') ((gs_part β η p9) < 0 ∧ I' 39 4 = -1 - (gs_part β η p9)))))) htb rfl (Nat.le_of_ble_eq_true rfl) ?_
  have KPK_I : gc_PKs I I := gc_PKs_rf
  have t1 := gc_TK_mo KTK_I
  have f2 := (gc_b_3_1 hI R_23)
  have f3 := (gc_b_3_5 hI R_23)
  have f4 := (gc_b_3_6 hI R_23)
  have f5 := (gc_b_3_7 hI R_23)
  have f6 := (gc_b_22_17 hI R_1)
  have f7 := (gc_b_3_8 hI R_23)
  have f8 := (gc_b_22_18 hI R_1)
  have tAT := gc_AT_l x1
  refine gv_run 1 true hD (pc' := 1) (lv' := [(0, .inr (.inr (some 39)))]) (st' := [.inr (.inr (some 39))]) (h' := gc_h sh I J A) (C := (True ∧ True)) rfl ⟨trivial, trivial⟩ ?_
  refine gv_get hD rfl rfl S_39 ⟨by decide, B_39⟩ (gc_hA S_39 rfl A_39_1) ?_
  show gv_X _ _ (4, [(0, .inr (.inr (some 39)))], [.inr (.inr (some 23))], sh, gc_h sh I J A)
  have f9 := (gc_b_3_7 hI R_23)
  refine gv_get hD rfl rfl S_23 ⟨by decide, B_23⟩ (gc_hI S_23 rfl) ?_
  show gv_X _ _ (7, [(0, .inr (.inr (some 39)))], [.inl (I 23 7)], sh, gc_h sh I J A)
  refine gv_run 1 true hD (pc' := 8) (lv' := [(0, .inr (.inr (some 39)))]) (st' := [.inl 3, .inl (I 23 7)]) (h' := gc_h sh I J A) (C := (True ∧ True)) rfl ⟨trivial, trivial⟩ ?_
  refine gv_icmp_ne (t := 19) hD rfl rfl ⟨⟨by exact gz_m 0 (by omega), by exact gz_m 1 (by omega)⟩, ⟨by exact gz_m 2 (by omega), by exact gz_m 3 (by omega)⟩⟩ (fun c10 => ?_) (fun c10 => ?_)
  · show gv_X _ _ (19, [(0, .inr (.inr (some 39)))], [], sh, gc_h sh I J A)
    refine gv_run 2 true hD (pc' := 21) (lv' := [(0, .inr (.inr (some 39)))]) (st' := [.inl 2, .inr (.inr (some 39))]) (h' := gc_h sh I J A) (C := ((True ∧ True) ∧ True)) rfl ⟨⟨trivial, trivial⟩, trivial⟩ ?_
    obtain ⟨r11, h11, E11, P11⟩ := d_X6_need_p (ws0 := ws0) (tb := tb) hws htb sh ro I J A hI  β η p9 2 hb   ⟨by exact gz_m 4 (by omega), by exact gz_m 5 (by omega)⟩ x1 (by exact gz_m 6 (by omega)) 
    obtain ⟨I12, J13, rfl, hI12, g11, k11, ⟨z11, rfl, q11⟩⟩ := P11
    have FI12 := gc_frc (W := fun q j => (q = 39 ∧ j = 3) ∨ (q = 39 ∧ j = 4) ∨ (q = 23 ∧ j = 5) ∨ (q = 23 ∧ j = 6) ∨ (q = 23 ∧ j = 7) ∨ (q = 23 ∧ j = 8) ∨ (q = 1 ∧ j = 17) ∨ (q = 1 ∧ j = 18) ∨ q = 20) (V := fun q j => (q = 39 ∧ j = 3) ∨ (q = 39 ∧ j = 4)) FI (fun q j h => (h.elim (fun h => (Or.inl h)) (fun h => (Or.inr (Or.inl h))))) g11
    have t14 := (g11 23 1).resolve_left (fun h => h.elim (fun h => absurd h.2 (gz_ne rfl)) (fun h => absurd h.2 (gz_ne rfl)))
    have t15 := (g11 23 5).resolve_left (fun h => h.elim (fun h => absurd h.2 (gz_ne rfl)) (fun h => absurd h.2 (gz_ne rfl)))
    have t16 := (g11 23 6).resolve_left (fun h => h.elim (fun h => absurd h.2 (gz_ne rfl)) (fun h => absurd h.2 (gz_ne rfl)))
    have t17 := (g11 23 7).resolve_left (fun h => h.elim (fun h => absurd h.2 (gz_ne rfl)) (fun h => absurd h.2 (gz_ne rfl)))
    have t18 := (g11 1 17).resolve_left (fun h => h.elim (fun h => absurd h.2 (gz_ne rfl)) (fun h => absurd h.2 (gz_ne rfl)))
    have t19 := (g11 23 8).resolve_left (fun h => h.elim (fun h => absurd h.2 (gz_ne rfl)) (fun h => absurd h.2 (gz_ne rfl)))
    have t20 := (g11 1 18).resolve_left (fun h => h.elim (fun h => absurd h.2 (gz_ne rfl)) (fun h => absurd h.2 (gz_ne rfl)))
    obtain rfl : J = J13 := funext fun q => funext fun j => ((k11 q j).resolve_left id).symm
    have KLT_I12 := gc_LT_fr KLT_I ((g11 23 5).resolve_left (fun h => h.elim (fun h => absurd h.2 (gz_ne rfl)) (fun h => absurd h.2 (gz_ne rfl)))) ((g11 23 6).resolve_left (fun h => h.elim (fun h => absurd h.2 (gz_ne rfl)) (fun h => absurd h.2 (gz_ne rfl)))) ((g11 23 7).resolve_left (fun h => h.elim (fun h => absurd h.2 (gz_ne rfl)) (fun h => absurd h.2 (gz_ne rfl)))) (fun k => (g11 24 k).resolve_left (fun h => h.elim (fun h => absurd h.1 (gz_ne rfl)) (fun h => absurd h.1 (gz_ne rfl))))
    have KTK_I12 := gc_TK_fr KTK_I ((g11 23 1).resolve_left (fun h => h.elim (fun h => absurd h.2 (gz_ne rfl)) (fun h => absurd h.2 (gz_ne rfl)))) ((g11 23 5).resolve_left (fun h => h.elim (fun h => absurd h.2 (gz_ne rfl)) (fun h => absurd h.2 (gz_ne rfl)))) ((g11 23 6).resolve_left (fun h => h.elim (fun h => absurd h.2 (gz_ne rfl)) (fun h => absurd h.2 (gz_ne rfl)))) ((g11 23 7).resolve_left (fun h => h.elim (fun h => absurd h.2 (gz_ne rfl)) (fun h => absurd h.2 (gz_ne rfl))))
    have KPK_I12 := gc_PKs_fr KPK_I ((g11 1 17).resolve_left (fun h => h.elim (fun h => absurd h.2 (gz_ne rfl)) (fun h => absurd h.2 (gz_ne rfl)))) (fun k => (g11 20 k).resolve_left (fun h => h.elim (fun h => absurd h.1 (gz_ne rfl)) (fun h => absurd h.1 (gz_ne rfl))))
    have A21 := gc_AT_I x1 ((g11 23 1).resolve_left (fun h => h.elim (fun h => absurd h.2 (gz_ne rfl)) (fun h => absurd h.2 (gz_ne rfl)))) ((g11 23 5).resolve_left (fun h => h.elim (fun h => absurd h.2 (gz_ne rfl)) (fun h => absurd h.2 (gz_ne rfl)))) ((g11 23 6).resolve_left (fun h => h.elim (fun h => absurd h.2 (gz_ne rfl)) (fun h => absurd h.2 (gz_ne rfl)))) ((g11 23 7).resolve_left (fun h => h.elim (fun h => absurd h.2 (gz_ne rfl)) (fun h => absurd h.2 (gz_ne rfl)))) ((g11 23 8).resolve_left (fun h => h.elim (fun h => absurd h.2 (gz_ne rfl)) (fun h => absurd h.2 (gz_ne rfl)))) (fun k => (g11 24 k).resolve_left (fun h => h.elim (fun h => absurd h.1 (gz_ne rfl)) (fun h => absurd h.1 (gz_ne rfl))))
    have t22 := gc_AT_l A21
    refine gv_callV hD rfl (As := [.inl 2]) (st := []) rfl B_39 S_39 rfl (gc_lV6 hws rfl) (Nat.le_of_ble_eq_true rfl) (gz_Ev_mono (d := 2) (by decide) E11) ?_
    show gv_X _ _ (24, [(0, .inr (.inr (some 39)))], [.inl z11], sh, gc_h sh I12 J A)
    refine gv_if_ne (t := 29) hD rfl rfl ⟨by exact gz_m 7 (by omega), by exact gz_m 8 (by omega)⟩ (fun c23 => ?_) (fun c23 => ?_)
    · show gv_X _ _ (29, [(0, .inr (.inr (some 39)))], [], sh, gc_h sh I12 J A)
      have u24 := gs_or1 q11.2.2.2 (by exact gz_m 9 (by omega))
      have t25 := (gc_AT_v A21 (by exact gz_m 10 (by omega)))
      refine gv_run 1 true hD (pc' := 30) (lv' := [(0, .inr (.inr (some 39)))]) (st' := [.inr (.inr (some 39))]) (h' := gc_h sh I12 J A) (C := (True ∧ True)) rfl ⟨trivial, trivial⟩ ?_
      refine gv_get hD rfl rfl S_39 ⟨by decide, B_39⟩ (gc_hA S_39 rfl A_39_1) ?_
      show gv_X _ _ (33, [(0, .inr (.inr (some 39)))], [.inr (.inr (some 23))], sh, gc_h sh I12 J A)
      have f26 := (gc_b_3_8 hI12 R_23)
      refine gv_get hD rfl rfl S_23 ⟨by decide, B_23⟩ (gc_hI S_23 rfl) ?_
      show gv_X _ _ (36, [(0, .inr (.inr (some 39)))], [.inl (I12 23 8)], sh, gc_h sh I12 J A)
      refine gv_run 1 true hD (pc' := 37) (lv' := [(0, .inr (.inr (some 39)))]) (st' := [.inl 1, .inl (I12 23 8)]) (h' := gc_h sh I12 J A) (C := (True ∧ True)) rfl ⟨trivial, trivial⟩ ?_
      refine gv_icmp_lt (t := 51) hD rfl rfl ⟨⟨by exact gz_m 11 (by omega), by exact gz_m 12 (by omega)⟩, ⟨by exact gz_m 13 (by omega), by exact gz_m 14 (by omega)⟩⟩ (fun c27 => ?_) (fun c27 => ?_)
      · show gv_X _ _ (51, [(0, .inr (.inr (some 39)))], [], sh, gc_h sh I12 J A)
        refine gv_run 3 true hD (pc' := 54) (lv' := [(0, .inr (.inr (some 39)))]) (st' := [.inr (.inr (some 39)), .inl 5, .inr (.inr (some 39))]) (h' := gc_h sh I12 J A) (C := (((True ∧ True) ∧ True) ∧ True)) rfl ⟨⟨⟨trivial, trivial⟩, trivial⟩, trivial⟩ ?_
        refine gv_get hD rfl rfl S_39 ⟨by decide, B_39⟩ (gc_hA S_39 rfl A_39_1) ?_
        show gv_X _ _ (57, [(0, .inr (.inr (some 39)))], [.inr (.inr (some 23)), .inl 5, .inr (.inr (some 39))], sh, gc_h sh I12 J A)
        have f28 := (gc_b_3_5 hI12 R_23)
        refine gv_get hD rfl rfl S_23 ⟨by decide, B_23⟩ (gc_hI S_23 rfl) ?_
        show gv_X _ _ (60, [(0, .inr (.inr (some 39)))], [.inl (I12 23 5), .inl 5, .inr (.inr (some 39))], sh, gc_h sh I12 J A)
        obtain ⟨r29, h29, E29, P29⟩ := d_X6_wrong_p (ws0 := ws0) (tb := tb) hws htb sh ro I12 J A hI12  5 (I12 23 5) hb   ⟨by exact gz_m 15 (by omega), by exact gz_m 16 (by omega)⟩ ⟨by exact gz_m 17 (by omega), by exact gz_m 18 (by omega)⟩  
        obtain ⟨I30, J31, rfl, hI30, g29, k29, ⟨z29, rfl, q29⟩⟩ := P29
        have FI30 := gc_frc (W := fun q j => (q = 39 ∧ j = 3) ∨ (q = 39 ∧ j = 4) ∨ (q = 23 ∧ j = 5) ∨ (q = 23 ∧ j = 6) ∨ (q = 23 ∧ j = 7) ∨ (q = 23 ∧ j = 8) ∨ (q = 1 ∧ j = 17) ∨ (q = 1 ∧ j = 18) ∨ q = 20) (V := fun q j => (q = 39 ∧ j = 3) ∨ (q = 39 ∧ j = 4)) FI12 (fun q j h => (h.elim (fun h => (Or.inl h)) (fun h => (Or.inr (Or.inl h))))) g29
        have t32 := (g29 23 1).resolve_left (fun h => h.elim (fun h => absurd h.2 (gz_ne rfl)) (fun h => absurd h.2 (gz_ne rfl)))
        have t33 := (g29 23 5).resolve_left (fun h => h.elim (fun h => absurd h.2 (gz_ne rfl)) (fun h => absurd h.2 (gz_ne rfl)))
        have t34 := (g29 23 6).resolve_left (fun h => h.elim (fun h => absurd h.2 (gz_ne rfl)) (fun h => absurd h.2 (gz_ne rfl)))
        have t35 := (g29 23 7).resolve_left (fun h => h.elim (fun h => absurd h.2 (gz_ne rfl)) (fun h => absurd h.2 (gz_ne rfl)))
        have t36 := (g29 1 17).resolve_left (fun h => h.elim (fun h => absurd h.2 (gz_ne rfl)) (fun h => absurd h.2 (gz_ne rfl)))
        have t37 := (g29 23 8).resolve_left (fun h => h.elim (fun h => absurd h.2 (gz_ne rfl)) (fun h => absurd h.2 (gz_ne rfl)))
        have t38 := (g29 1 18).resolve_left (fun h => h.elim (fun h => absurd h.2 (gz_ne rfl)) (fun h => absurd h.2 (gz_ne rfl)))
        obtain rfl : J = J31 := funext fun q => funext fun j => ((k29 q j).resolve_left id).symm
        have KLT_I30 := gc_LT_fr KLT_I12 ((g29 23 5).resolve_left (fun h => h.elim (fun h => absurd h.2 (gz_ne rfl)) (fun h => absurd h.2 (gz_ne rfl)))) ((g29 23 6).resolve_left (fun h => h.elim (fun h => absurd h.2 (gz_ne rfl)) (fun h => absurd h.2 (gz_ne rfl)))) ((g29 23 7).resolve_left (fun h => h.elim (fun h => absurd h.2 (gz_ne rfl)) (fun h => absurd h.2 (gz_ne rfl)))) (fun k => (g29 24 k).resolve_left (fun h => h.elim (fun h => absurd h.1 (gz_ne rfl)) (fun h => absurd h.1 (gz_ne rfl))))
        have KTK_I30 := gc_TK_fr KTK_I12 ((g29 23 1).resolve_left (fun h => h.elim (fun h => absurd h.2 (gz_ne rfl)) (fun h => absurd h.2 (gz_ne rfl)))) ((g29 23 5).resolve_left (fun h => h.elim (fun h => absurd h.2 (gz_ne rfl)) (fun h => absurd h.2 (gz_ne rfl)))) ((g29 23 6).resolve_left (fun h => h.elim (fun h => absurd h.2 (gz_ne rfl)) (fun h => absurd h.2 (gz_ne rfl)))) ((g29 23 7).resolve_left (fun h => h.elim (fun h => absurd h.2 (gz_ne rfl)) (fun h => absurd h.2 (gz_ne rfl))))
        have KPK_I30 := gc_PKs_fr KPK_I12 ((g29 1 17).resolve_left (fun h => h.elim (fun h => absurd h.2 (gz_ne rfl)) (fun h => absurd h.2 (gz_ne rfl)))) (fun k => (g29 20 k).resolve_left (fun h => h.elim (fun h => absurd h.1 (gz_ne rfl)) (fun h => absurd h.1 (gz_ne rfl))))
        have A39 := gc_AT_I A21 ((g29 23 1).resolve_left (fun h => h.elim (fun h => absurd h.2 (gz_ne rfl)) (fun h => absurd h.2 (gz_ne rfl)))) ((g29 23 5).resolve_left (fun h => h.elim (fun h => absurd h.2 (gz_ne rfl)) (fun h => absurd h.2 (gz_ne rfl)))) ((g29 23 6).resolve_left (fun h => h.elim (fun h => absurd h.2 (gz_ne rfl)) (fun h => absurd h.2 (gz_ne rfl)))) ((g29 23 7).resolve_left (fun h => h.elim (fun h => absurd h.2 (gz_ne rfl)) (fun h => absurd h.2 (gz_ne rfl)))) ((g29 23 8).resolve_left (fun h => h.elim (fun h => absurd h.2 (gz_ne rfl)) (fun h => absurd h.2 (gz_ne rfl)))) (fun k => (g29 24 k).resolve_left (fun h => h.elim (fun h => absurd h.1 (gz_ne rfl)) (fun h => absurd h.1 (gz_ne rfl))))
        have t40 := gc_AT_l A39
        refine gv_callV hD rfl (As := [.inl 5, .inl (I12 23 5)]) (st := []) rfl B_39 S_39 rfl (gc_lV6 hws rfl) (Nat.le_of_ble_eq_true rfl) (gz_Ev_mono (d := 1) (by decide) E29) ?_
        show gv_X _ _ (63, [(0, .inr (.inr (some 39)))], [.inl z29], sh, gc_h sh I30 J A)
        exact gv_zret hD rfl (by exact gz_m 19 (by omega)) ⟨I30, J, rfl, hI30, FI30, FJ, KLT_I30, KTK_I30, ⟨_, rfl, by exact gz_m 20 (by omega), by exact gz_m 21 (by omega), by exact gz_m 22 (by omega), by exact gz_m 23 (by omega), by exact gz_m 24 (by omega), by exact gz_m 25 (by omega), KPK_I30, (Or.inr ⟨by exact gz_m 26 (by omega), by first | (exfalso; exact gz_m 27 (by omega)) | (unfold gs_part; (repeat first | rw [if_pos (by exact gz_m 28 (by omega))] | rw [if_neg (by exact gz_m 29 (by omega))]); exact ⟨by exact gz_m 30 (by omega), by exact gz_m 31 (by omega)⟩)⟩)⟩⟩
      · show gv_X _ _ (40, [(0, .inr (.inr (some 39)))], [], sh, gc_h sh I12 J A)
        refine gv_run 1 true hD (pc' := 41) (lv' := [(0, .inr (.inr (some 39)))]) (st' := [.inr (.inr (some 39))]) (h' := gc_h sh I12 J A) (C := (True ∧ True)) rfl ⟨trivial, trivial⟩ ?_
        refine gv_get hD rfl rfl S_39 ⟨by decide, B_39⟩ (gc_hA S_39 rfl A_39_1) ?_
        show gv_X _ _ (44, [(0, .inr (.inr (some 39)))], [.inr (.inr (some 23))], sh, gc_h sh I12 J A)
        have f41 := (gc_b_3_8 hI12 R_23)
        refine gv_get hD rfl rfl S_23 ⟨by decide, B_23⟩ (gc_hI S_23 rfl) ?_
        show gv_X _ _ (47, [(0, .inr (.inr (some 39)))], [.inl (I12 23 8)], sh, gc_h sh I12 J A)
        refine gv_run 1 true hD (pc' := 48) (lv' := [(0, .inr (.inr (some 39)))]) (st' := [.inl 3, .inl (I12 23 8)]) (h' := gc_h sh I12 J A) (C := (True ∧ True)) rfl ⟨trivial, trivial⟩ ?_
        refine gv_icmp_le (t := 64) hD rfl rfl ⟨⟨by exact gz_m 32 (by omega), by exact gz_m 33 (by omega)⟩, ⟨by exact gz_m 34 (by omega), by exact gz_m 35 (by omega)⟩⟩ (fun c42 => ?_) (fun c42 => ?_)
        · show gv_X _ _ (64, [(0, .inr (.inr (some 39)))], [], sh, gc_h sh I12 J A)
          have t43 := gc_TK_st KTK_I12 (by exact gz_m 36 (by omega))
          refine gv_run 1 true hD (pc' := 65) (lv' := [(0, .inr (.inr (some 39)))]) (st' := [.inr (.inr (some 39))]) (h' := gc_h sh I12 J A) (C := (True ∧ True)) rfl ⟨trivial, trivial⟩ ?_
          refine gv_get hD rfl rfl S_39 ⟨by decide, B_39⟩ (gc_hA S_39 rfl A_39_0) ?_
          show gv_X _ _ (68, [(0, .inr (.inr (some 39)))], [.inr (.inr (some 1))], sh, gc_h sh I12 J A)
          refine gv_run 1 true hD (pc' := 69) (lv' := [(0, .inr (.inr (some 39)))]) (st' := [.inr (.inr (some 39)), .inr (.inr (some 1))]) (h' := gc_h sh I12 J A) (C := (True ∧ True)) rfl ⟨trivial, trivial⟩ ?_
          refine gv_get hD rfl rfl S_39 ⟨by decide, B_39⟩ (gc_hA S_39 rfl A_39_1) ?_
          show gv_X _ _ (72, [(0, .inr (.inr (some 39)))], [.inr (.inr (some 23)), .inr (.inr (some 1))], sh, gc_h sh I12 J A)
          have f44 := (gc_b_3_8 hI12 R_23)
          refine gv_get hD rfl rfl S_23 ⟨by decide, B_23⟩ (gc_hI S_23 rfl) ?_
          show gv_X _ _ (75, [(0, .inr (.inr (some 39)))], [.inl (I12 23 8), .inr (.inr (some 1))], sh, gc_h sh I12 J A)
          obtain ⟨r45, h45, E45, P45⟩ := d_X8_keepByte_p (ws0 := ws0) (tb := tb) hws htb sh ro I12 J A hI12  (I12 23 8) hb   ⟨by exact gz_m 37 (by omega), by exact gz_m 38 (by omega)⟩  
          obtain ⟨I46, J47, rfl, hI46, g45, k45, ⟨rfl, q45⟩⟩ := P45
          have FI46 := gc_frc (W := fun q j => (q = 39 ∧ j = 3) ∨ (q = 39 ∧ j = 4) ∨ (q = 23 ∧ j = 5) ∨ (q = 23 ∧ j = 6) ∨ (q = 23 ∧ j = 7) ∨ (q = 23 ∧ j = 8) ∨ (q = 1 ∧ j = 17) ∨ (q = 1 ∧ j = 18) ∨ q = 20) (V := fun q j => (q = 1 ∧ j = 17) ∨ (q = 1 ∧ j = 18) ∨ q = 20) FI12 (fun q j h => (h.elim (fun h => (Or.inr (Or.inr (Or.inr (Or.inr (Or.inr (Or.inr (Or.inl h)))))))) (fun h => (h.elim (fun h => (Or.inr (Or.inr (Or.inr (Or.inr (Or.inr (Or.inr (Or.inr (Or.inl h))))))))) (fun h => (Or.inr (Or.inr (Or.inr (Or.inr (Or.inr (Or.inr (Or.inr (Or.inr h))))))))))))) g45
          have t48 := (g45 23 1).resolve_left (fun h => h.elim (fun h => absurd h.2 (gz_ne rfl)) (fun h => h.elim (fun h => absurd h.2 (gz_ne rfl)) (fun h => absurd h (gz_ne rfl))))
          have t49 := (g45 23 5).resolve_left (fun h => h.elim (fun h => absurd h.2 (gz_ne rfl)) (fun h => h.elim (fun h => absurd h.2 (gz_ne rfl)) (fun h => absurd h (gz_ne rfl))))
          have t50 := (g45 23 6).resolve_left (fun h => h.elim (fun h => absurd h.2 (gz_ne rfl)) (fun h => h.elim (fun h => absurd h.2 (gz_ne rfl)) (fun h => absurd h (gz_ne rfl))))
          have t51 := (g45 23 7).resolve_left (fun h => h.elim (fun h => absurd h.2 (gz_ne rfl)) (fun h => h.elim (fun h => absurd h.2 (gz_ne rfl)) (fun h => absurd h (gz_ne rfl))))
          have t52 := (g45 23 8).resolve_left (fun h => h.elim (fun h => absurd h.2 (gz_ne rfl)) (fun h => h.elim (fun h => absurd h.2 (gz_ne rfl)) (fun h => absurd h (gz_ne rfl))))
          have f53 := (gc_b_22_17 hI46 R_1)
          have f54 := (gc_b_22_18 hI46 R_1)
          obtain rfl : J = J47 := funext fun q => funext fun j => ((k45 q j).resolve_left id).symm
          have KLT_I46 := gc_LT_fr KLT_I12 ((g45 23 5).resolve_left (fun h => h.elim (fun h => absurd h.2 (gz_ne rfl)) (fun h => h.elim (fun h => absurd h.2 (gz_ne rfl)) (fun h => absurd h (gz_ne rfl))))) ((g45 23 6).resolve_left (fun h => h.elim (fun h => absurd h.2 (gz_ne rfl)) (fun h => h.elim (fun h => absurd h.2 (gz_ne rfl)) (fun h => absurd h (gz_ne rfl))))) ((g45 23 7).resolve_left (fun h => h.elim (fun h => absurd h.2 (gz_ne rfl)) (fun h => h.elim (fun h => absurd h.2 (gz_ne rfl)) (fun h => absurd h (gz_ne rfl))))) (fun k => (g45 24 k).resolve_left (fun h => h.elim (fun h => absurd h.1 (gz_ne rfl)) (fun h => h.elim (fun h => absurd h.1 (gz_ne rfl)) (fun h => absurd h (gz_ne rfl)))))
          have KTK_I46 := gc_TK_fr KTK_I12 ((g45 23 1).resolve_left (fun h => h.elim (fun h => absurd h.2 (gz_ne rfl)) (fun h => h.elim (fun h => absurd h.2 (gz_ne rfl)) (fun h => absurd h (gz_ne rfl))))) ((g45 23 5).resolve_left (fun h => h.elim (fun h => absurd h.2 (gz_ne rfl)) (fun h => h.elim (fun h => absurd h.2 (gz_ne rfl)) (fun h => absurd h (gz_ne rfl))))) ((g45 23 6).resolve_left (fun h => h.elim (fun h => absurd h.2 (gz_ne rfl)) (fun h => h.elim (fun h => absurd h.2 (gz_ne rfl)) (fun h => absurd h (gz_ne rfl))))) ((g45 23 7).resolve_left (fun h => h.elim (fun h => absurd h.2 (gz_ne rfl)) (fun h => h.elim (fun h => absurd h.2 (gz_ne rfl)) (fun h => absurd h (gz_ne rfl)))))
          have l45 := q45.2.2.2.1
          have KPK_I46 := gc_PKs_tr KPK_I12 l45
          have A55 := gc_AT_I A21 ((g45 23 1).resolve_left (fun h => h.elim (fun h => absurd h.2 (gz_ne rfl)) (fun h => h.elim (fun h => absurd h.2 (gz_ne rfl)) (fun h => absurd h (gz_ne rfl))))) ((g45 23 5).resolve_left (fun h => h.elim (fun h => absurd h.2 (gz_ne rfl)) (fun h => h.elim (fun h => absurd h.2 (gz_ne rfl)) (fun h => absurd h (gz_ne rfl))))) ((g45 23 6).resolve_left (fun h => h.elim (fun h => absurd h.2 (gz_ne rfl)) (fun h => h.elim (fun h => absurd h.2 (gz_ne rfl)) (fun h => absurd h (gz_ne rfl))))) ((g45 23 7).resolve_left (fun h => h.elim (fun h => absurd h.2 (gz_ne rfl)) (fun h => h.elim (fun h => absurd h.2 (gz_ne rfl)) (fun h => absurd h (gz_ne rfl))))) ((g45 23 8).resolve_left (fun h => h.elim (fun h => absurd h.2 (gz_ne rfl)) (fun h => h.elim (fun h => absurd h.2 (gz_ne rfl)) (fun h => absurd h (gz_ne rfl))))) (fun k => (g45 24 k).resolve_left (fun h => h.elim (fun h => absurd h.1 (gz_ne rfl)) (fun h => h.elim (fun h => absurd h.1 (gz_ne rfl)) (fun h => absurd h (gz_ne rfl)))))
          have t56 := gc_AT_l A55
          have kb45 := q45.2.2.2.2 (by exact gz_m 39 (by omega))
          refine gv_callV hD rfl (As := [.inl (I12 23 8)]) (st := []) rfl B_1 S_1 rfl (gc_lV6 hws rfl) (Nat.le_of_ble_eq_true rfl) (gz_Ev_mono (d := 1) (by decide) E45) ?_
          show gv_X _ _ (78, [(0, .inr (.inr (some 39)))], [], sh, gc_h sh I46 J A)
          refine gv_run 1 true hD (pc' := 79) (lv' := [(0, .inr (.inr (some 39)))]) (st' := [.inr (.inr (some 39))]) (h' := gc_h sh I46 J A) (C := (True ∧ True)) rfl ⟨trivial, trivial⟩ ?_
          refine gv_get hD rfl rfl S_39 ⟨by decide, B_39⟩ (gc_hA S_39 rfl A_39_1) ?_
          show gv_X _ _ (82, [(0, .inr (.inr (some 39)))], [.inr (.inr (some 23))], sh, gc_h sh I46 J A)
          have t58 := gc_TK_nx KTK_I46 (by exact gz_m 40 (by omega))
          have t59 := gc_TK_st KTK_I46 (by exact gz_m 41 (by omega))
          obtain ⟨r57, h57, E57, P57⟩ := d_X9_advance_p (ws0 := ws0) (tb := tb) hws htb sh ro I46 J A hI46 23 β η  (gc_b23 hb)    (by exact gz_m 42 (by omega)) A55.1.1 A55.1.2 
          obtain ⟨I60, J61, rfl, hI60, g57, k57, ⟨rfl, V57_0, V57_1, V57_2, V57_3, V57_4, q57⟩⟩ := P57
          have FI60 := gc_frc (W := fun q j => (q = 39 ∧ j = 3) ∨ (q = 39 ∧ j = 4) ∨ (q = 23 ∧ j = 5) ∨ (q = 23 ∧ j = 6) ∨ (q = 23 ∧ j = 7) ∨ (q = 23 ∧ j = 8) ∨ (q = 1 ∧ j = 17) ∨ (q = 1 ∧ j = 18) ∨ q = 20) (V := fun q j => (q = 23 ∧ j = 5) ∨ (q = 23 ∧ j = 6) ∨ (q = 23 ∧ j = 7) ∨ (q = 23 ∧ j = 8)) FI46 (fun q j h => (h.elim (fun h => (Or.inr (Or.inr (Or.inl h)))) (fun h => (h.elim (fun h => (Or.inr (Or.inr (Or.inr (Or.inl h))))) (fun h => (h.elim (fun h => (Or.inr (Or.inr (Or.inr (Or.inr (Or.inl h)))))) (fun h => (Or.inr (Or.inr (Or.inr (Or.inr (Or.inr (Or.inl h))))))))))))) g57
          have FJ61 := gc_frc (W := fun q j => (q = 23 ∧ j = 9)) (V := fun q j => (q = 23 ∧ j = 9)) FJ (fun q j h => h) k57
          have t62 := (g57 23 1).resolve_left (fun h => h.elim (fun h => absurd h.2 (gz_ne rfl)) (fun h => h.elim (fun h => absurd h.2 (gz_ne rfl)) (fun h => h.elim (fun h => absurd h.2 (gz_ne rfl)) (fun h => absurd h.2 (gz_ne rfl)))))
          have t63 := (g57 1 17).resolve_left (fun h => h.elim (fun h => absurd h.2 (gz_ne rfl)) (fun h => h.elim (fun h => absurd h.2 (gz_ne rfl)) (fun h => h.elim (fun h => absurd h.2 (gz_ne rfl)) (fun h => absurd h.2 (gz_ne rfl)))))
          have t64 := (g57 1 18).resolve_left (fun h => h.elim (fun h => absurd h.2 (gz_ne rfl)) (fun h => h.elim (fun h => absurd h.2 (gz_ne rfl)) (fun h => h.elim (fun h => absurd h.2 (gz_ne rfl)) (fun h => absurd h.2 (gz_ne rfl)))))
          have f65 := (gc_b_3_5 hI60 R_23)
          have f66 := (gc_b_3_6 hI60 R_23)
          have f67 := (gc_b_3_7 hI60 R_23)
          have f68 := (gc_b_3_8 hI60 R_23)
          have KLT_I60 : gc_LT I60 := q57.2.2.1
          have KPK_I60 := gc_PKs_fr KPK_I46 ((g57 1 17).resolve_left (fun h => h.elim (fun h => absurd h.2 (gz_ne rfl)) (fun h => h.elim (fun h => absurd h.2 (gz_ne rfl)) (fun h => h.elim (fun h => absurd h.2 (gz_ne rfl)) (fun h => absurd h.2 (gz_ne rfl)))))) (fun k => (g57 20 k).resolve_left (fun h => h.elim (fun h => absurd h.1 (gz_ne rfl)) (fun h => h.elim (fun h => absurd h.1 (gz_ne rfl)) (fun h => h.elim (fun h => absurd h.1 (gz_ne rfl)) (fun h => absurd h.1 (gz_ne rfl))))))
          have KTK_I60 : gc_TK I60 := And.intro V57_0 (And.intro V57_1 (And.intro V57_2 (And.intro V57_3 V57_4)))
          have t69 := gc_TK_mo KTK_I60
          clear V57_0 V57_1 V57_2 V57_3 V57_4
          have A70 := gc_AT_nx A55 q57.2.2.2
          have t71 := gc_AT_l A70
          refine gv_callV hD rfl (As := []) (st := []) rfl B_23 S_23 rfl (gc_lV6 hws rfl) (Nat.le_of_ble_eq_true rfl) (gz_Ev_mono (d := 2) (by decide) E57) ?_
          show gv_X _ _ (85, [(0, .inr (.inr (some 39)))], [], sh, gc_h sh I60 J61 A)
          refine gv_run 1 true hD (pc' := 86) (lv' := [(0, .inr (.inr (some 39)))]) (st' := [.inl 1]) (h' := gc_h sh I60 J61 A) (C := (True ∧ True)) rfl ⟨trivial, trivial⟩ ?_
          exact gv_zret hD rfl (by exact gz_m 43 (by omega)) ⟨I60, J61, rfl, hI60, FI60, FJ61, KLT_I60, KTK_I60, ⟨_, rfl, by exact gz_m 44 (by omega), by exact gz_m 45 (by omega), by exact gz_m 46 (by omega), by exact gz_m 47 (by omega), by exact gz_m 48 (by omega), by exact gz_m 49 (by omega), KPK_I60, (Or.inl ⟨by exact gz_m 50 (by omega), by have e9 : (gs_part β η p9) = (gs_X β η p9) := (by unfold gs_part; (repeat first | rw [if_pos (by exact gz_m 51 (by omega))] | rw [if_neg (by exact gz_m 52 (by omega))])); rw [e9]; exact ⟨by exact gz_m 53 (by omega), A70, ⟨by exact gz_m 54 (by omega), by exact gz_m 55 (by omega)⟩, (gc_pb_n (by exact gz_m 56 (by omega)) (by exact gz_m 57 (by omega)) kb45 ((g11 1 17).resolve_left (by exact gz_m 58 (by omega))) ((g57 1 17).resolve_left (by exact gz_m 59 (by omega))) (fun j => ((g57 20 j).resolve_left (by exact gz_m 60 (by omega)))))⟩⟩)⟩⟩
        · show gv_X _ _ (51, [(0, .inr (.inr (some 39)))], [], sh, gc_h sh I12 J A)
          refine gv_run 3 true hD (pc' := 54) (lv' := [(0, .inr (.inr (some 39)))]) (st' := [.inr (.inr (some 39)), .inl 5, .inr (.inr (some 39))]) (h' := gc_h sh I12 J A) (C := (((True ∧ True) ∧ True) ∧ True)) rfl ⟨⟨⟨trivial, trivial⟩, trivial⟩, trivial⟩ ?_
          refine gv_get hD rfl rfl S_39 ⟨by decide, B_39⟩ (gc_hA S_39 rfl A_39_1) ?_
          show gv_X _ _ (57, [(0, .inr (.inr (some 39)))], [.inr (.inr (some 23)), .inl 5, .inr (.inr (some 39))], sh, gc_h sh I12 J A)
          have f72 := (gc_b_3_5 hI12 R_23)
          refine gv_get hD rfl rfl S_23 ⟨by decide, B_23⟩ (gc_hI S_23 rfl) ?_
          show gv_X _ _ (60, [(0, .inr (.inr (some 39)))], [.inl (I12 23 5), .inl 5, .inr (.inr (some 39))], sh, gc_h sh I12 J A)
          obtain ⟨r73, h73, E73, P73⟩ := d_X6_wrong_p (ws0 := ws0) (tb := tb) hws htb sh ro I12 J A hI12  5 (I12 23 5) hb   ⟨by exact gz_m 61 (by omega), by exact gz_m 62 (by omega)⟩ ⟨by exact gz_m 63 (by omega), by exact gz_m 64 (by omega)⟩  
          obtain ⟨I74, J75, rfl, hI74, g73, k73, ⟨z73, rfl, q73⟩⟩ := P73
          have FI74 := gc_frc (W := fun q j => (q = 39 ∧ j = 3) ∨ (q = 39 ∧ j = 4) ∨ (q = 23 ∧ j = 5) ∨ (q = 23 ∧ j = 6) ∨ (q = 23 ∧ j = 7) ∨ (q = 23 ∧ j = 8) ∨ (q = 1 ∧ j = 17) ∨ (q = 1 ∧ j = 18) ∨ q = 20) (V := fun q j => (q = 39 ∧ j = 3) ∨ (q = 39 ∧ j = 4)) FI12 (fun q j h => (h.elim (fun h => (Or.inl h)) (fun h => (Or.inr (Or.inl h))))) g73
          have t76 := (g73 23 1).resolve_left (fun h => h.elim (fun h => absurd h.2 (gz_ne rfl)) (fun h => absurd h.2 (gz_ne rfl)))
          have t77 := (g73 23 5).resolve_left (fun h => h.elim (fun h => absurd h.2 (gz_ne rfl)) (fun h => absurd h.2 (gz_ne rfl)))
          have t78 := (g73 23 6).resolve_left (fun h => h.elim (fun h => absurd h.2 (gz_ne rfl)) (fun h => absurd h.2 (gz_ne rfl)))
          have t79 := (g73 23 7).resolve_left (fun h => h.elim (fun h => absurd h.2 (gz_ne rfl)) (fun h => absurd h.2 (gz_ne rfl)))
          have t80 := (g73 1 17).resolve_left (fun h => h.elim (fun h => absurd h.2 (gz_ne rfl)) (fun h => absurd h.2 (gz_ne rfl)))
          have t81 := (g73 23 8).resolve_left (fun h => h.elim (fun h => absurd h.2 (gz_ne rfl)) (fun h => absurd h.2 (gz_ne rfl)))
          have t82 := (g73 1 18).resolve_left (fun h => h.elim (fun h => absurd h.2 (gz_ne rfl)) (fun h => absurd h.2 (gz_ne rfl)))
          obtain rfl : J = J75 := funext fun q => funext fun j => ((k73 q j).resolve_left id).symm
          have KLT_I74 := gc_LT_fr KLT_I12 ((g73 23 5).resolve_left (fun h => h.elim (fun h => absurd h.2 (gz_ne rfl)) (fun h => absurd h.2 (gz_ne rfl)))) ((g73 23 6).resolve_left (fun h => h.elim (fun h => absurd h.2 (gz_ne rfl)) (fun h => absurd h.2 (gz_ne rfl)))) ((g73 23 7).resolve_left (fun h => h.elim (fun h => absurd h.2 (gz_ne rfl)) (fun h => absurd h.2 (gz_ne rfl)))) (fun k => (g73 24 k).resolve_left (fun h => h.elim (fun h => absurd h.1 (gz_ne rfl)) (fun h => absurd h.1 (gz_ne rfl))))
          have KTK_I74 := gc_TK_fr KTK_I12 ((g73 23 1).resolve_left (fun h => h.elim (fun h => absurd h.2 (gz_ne rfl)) (fun h => absurd h.2 (gz_ne rfl)))) ((g73 23 5).resolve_left (fun h => h.elim (fun h => absurd h.2 (gz_ne rfl)) (fun h => absurd h.2 (gz_ne rfl)))) ((g73 23 6).resolve_left (fun h => h.elim (fun h => absurd h.2 (gz_ne rfl)) (fun h => absurd h.2 (gz_ne rfl)))) ((g73 23 7).resolve_left (fun h => h.elim (fun h => absurd h.2 (gz_ne rfl)) (fun h => absurd h.2 (gz_ne rfl))))
          have KPK_I74 := gc_PKs_fr KPK_I12 ((g73 1 17).resolve_left (fun h => h.elim (fun h => absurd h.2 (gz_ne rfl)) (fun h => absurd h.2 (gz_ne rfl)))) (fun k => (g73 20 k).resolve_left (fun h => h.elim (fun h => absurd h.1 (gz_ne rfl)) (fun h => absurd h.1 (gz_ne rfl))))
          have A83 := gc_AT_I A21 ((g73 23 1).resolve_left (fun h => h.elim (fun h => absurd h.2 (gz_ne rfl)) (fun h => absurd h.2 (gz_ne rfl)))) ((g73 23 5).resolve_left (fun h => h.elim (fun h => absurd h.2 (gz_ne rfl)) (fun h => absurd h.2 (gz_ne rfl)))) ((g73 23 6).resolve_left (fun h => h.elim (fun h => absurd h.2 (gz_ne rfl)) (fun h => absurd h.2 (gz_ne rfl)))) ((g73 23 7).resolve_left (fun h => h.elim (fun h => absurd h.2 (gz_ne rfl)) (fun h => absurd h.2 (gz_ne rfl)))) ((g73 23 8).resolve_left (fun h => h.elim (fun h => absurd h.2 (gz_ne rfl)) (fun h => absurd h.2 (gz_ne rfl)))) (fun k => (g73 24 k).resolve_left (fun h => h.elim (fun h => absurd h.1 (gz_ne rfl)) (fun h => absurd h.1 (gz_ne rfl))))
          have t84 := gc_AT_l A83
          refine gv_callV hD rfl (As := [.inl 5, .inl (I12 23 5)]) (st := []) rfl B_39 S_39 rfl (gc_lV6 hws rfl) (Nat.le_of_ble_eq_true rfl) (gz_Ev_mono (d := 1) (by decide) E73) ?_
          show gv_X _ _ (63, [(0, .inr (.inr (some 39)))], [.inl z73], sh, gc_h sh I74 J A)
          exact gv_zret hD rfl (by exact gz_m 65 (by omega)) ⟨I74, J, rfl, hI74, FI74, FJ, KLT_I74, KTK_I74, ⟨_, rfl, by exact gz_m 66 (by omega), by exact gz_m 67 (by omega), by exact gz_m 68 (by omega), by exact gz_m 69 (by omega), by exact gz_m 70 (by omega), by exact gz_m 71 (by omega), KPK_I74, (Or.inr ⟨by exact gz_m 72 (by omega), by first | (exfalso; exact gz_m 73 (by omega)) | (unfold gs_part; (repeat first | rw [if_pos (by exact gz_m 74 (by omega))] | rw [if_neg (by exact gz_m 75 (by omega))]); exact ⟨by exact gz_m 76 (by omega), by exact gz_m 77 (by omega)⟩)⟩)⟩⟩
    · show gv_X _ _ (27, [(0, .inr (.inr (some 39)))], [], sh, gc_h sh I12 J A)
      have u85 := gs_or0 q11.2.2.2 (by exact gz_m 78 (by omega))
      refine gv_run 1 true hD (pc' := 28) (lv' := [(0, .inr (.inr (some 39)))]) (st' := [.inl 0]) (h' := gc_h sh I12 J A) (C := (True ∧ True)) rfl ⟨trivial, trivial⟩ ?_
      exact gv_zret hD rfl (by exact gz_m 79 (by omega)) ⟨I12, J, rfl, hI12, FI12, FJ, KLT_I12, KTK_I12, ⟨_, rfl, by exact gz_m 80 (by omega), by exact gz_m 81 (by omega), by exact gz_m 82 (by omega), by exact gz_m 83 (by omega), by exact gz_m 84 (by omega), by exact gz_m 85 (by omega), KPK_I12, (Or.inr ⟨by exact gz_m 86 (by omega), by first | (exfalso; exact gz_m 87 (by omega)) | (unfold gs_part; (repeat first | rw [if_pos (by exact gz_m 88 (by omega))] | rw [if_neg (by exact gz_m 89 (by omega))]); exact ⟨by exact gz_m 90 (by omega), by exact gz_m 91 (by omega)⟩)⟩)⟩⟩
  · show gv_X _ _ (11, [(0, .inr (.inr (some 39)))], [], sh, gc_h sh I J A)
    have t86 := gc_TK_st KTK_I (by exact gz_m 92 (by omega))
    refine gv_run 1 true hD (pc' := 12) (lv' := [(0, .inr (.inr (some 39)))]) (st' := [.inr (.inr (some 39))]) (h' := gc_h sh I J A) (C := (True ∧ True)) rfl ⟨trivial, trivial⟩ ?_
    obtain ⟨r87, h87, E87, P87⟩ := d_X6_keepLetters_p (ws0 := ws0) (tb := tb) hws htb sh ro I J A hI   hb    (by exact gz_m 93 (by omega)) (by exact gz_m 94 (by omega)) KLT_I KTK_I
    obtain ⟨I88, J89, rfl, hI88, g87, k87, KLT_I88, KTK_I88, ⟨z87, rfl, q87⟩⟩ := P87
    have FI88 := gc_frc (W := fun q j => (q = 39 ∧ j = 3) ∨ (q = 39 ∧ j = 4) ∨ (q = 23 ∧ j = 5) ∨ (q = 23 ∧ j = 6) ∨ (q = 23 ∧ j = 7) ∨ (q = 23 ∧ j = 8) ∨ (q = 1 ∧ j = 17) ∨ (q = 1 ∧ j = 18) ∨ q = 20) (V := fun q j => (q = 1 ∧ j = 17) ∨ (q = 1 ∧ j = 18) ∨ q = 20) FI (fun q j h => (h.elim (fun h => (Or.inr (Or.inr (Or.inr (Or.inr (Or.inr (Or.inr (Or.inl h)))))))) (fun h => (h.elim (fun h => (Or.inr (Or.inr (Or.inr (Or.inr (Or.inr (Or.inr (Or.inr (Or.inl h))))))))) (fun h => (Or.inr (Or.inr (Or.inr (Or.inr (Or.inr (Or.inr (Or.inr (Or.inr h))))))))))))) g87
    have t90 := (g87 23 1).resolve_left (fun h => h.elim (fun h => absurd h.2 (gz_ne rfl)) (fun h => h.elim (fun h => absurd h.2 (gz_ne rfl)) (fun h => absurd h (gz_ne rfl))))
    have t91 := (g87 23 5).resolve_left (fun h => h.elim (fun h => absurd h.2 (gz_ne rfl)) (fun h => h.elim (fun h => absurd h.2 (gz_ne rfl)) (fun h => absurd h (gz_ne rfl))))
    have t92 := (g87 23 6).resolve_left (fun h => h.elim (fun h => absurd h.2 (gz_ne rfl)) (fun h => h.elim (fun h => absurd h.2 (gz_ne rfl)) (fun h => absurd h (gz_ne rfl))))
    have t93 := (g87 23 7).resolve_left (fun h => h.elim (fun h => absurd h.2 (gz_ne rfl)) (fun h => h.elim (fun h => absurd h.2 (gz_ne rfl)) (fun h => absurd h (gz_ne rfl))))
    have t94 := (g87 23 8).resolve_left (fun h => h.elim (fun h => absurd h.2 (gz_ne rfl)) (fun h => h.elim (fun h => absurd h.2 (gz_ne rfl)) (fun h => absurd h (gz_ne rfl))))
    have f95 := (gc_b_22_17 hI88 R_1)
    have f96 := (gc_b_22_18 hI88 R_1)
    obtain rfl : J = J89 := funext fun q => funext fun j => ((k87 q j).resolve_left id).symm
    have l87 := q87.2.2.2.2.2.2.2
    have KPK_I88 := gc_PKs_tr KPK_I l87
    have A97 := gc_AT_I x1 ((g87 23 1).resolve_left (fun h => h.elim (fun h => absurd h.2 (gz_ne rfl)) (fun h => h.elim (fun h => absurd h.2 (gz_ne rfl)) (fun h => absurd h (gz_ne rfl))))) ((g87 23 5).resolve_left (fun h => h.elim (fun h => absurd h.2 (gz_ne rfl)) (fun h => h.elim (fun h => absurd h.2 (gz_ne rfl)) (fun h => absurd h (gz_ne rfl))))) ((g87 23 6).resolve_left (fun h => h.elim (fun h => absurd h.2 (gz_ne rfl)) (fun h => h.elim (fun h => absurd h.2 (gz_ne rfl)) (fun h => absurd h (gz_ne rfl))))) ((g87 23 7).resolve_left (fun h => h.elim (fun h => absurd h.2 (gz_ne rfl)) (fun h => h.elim (fun h => absurd h.2 (gz_ne rfl)) (fun h => absurd h (gz_ne rfl))))) ((g87 23 8).resolve_left (fun h => h.elim (fun h => absurd h.2 (gz_ne rfl)) (fun h => h.elim (fun h => absurd h.2 (gz_ne rfl)) (fun h => absurd h (gz_ne rfl))))) (fun k => (g87 24 k).resolve_left (fun h => h.elim (fun h => absurd h.1 (gz_ne rfl)) (fun h => h.elim (fun h => absurd h.1 (gz_ne rfl)) (fun h => absurd h (gz_ne rfl)))))
    have t98 := gc_AT_l A97
    refine gv_callV hD rfl (As := []) (st := []) rfl B_39 S_39 rfl (gc_lV6 hws rfl) (Nat.le_of_ble_eq_true rfl) (gz_Ev_mono (d := 2) (by decide) E87) ?_
    show gv_X _ _ (15, [(0, .inr (.inr (some 39)))], [.inl z87], sh, gc_h sh I88 J A)
    refine gv_run 3 true hD (pc' := 79) (lv' := [(0, .inr (.inr (some 39)))]) (st' := [.inr (.inr (some 39))]) (h' := gc_h sh I88 J A) (C := (((True ∧ True) ∧ True) ∧ True)) rfl ⟨⟨⟨trivial, trivial⟩, trivial⟩, trivial⟩ ?_
    refine gv_get hD rfl rfl S_39 ⟨by decide, B_39⟩ (gc_hA S_39 rfl A_39_1) ?_
    show gv_X _ _ (82, [(0, .inr (.inr (some 39)))], [.inr (.inr (some 23))], sh, gc_h sh I88 J A)
    have t100 := gc_TK_nx KTK_I88 (by exact gz_m 95 (by omega))
    have t101 := gc_TK_st KTK_I88 (by exact gz_m 96 (by omega))
    obtain ⟨r99, h99, E99, P99⟩ := d_X9_advance_p (ws0 := ws0) (tb := tb) hws htb sh ro I88 J A hI88 23 β η  (gc_b23 hb)    (by exact gz_m 97 (by omega)) A97.1.1 A97.1.2 
    obtain ⟨I102, J103, rfl, hI102, g99, k99, ⟨rfl, V99_0, V99_1, V99_2, V99_3, V99_4, q99⟩⟩ := P99
    have FI102 := gc_frc (W := fun q j => (q = 39 ∧ j = 3) ∨ (q = 39 ∧ j = 4) ∨ (q = 23 ∧ j = 5) ∨ (q = 23 ∧ j = 6) ∨ (q = 23 ∧ j = 7) ∨ (q = 23 ∧ j = 8) ∨ (q = 1 ∧ j = 17) ∨ (q = 1 ∧ j = 18) ∨ q = 20) (V := fun q j => (q = 23 ∧ j = 5) ∨ (q = 23 ∧ j = 6) ∨ (q = 23 ∧ j = 7) ∨ (q = 23 ∧ j = 8)) FI88 (fun q j h => (h.elim (fun h => (Or.inr (Or.inr (Or.inl h)))) (fun h => (h.elim (fun h => (Or.inr (Or.inr (Or.inr (Or.inl h))))) (fun h => (h.elim (fun h => (Or.inr (Or.inr (Or.inr (Or.inr (Or.inl h)))))) (fun h => (Or.inr (Or.inr (Or.inr (Or.inr (Or.inr (Or.inl h))))))))))))) g99
    have FJ103 := gc_frc (W := fun q j => (q = 23 ∧ j = 9)) (V := fun q j => (q = 23 ∧ j = 9)) FJ (fun q j h => h) k99
    have t104 := (g99 23 1).resolve_left (fun h => h.elim (fun h => absurd h.2 (gz_ne rfl)) (fun h => h.elim (fun h => absurd h.2 (gz_ne rfl)) (fun h => h.elim (fun h => absurd h.2 (gz_ne rfl)) (fun h => absurd h.2 (gz_ne rfl)))))
    have t105 := (g99 1 17).resolve_left (fun h => h.elim (fun h => absurd h.2 (gz_ne rfl)) (fun h => h.elim (fun h => absurd h.2 (gz_ne rfl)) (fun h => h.elim (fun h => absurd h.2 (gz_ne rfl)) (fun h => absurd h.2 (gz_ne rfl)))))
    have t106 := (g99 1 18).resolve_left (fun h => h.elim (fun h => absurd h.2 (gz_ne rfl)) (fun h => h.elim (fun h => absurd h.2 (gz_ne rfl)) (fun h => h.elim (fun h => absurd h.2 (gz_ne rfl)) (fun h => absurd h.2 (gz_ne rfl)))))
    have f107 := (gc_b_3_5 hI102 R_23)
    have f108 := (gc_b_3_6 hI102 R_23)
    have f109 := (gc_b_3_7 hI102 R_23)
    have f110 := (gc_b_3_8 hI102 R_23)
    have KLT_I102 : gc_LT I102 := q99.2.2.1
    have KPK_I102 := gc_PKs_fr KPK_I88 ((g99 1 17).resolve_left (fun h => h.elim (fun h => absurd h.2 (gz_ne rfl)) (fun h => h.elim (fun h => absurd h.2 (gz_ne rfl)) (fun h => h.elim (fun h => absurd h.2 (gz_ne rfl)) (fun h => absurd h.2 (gz_ne rfl)))))) (fun k => (g99 20 k).resolve_left (fun h => h.elim (fun h => absurd h.1 (gz_ne rfl)) (fun h => h.elim (fun h => absurd h.1 (gz_ne rfl)) (fun h => h.elim (fun h => absurd h.1 (gz_ne rfl)) (fun h => absurd h.1 (gz_ne rfl))))))
    have KTK_I102 : gc_TK I102 := And.intro V99_0 (And.intro V99_1 (And.intro V99_2 (And.intro V99_3 V99_4)))
    have t111 := gc_TK_mo KTK_I102
    clear V99_0 V99_1 V99_2 V99_3 V99_4
    have A112 := gc_AT_nx A97 q99.2.2.2
    have t113 := gc_AT_l A112
    refine gv_callV hD rfl (As := []) (st := []) rfl B_23 S_23 rfl (gc_lV6 hws rfl) (Nat.le_of_ble_eq_true rfl) (gz_Ev_mono (d := 2) (by decide) E99) ?_
    show gv_X _ _ (85, [(0, .inr (.inr (some 39)))], [], sh, gc_h sh I102 J103 A)
    refine gv_run 1 true hD (pc' := 86) (lv' := [(0, .inr (.inr (some 39)))]) (st' := [.inl 1]) (h' := gc_h sh I102 J103 A) (C := (True ∧ True)) rfl ⟨trivial, trivial⟩ ?_
    exact gv_zret hD rfl (by exact gz_m 98 (by omega)) ⟨I102, J103, rfl, hI102, FI102, FJ103, KLT_I102, KTK_I102, ⟨_, rfl, by exact gz_m 99 (by omega), by exact gz_m 100 (by omega), by exact gz_m 101 (by omega), by exact gz_m 102 (by omega), by exact gz_m 103 (by omega), by exact gz_m 104 (by omega), KPK_I102, (Or.inl ⟨by exact gz_m 105 (by omega), by have e9 : (gs_part β η p9) = (gs_X β η p9) := (by unfold gs_part; (repeat first | rw [if_pos (by exact gz_m 106 (by omega))] | rw [if_neg (by exact gz_m 107 (by omega))])); rw [e9]; exact ⟨by exact gz_m 108 (by omega), A112, ⟨by exact gz_m 109 (by omega), by exact gz_m 110 (by omega)⟩, (gc_pb_l x1 (by exact gz_m 111 (by omega)) (by exact gz_m 112 (by omega)) (by exact gz_m 113 (by omega)) (by exact gz_m 114 (by omega)) q87.2.2.2.2.2.2.1 (by exact gz_m 115 (by omega)) ((g99 1 17).resolve_left (by exact gz_m 116 (by omega))) (fun j => ((g99 20 j).resolve_left (by exact gz_m 117 (by omega)))))⟩⟩)⟩⟩
set_option maxHeartbeats 8000000 in
set_option maxRecDepth 100000 in
theorem d_X6_readCell_p_L74 {ws0 : List Cond} {tb : String → gz_T} (hws : gc_Ws ws0) (htb : gc_tbs tb) (sh : gz_Sh) (ro : Nat → Nat) (I : gr_I) (J : gr_J) (A : gc_A) (hI : gc_Inv ro I) (t : Nat) (B : Int) (β : Int → Int) (η : Int) (p9 : Int) (Ir : gr_I) (Jr : gr_J)  (hb : gc_Base sh ro A) (h_t : gc_isTongue sh ro A t) (G_t : 144 ≤ t)  (x0 : B ≤ 1280 ∧ I 1 17 + I 23 1 ≤ B + I 23 5) (x1 : gc_AT β η p9 23 I J) (x2 : 0 ≤ p9) (x3 : I 1 18 = 0) (x4 : I (t + 3) 1 = Ir 14 (Int.toNat (Ir 0 6))) (x5 : gs_NA (I (t + 3) 1) (J (t + 4)) (fun k => Jr 21 (Int.toNat (48 * Ir 0 6 + (k : Int))))) (x6 : gs_VR Ir I t) (x7 : I 39 2 = (t : Int)) (KLT_I : gc_LT I) (KTK_I : gc_TK I) : ∀ (n9 : Nat) (I13 : gr_I) (J14 : gr_J) (v1_15 : Int) (v2_15 : Int) (p_15 : Int), (1001 - v2_15).toNat < n9 → gc_Inv ro I13 → (∀ q j : Nat, ((q = 39 ∧ j = 3) ∨ (q = 39 ∧ j = 4) ∨ (q = 23 ∧ j = 5) ∨ (q = 23 ∧ j = 6) ∨ (q = 23 ∧ j = 7) ∨ (q = 23 ∧ j = 8) ∨ (q = 1 ∧ j = 17) ∨ (q = 1 ∧ j = 18) ∨ q = 20 ∨ (q = 39 ∧ j = 6) ∨ (q = 41 ∧ j = 0) ∨ (q = 41 ∧ j = 1) ∨ (q = 41 ∧ j = 2)) ∨ I13 q j = I q j) → (∀ q j : Nat, ((q = 23 ∧ j = 9)) ∨ J14 q j = J q j) → gc_LT I13 → gc_TK I13 → gc_PKs I I13 → ((0 ≤ v1_15 ∧ v1_15 ≤ 1) ∧ (0 ≤ v2_15 ∧ v2_15 ≤ 1000) ∧ (0 ≤ I13 41 0 ∧ I13 41 0 ≤ 16777215 ∧ 0 ≤ I13 41 1 ∧ I13 41 1 ≤ 2000 ∧ -1 ≤ I13 41 2 ∧ I13 41 2 ≤ 2000 ∧ I13 41 1 ≤ I13 1 17) ∧ (0 ≤ p_15) ∧ (I13 41 1 = I 1 17) ∧ ((v1_15 = 1 ∧ 2 * v2_15 ≤ I13 23 5) ∨ v1_15 = 0) ∧ (I13 1 18 = 0 ∧ I 23 5 < I13 23 5) ∧ (I13 23 1 = I 23 1) ∧ (I 23 5 ≤ I13 23 5) ∧ (B ≤ 1280 ∧ I13 1 17 + I13 23 1 ≤ B + I13 23 5) ∧ (I13 39 2 = (t : Int))) → (gc_AT β η p_15 23 I13 J14) → ((gs_cell β η Ir Jr p9) = (if v1_15 = 0 then p_15 else gs_fm β η (Int.toNat (1002 - v2_15)) p_15)) → (gs_PX (I13 41 0) (gs_ws β η Ir Jr 1002 0 p9).2) → (¬ gs_T β η (gs_fpl β η Ir Jr p9) = 45) → (gs_g2 β η (I 1 17) (gs_fpl β η Ir Jr p9) I13 (Int.toNat v2_15)) → (gs_o2 (v1_15 = 0 ∧ gs_fc β η 1002 (gs_fpl β η Ir Jr p9) = Int.toNat v2_15) (v1_15 = 1 ∧ gs_fc β η 1002 (gs_fpl β η Ir Jr p9) = gs_fc β η (Int.toNat (1002 - v2_15)) p_15 + Int.toNat v2_15 ∧ p_15 = gs_sp β η (2 * Int.toNat v2_15) (gs_fpl β η Ir Jr p9))) → gv_X (gc_E6 ws0 tb 3 (yX6_readCell, cX6_readCell, 3, (some .boolean)) kX6_readCell) (gv_Q cX6_readCell (some .boolean) sh (fun r h' => (∃ (I' : gr_I) (J' : gr_J), h' = gc_h sh I' J' A ∧ gc_Inv ro I' ∧ (∀ q j : Nat, ((q = 39 ∧ j = 3) ∨ (q = 39 ∧ j = 4) ∨ (q = 23 ∧ j = 5) ∨ (q = 23 ∧ j = 6) ∨ (q = 23 ∧ j = 7) ∨ (q = 23 ∧ j = 8) ∨ (q = 1 ∧ j = 17) ∨ (q = 1 ∧ j = 18) ∨ q = 20 ∨ (q = 39 ∧ j = 6) ∨ (q = 41 ∧ j = 0) ∨ (q = 41 ∧ j = 1) ∨ (q = 41 ∧ j = 2)) ∨ I' q j = I q j) ∧ (∀ q j : Nat, ((q = 23 ∧ j = 9)) ∨ J' q j = J q j) ∧ gc_LT I' ∧ gc_TK I' ∧ (∃ z : Int, r = some (.inl z) ∧ 0 ≤ z ∧ z ≤ 1 ∧ (I' 23 1 = I 23 1) ∧ (I 23 5 ≤ I' 23 5) ∧ (B ≤ 1280 ∧ I' 1 17 + I' 23 1 ≤ B + I' 23 5) ∧ (z = 0 ∨ (0 ≤ I' 41 0 ∧ I' 41 0 ≤ 16777215 ∧ 0 ≤ I' 41 1 ∧ I' 41 1 ≤ 2000 ∧ -1 ≤ I' 41 2 ∧ I' 41 2 ≤ 2000)) ∧ (gc_PKs I I') ∧ (gs_Or z (0 ≤ (gs_cell β η Ir Jr p9) ∧ gc_AT β η (gs_cell β η Ir Jr p9) 23 I' J' ∧ (I' 1 18 = 0 ∧ I 23 5 < I' 23 5) ∧ gs_PX (I' 41 0) (gs_ws β η Ir Jr 1002 0 p9).2 ∧ gs_cc9 β η Ir Jr p9 I') ((gs_cell β η Ir Jr p9) < 0 ∧ I' 39 4 = -1 - (gs_cell β η Ir Jr p9))))))) (74, [(0, .inr (.inr (some 39))), (1, .inl v1_15), (2, .inl v2_15)], [], sh, gc_h sh I13 J14 A) := by
  have FI : ∀ q j : Nat, ((q = 39 ∧ j = 3) ∨ (q = 39 ∧ j = 4) ∨ (q = 23 ∧ j = 5) ∨ (q = 23 ∧ j = 6) ∨ (q = 23 ∧ j = 7) ∨ (q = 23 ∧ j = 8) ∨ (q = 1 ∧ j = 17) ∨ (q = 1 ∧ j = 18) ∨ q = 20 ∨ (q = 39 ∧ j = 6) ∨ (q = 41 ∧ j = 0) ∨ (q = 41 ∧ j = 1) ∨ (q = 41 ∧ j = 2)) ∨ I q j = I q j := fun _ _ => Or.inr rfl
  have FJ : ∀ q j : Nat, ((q = 23 ∧ j = 9)) ∨ J q j = J q j := fun _ _ => Or.inr rfl
  have A_39_0 : A 39 0 = some 1 := gc_bA_39_0 hb
  have A_39_1 : A 39 1 = some 23 := gc_bA_39_1 hb
  have A_39_10 : A 39 10 = some 41 := gc_bA_39_10 hb
  have B_1 : 1 < 1000000 := by decide
  have B_23 : 23 < 1000000 := by decide
  have B_39 : 39 < 1000000 := by decide
  have B_41 : 41 < 1000000 := by decide
  have R_1 : ro 1 = 22 := gc_bR_1 hb
  have R_23 : ro 23 = 3 := gc_bR_23 hb
  have R_39 : ro 39 = 42 := gc_bR_39 hb
  have R_41 : ro 41 = 0 := gc_bR_41 hb
  have S_1 : sh[1]? = some (false, 8, 21) := gc_bS_1 hb
  have S_23 : sh[23]? = some (false, 9, 10) := gc_bS_23 hb
  have S_39 : sh[39]? = some (false, 6, 19) := gc_bS_39 hb
  have S_41 : sh[41]? = some (true, 1, 25) := gc_bS_41 hb
  obtain ⟨S_t, R_t, B_t, A_t_0, h_t_1, A_t_1, h_t_3, A_t_2, S_t_5, R_t_5, B_t_5, A_t_3, S_t_6, R_t_6, B_t_6, A_t_4, h_t_7, A_t_5, S_t_9, R_t_9, B_t_9, A_t_7, S_t_10, R_t_10, B_t_10, A_t_8, h_t_11, A_t_9, S_t_13, R_t_13, B_t_13, A_t_10, S_t_14, R_t_14, B_t_14, A_t_12, S_t_15, R_t_15, B_t_15, A_t_14, S_t_16, R_t_16, B_t_16, A_t_15, h_t_17⟩ := id h_t
  obtain ⟨S_t_1, R_t_1, B_t_1, A_t_1_0, S_t_1_1, R_t_1_1, B_t_1_1, Q0_t_1, Q1_t_1, Q2_t_1⟩ := id h_t_1
  obtain ⟨S_t_3, R_t_3, B_t_3, A_t_3_0, S_t_3_1, R_t_3_1, B_t_3_1, Q0_t_3, Q1_t_3, Q2_t_3⟩ := id h_t_3
  obtain ⟨S_t_7, R_t_7, B_t_7, A_t_7_0, S_t_7_1, R_t_7_1, B_t_7_1, Q0_t_7, Q1_t_7, Q2_t_7⟩ := id h_t_7
  obtain ⟨S_t_11, R_t_11, B_t_11, A_t_11_0, S_t_11_1, R_t_11_1, B_t_11_1, Q0_t_11, Q1_t_11, Q2_t_11⟩ := id h_t_11
  obtain ⟨S_t_17, R_t_17, B_t_17, A_t_17_0, S_20, R_20, B_20, A_t_17_1, S_t_17_1, R_t_17_1, B_t_17_1, A_t_17_2, S_t_17_2, R_t_17_2, B_t_17_2, A_t_17_3, S_t_17_3, R_t_17_3, B_t_17_3, A_t_17_4, S_t_17_4, R_t_17_4, B_t_17_4, A_t_17_5, S_t_17_5, R_t_17_5, B_t_17_5, S_t_17_6, R_t_17_6, B_t_17_6, S_t_17_7, R_t_17_7, B_t_17_7⟩ := id h_t_17
  have hD : gv_D (gc_E6 ws0 tb 3 (yX6_readCell, cX6_readCell, 3, (some .boolean)) kX6_readCell) := gq_of oX6_readCell
  have KPK_I : gc_PKs I I := gc_PKs_rf
  have t1 := gc_TK_mo KTK_I
  have f2 := (gc_b_3_1 hI R_23)
  have f3 := (gc_b_3_5 hI R_23)
  have f4 := (gc_b_3_6 hI R_23)
  have f5 := (gc_b_3_7 hI R_23)
  have f6 := (gc_b_22_17 hI R_1)
  have f7 := (gc_b_0_0 hI R_41)
  have f8 := (gc_b_0_1 hI R_41)
  have f9 := (gc_b_0_2 hI R_41)
  have f10 := (gc_b_22_18 hI R_1)
  have f11 := (gc_b_42_6 hI R_39)
  have f12 := (gc_b_42_2 hI R_39)
  have tAT := gc_AT_l x1
  intro n9
  induction n9 with
  | zero => intro I13 J14 v1_15 v2_15 p_15 hn; exact gz_m 0 (by omega)
  | succ n9 ih74 =>
    intro I13 J14 v1_15 v2_15 p_15 hn hI13 FI13 FJ14 KLT_I13 KTK_I13 KPK_I13 m_15 e2_15 e3_15 e4_15 e5_15 e6_15 e7_15
    obtain ⟨hv1_15, hv2_15, e0_15, e1_15, e8_15, e9_15, e10_15, e11_15, e12_15, e13_15, e14_15⟩ := m_15
    have t16 := gc_TK_mo KTK_I13
    have f17 := (gc_b_3_1 hI13 R_23)
    have f18 := (gc_b_3_5 hI13 R_23)
    have f19 := (gc_b_3_6 hI13 R_23)
    have f20 := (gc_b_3_7 hI13 R_23)
    have f21 := (gc_b_22_17 hI13 R_1)
    have f22 := (gc_b_0_0 hI13 R_41)
    have f23 := (gc_b_0_1 hI13 R_41)
    have f24 := (gc_b_0_2 hI13 R_41)
    have f25 := (gc_b_22_18 hI13 R_1)
    have f26 := (gc_b_42_6 hI13 R_39)
    have f27 := (gc_b_42_2 hI13 R_39)
    have t28 := gc_AT_l e2_15
    have L129 : ((0 ≤ I13 41 0 ∧ I13 41 0 ≤ 16777215 ∧ 0 ≤ I13 41 1 ∧ I13 41 1 ≤ 2000 ∧ -1 ≤ I13 41 2 ∧ I13 41 2 ≤ 2000 ∧ I13 41 1 ≤ I13 1 17) ∧ (0 ≤ p_15) ∧ (I13 41 1 = I 1 17) ∧ (I13 1 18 = 0 ∧ I 23 5 < I13 23 5) ∧ (I13 23 1 = I 23 1) ∧ (I 23 5 ≤ I13 23 5) ∧ (B ≤ 1280 ∧ I13 1 17 + I13 23 1 ≤ B + I13 23 5) ∧ (I13 39 2 = (t : Int))) → (gc_AT β η p_15 23 I13 J14) → ((gs_cell β η Ir Jr p9) = p_15) → (gs_PX (I13 41 0) (gs_ws β η Ir Jr 1002 0 p9).2) → (¬ gs_T β η (gs_fpl β η Ir Jr p9) = 45) → (gs_g2 β η (I 1 17) (gs_fpl β η Ir Jr p9) I13 (gs_fc β η 1002 (gs_fpl β η Ir Jr p9))) → (gs_fc β η 1002 (gs_fpl β η Ir Jr p9) = gs_fc β η 1002 (gs_fpl β η Ir Jr p9)) → gv_X (gc_E6 ws0 tb 3 (yX6_readCell, cX6_readCell, 3, (some .boolean)) kX6_readCell) (gv_Q cX6_readCell (some .boolean) sh (fun r h' => (∃ (I' : gr_I) (J' : gr_J), h' = gc_h sh I' J' A ∧ gc_Inv ro I' ∧ (∀ q j : Nat, ((q = 39 ∧ j = 3) ∨ (q = 39 ∧ j = 4) ∨ (q = 23 ∧ j = 5) ∨ (q = 23 ∧ j = 6) ∨ (q = 23 ∧ j = 7) ∨ (q = 23 ∧ j = 8) ∨ (q = 1 ∧ j = 17) ∨ (q = 1 ∧ j = 18) ∨ q = 20 ∨ (q = 39 ∧ j = 6) ∨ (q = 41 ∧ j = 0) ∨ (q = 41 ∧ j = 1) ∨ (q = 41 ∧ j = 2)) ∨ I' q j = I q j) ∧ (∀ q j : Nat, ((q = 23 ∧ j = 9)) ∨ J' q j = J q j) ∧ gc_LT I' ∧ gc_TK I' ∧ (∃ z : Int, r = some (.inl z) ∧ 0 ≤ z ∧ z ≤ 1 ∧ (I' 23 1 = I 23 1) ∧ (I 23 5 ≤ I' 23 5) ∧ (B ≤ 1280 ∧ I' 1 17 + I' 23 1 ≤ B + I' 23 5) ∧ (z = 0 ∨ (0 ≤ I' 41 0 ∧ I' 41 0 ≤ 16777215 ∧ 0 ≤ I' 41 1 ∧ I' 41 1 ≤ 2000 ∧ -1 ≤ I' 41 2 ∧ I' 41 2 ≤ 2000)) ∧ (gc_PKs I I') ∧ (gs_Or z (0 ≤ (gs_cell β η Ir Jr p9) ∧ gc_AT β η (gs_cell β η Ir Jr p9) 23 I' J' ∧ (I' 1 18 = 0 ∧ I 23 5 < I' 23 5) ∧ gs_PX (I' 41 0) (gs_ws β η Ir Jr 1002 0 p9).2 ∧ gs_cc9 β η Ir Jr p9 I') ((gs_cell β η Ir Jr p9) < 0 ∧ I' 39 4 = -1 - (gs_cell β η Ir Jr p9))))))) (129, [(0, .inr (.inr (some 39)))], [], sh, gc_h sh I13 J14 A) := by
      intro m_29 e2_29 e3_29 e4_29 e5_29 e6_29 e7_29
      obtain ⟨e0_29, e1_29, e8_29, e9_29, e10_29, e11_29, e12_29, e13_29⟩ := m_29
      have t30 := gc_TK_mo KTK_I13
      have f31 := (gc_b_3_1 hI13 R_23)
      have f32 := (gc_b_3_5 hI13 R_23)
      have f33 := (gc_b_3_6 hI13 R_23)
      have f34 := (gc_b_3_7 hI13 R_23)
      have f35 := (gc_b_22_17 hI13 R_1)
      have f36 := (gc_b_0_0 hI13 R_41)
      have f37 := (gc_b_0_1 hI13 R_41)
      have f38 := (gc_b_0_2 hI13 R_41)
      have f39 := (gc_b_22_18 hI13 R_1)
      have f40 := (gc_b_42_6 hI13 R_39)
      have f41 := (gc_b_42_2 hI13 R_39)
      have t42 := gc_AT_l e2_15
      refine gv_run 1 true hD (pc' := 130) (lv' := [(0, .inr (.inr (some 39)))]) (st' := [.inr (.inr (some 39))]) (h' := gc_h sh I13 J14 A) (C := (True ∧ True)) rfl ⟨trivial, trivial⟩ ?_
      refine gv_get hD rfl rfl S_39 ⟨by decide, B_39⟩ (gc_hA S_39 rfl A_39_10) ?_
      show gv_X _ _ (133, [(0, .inr (.inr (some 39)))], [.inr (.inr (some 41))], sh, gc_h sh I13 J14 A)
      refine gv_run 2 true hD (pc' := 135) (lv' := [(0, .inr (.inr (some 39)))]) (st' := [.inr (.inr (some 39)), .inl 2, .inr (.inr (some 41))]) (h' := gc_h sh I13 J14 A) (C := ((True ∧ True) ∧ True)) rfl ⟨⟨trivial, trivial⟩, trivial⟩ ?_
      refine gv_get hD rfl rfl S_39 ⟨by decide, B_39⟩ (gc_hA S_39 rfl A_39_0) ?_
      show gv_X _ _ (138, [(0, .inr (.inr (some 39)))], [.inr (.inr (some 1)), .inl 2, .inr (.inr (some 41))], sh, gc_h sh I13 J14 A)
      have f43 := (gc_b_22_17 hI13 R_1)
      refine gv_get hD rfl rfl S_1 ⟨by decide, B_1⟩ (gc_hI S_1 rfl) ?_
      show gv_X _ _ (141, [(0, .inr (.inr (some 39)))], [.inl (I13 1 17), .inl 2, .inr (.inr (some 41))], sh, gc_h sh I13 J14 A)
      refine gv_run 1 true hD (pc' := 142) (lv' := [(0, .inr (.inr (some 39)))]) (st' := [.inr (.inr (some 39)), .inl (I13 1 17), .inl 2, .inr (.inr (some 41))]) (h' := gc_h sh I13 J14 A) (C := (True ∧ True)) rfl ⟨trivial, trivial⟩ ?_
      refine gv_get hD rfl rfl S_39 ⟨by decide, B_39⟩ (gc_hA S_39 rfl A_39_10) ?_
      show gv_X _ _ (145, [(0, .inr (.inr (some 39)))], [.inr (.inr (some 41)), .inl (I13 1 17), .inl 2, .inr (.inr (some 41))], sh, gc_h sh I13 J14 A)
      refine gv_run 1 true hD (pc' := 146) (lv' := [(0, .inr (.inr (some 39)))]) (st' := [.inl 1, .inr (.inr (some 41)), .inl (I13 1 17), .inl 2, .inr (.inr (some 41))]) (h' := gc_h sh I13 J14 A) (C := (True ∧ True)) rfl ⟨trivial, trivial⟩ ?_
      have f44 := (gc_b_0_1 hI13 R_41)
      refine gv_iald hD rfl S_41 rfl ⟨by decide, B_41⟩ ⟨by exact gz_m 1 (by omega), by exact gz_m 2 (by omega)⟩ (gc_iI S_41 rfl) ?_
      show gv_X _ _ (147, [(0, .inr (.inr (some 39)))], [.inl (I13 41 1), .inl (I13 1 17), .inl 2, .inr (.inr (some 41))], sh, gc_h sh I13 J14 A)
      refine gv_run 1 true hD (pc' := 148) (lv' := [(0, .inr (.inr (some 39)))]) (st' := [.inl ((I13 1 17) - (I13 41 1)), .inl 2, .inr (.inr (some 41))]) (h' := gc_h sh I13 J14 A) (C := (True ∧ True)) rfl ⟨trivial, trivial⟩ ?_
      refine gv_iast hD rfl S_41 ⟨by decide, B_41⟩ ⟨by exact gz_m 3 (by omega), by exact gz_m 4 (by omega)⟩ ?_
      refine gc_st (k := 2) hI13 S_41 rfl R_41 (lo := (-2147483648)) (hi := 2147483647) rfl rfl (by exact gz_m 5 (by omega)) (by exact gz_m 6 (by omega)) (fun I45 hI45 q46 p46 => ?_)
      have FI45 := gc_frs (W := fun q j => (q = 39 ∧ j = 3) ∨ (q = 39 ∧ j = 4) ∨ (q = 23 ∧ j = 5) ∨ (q = 23 ∧ j = 6) ∨ (q = 23 ∧ j = 7) ∨ (q = 23 ∧ j = 8) ∨ (q = 1 ∧ j = 17) ∨ (q = 1 ∧ j = 18) ∨ q = 20 ∨ (q = 39 ∧ j = 6) ∨ (q = 41 ∧ j = 0) ∨ (q = 41 ∧ j = 1) ∨ (q = 41 ∧ j = 2)) FI13 (Or.inr (Or.inr (Or.inr (Or.inr (Or.inr (Or.inr (Or.inr (Or.inr (Or.inr (Or.inr (Or.inr (Or.inr ⟨rfl, rfl⟩)))))))))))) p46
      have t47 := p46 23 1 (fun h => absurd h.2 (gz_ne rfl))
      have t48 := p46 23 5 (fun h => absurd h.2 (gz_ne rfl))
      have t49 := p46 23 6 (fun h => absurd h.2 (gz_ne rfl))
      have t50 := p46 23 7 (fun h => absurd h.2 (gz_ne rfl))
      have t51 := p46 1 17 (fun h => absurd h.2 (gz_ne rfl))
      have t52 := p46 41 0 (fun h => absurd h.2 (gz_ne rfl))
      have t53 := p46 41 1 (fun h => absurd h.2 (gz_ne rfl))
      have t54 := p46 1 18 (fun h => absurd h.2 (gz_ne rfl))
      have t55 := p46 39 6 (fun h => absurd h.2 (gz_ne rfl))
      have t56 := p46 39 2 (fun h => absurd h.1 (gz_ne rfl))
      have f57 := (gc_b_0_2 hI45 R_41)
      have KLT_I45 := gc_LT_fr KLT_I13 (p46 23 5 (fun h => absurd h.2 (gz_ne rfl))) (p46 23 6 (fun h => absurd h.2 (gz_ne rfl))) (p46 23 7 (fun h => absurd h.2 (gz_ne rfl))) (fun k => p46 24 k (fun h => absurd h.1 (gz_ne rfl)))
      have KTK_I45 := gc_TK_fr KTK_I13 (p46 23 1 (fun h => absurd h.2 (gz_ne rfl))) (p46 23 5 (fun h => absurd h.2 (gz_ne rfl))) (p46 23 6 (fun h => absurd h.2 (gz_ne rfl))) (p46 23 7 (fun h => absurd h.2 (gz_ne rfl)))
      have KPK_I45 := gc_PKs_fr KPK_I13 (p46 1 17 (fun h => absurd h.2 (gz_ne rfl))) (fun k => p46 20 k (fun h => absurd h.1 (gz_ne rfl)))
      have A58 := gc_AT_I e2_15 (p46 23 1 (fun h => absurd h.2 (gz_ne rfl))) (p46 23 5 (fun h => absurd h.2 (gz_ne rfl))) (p46 23 6 (fun h => absurd h.2 (gz_ne rfl))) (p46 23 7 (fun h => absurd h.2 (gz_ne rfl))) (p46 23 8 (fun h => absurd h.2 (gz_ne rfl))) (fun k => p46 24 k (fun h => absurd h.1 (gz_ne rfl)))
      show gv_X _ _ (149, [(0, .inr (.inr (some 39)))], [], sh, gc_h sh I45 J14 A)
      refine gv_run 1 true hD (pc' := 150) (lv' := [(0, .inr (.inr (some 39)))]) (st' := [.inl 1]) (h' := gc_h sh I45 J14 A) (C := (True ∧ True)) rfl ⟨trivial, trivial⟩ ?_
      exact gv_zret hD rfl (by exact gz_m 7 (by omega)) ⟨I45, J14, rfl, hI45, FI45, FJ14, KLT_I45, KTK_I45, ⟨_, rfl, by exact gz_m 8 (by omega), by exact gz_m 9 (by omega), by exact gz_m 10 (by omega), by exact gz_m 11 (by omega), by exact gz_m 12 (by omega), by exact gz_m 13 (by omega), KPK_I45, (Or.inl ⟨by exact gz_m 14 (by omega), by rw [e3_29]; exact ⟨by exact gz_m 15 (by omega), A58, ⟨by exact gz_m 16 (by omega), by exact gz_m 17 (by omega)⟩, (by rw [show I45 41 0 = I13 41 0 from by exact gz_m 18 (by omega)]; exact e4_29), (gs_cc9_f e5_29 e6_29 e7_29 (by exact gz_m 19 (by omega)) (by exact gz_m 20 (by omega)) (by exact gz_m 21 (by omega)) (p46 1 17 (by exact gz_m 22 (by omega))) (fun j => (p46 20 j (by exact gz_m 23 (by omega)))))⟩⟩)⟩⟩
    refine gv_run 2 true hD (pc' := 78) (lv' := [(0, .inr (.inr (some 39))), (1, .inl v1_15), (2, .inl v2_15)]) (st' := [.inl 1000, .inl v2_15]) (h' := gc_h sh I13 J14 A) (C := ((True ∧ True) ∧ True)) rfl ⟨⟨trivial, trivial⟩, trivial⟩ ?_
    refine gv_icmp_ge (t := 129) hD rfl rfl ⟨⟨by exact gz_m 24 (by omega), by exact gz_m 25 (by omega)⟩, ⟨by exact gz_m 26 (by omega), by exact gz_m 27 (by omega)⟩⟩ (fun c59 => ?_) (fun c59 => ?_)
    · show gv_X _ _ (129, [(0, .inr (.inr (some 39))), (1, .inl v1_15), (2, .inl v2_15)], [], sh, gc_h sh I13 J14 A)
      refine gv_pick [0] rfl ?_
      exact L129 (by exact gz_m 28 (by omega)) e2_15 (e3_15.trans (if_pos (by exact gz_m 29 (by omega)))) (by rw [show I13 41 0 = I13 41 0 from by exact gz_m 30 (by omega)]; exact e4_15) e5_15 (by rw [gs_o2_0 e7_15 (by exact gz_m 31 (by omega))]; exact e6_15) rfl
    · show gv_X _ _ (81, [(0, .inr (.inr (some 39))), (1, .inl v1_15), (2, .inl v2_15)], [], sh, gc_h sh I13 J14 A)
      refine gv_run 1 true hD (pc' := 82) (lv' := [(0, .inr (.inr (some 39))), (1, .inl v1_15), (2, .inl v2_15)]) (st' := [.inl v1_15]) (h' := gc_h sh I13 J14 A) (C := (True ∧ True)) rfl ⟨trivial, trivial⟩ ?_
      refine gv_if_eq (t := 129) hD rfl rfl ⟨by exact gz_m 32 (by omega), by exact gz_m 33 (by omega)⟩ (fun c60 => ?_) (fun c60 => ?_)
      · show gv_X _ _ (129, [(0, .inr (.inr (some 39))), (1, .inl v1_15), (2, .inl v2_15)], [], sh, gc_h sh I13 J14 A)
        refine gv_pick [0] rfl ?_
        exact L129 (by exact gz_m 34 (by omega)) e2_15 (e3_15.trans (if_pos (by exact gz_m 35 (by omega)))) (by rw [show I13 41 0 = I13 41 0 from by exact gz_m 36 (by omega)]; exact e4_15) e5_15 (by rw [gs_o2_0 e7_15 (by exact gz_m 37 (by omega))]; exact e6_15) rfl
      · show gv_X _ _ (85, [(0, .inr (.inr (some 39))), (1, .inl v1_15), (2, .inl v2_15)], [], sh, gc_h sh I13 J14 A)
        refine gv_run 1 true hD (pc' := 86) (lv' := [(0, .inr (.inr (some 39))), (1, .inl v1_15), (2, .inl v2_15)]) (st' := [.inr (.inr (some 39))]) (h' := gc_h sh I13 J14 A) (C := (True ∧ True)) rfl ⟨trivial, trivial⟩ ?_
        obtain ⟨r61, h61, E61, P61⟩ := d_X6_readPart_p (ws0 := ws0) (tb := tb) hws htb sh ro I13 J14 A hI13  B β η p_15  hb    (by exact gz_m 38 (by omega)) e2_15 (by exact gz_m 39 (by omega)) (by exact gz_m 40 (by omega)) KLT_I13 KTK_I13
        obtain ⟨I62, J63, rfl, hI62, g61, k61, KLT_I62, KTK_I62, ⟨z61, rfl, q61⟩⟩ := P61
        have FI62 := gc_frc (W := fun q j => (q = 39 ∧ j = 3) ∨ (q = 39 ∧ j = 4) ∨ (q = 23 ∧ j = 5) ∨ (q = 23 ∧ j = 6) ∨ (q = 23 ∧ j = 7) ∨ (q = 23 ∧ j = 8) ∨ (q = 1 ∧ j = 17) ∨ (q = 1 ∧ j = 18) ∨ q = 20 ∨ (q = 39 ∧ j = 6) ∨ (q = 41 ∧ j = 0) ∨ (q = 41 ∧ j = 1) ∨ (q = 41 ∧ j = 2)) (V := fun q j => (q = 39 ∧ j = 3) ∨ (q = 39 ∧ j = 4) ∨ (q = 23 ∧ j = 5) ∨ (q = 23 ∧ j = 6) ∨ (q = 23 ∧ j = 7) ∨ (q = 23 ∧ j = 8) ∨ (q = 1 ∧ j = 17) ∨ (q = 1 ∧ j = 18) ∨ q = 20) FI13 (fun q j h => (h.elim (fun h => (Or.inl h)) (fun h => (h.elim (fun h => (Or.inr (Or.inl h))) (fun h => (h.elim (fun h => (Or.inr (Or.inr (Or.inl h)))) (fun h => (h.elim (fun h => (Or.inr (Or.inr (Or.inr (Or.inl h))))) (fun h => (h.elim (fun h => (Or.inr (Or.inr (Or.inr (Or.inr (Or.inl h)))))) (fun h => (h.elim (fun h => (Or.inr (Or.inr (Or.inr (Or.inr (Or.inr (Or.inl h))))))) (fun h => (h.elim (fun h => (Or.inr (Or.inr (Or.inr (Or.inr (Or.inr (Or.inr (Or.inl h)))))))) (fun h => (h.elim (fun h => (Or.inr (Or.inr (Or.inr (Or.inr (Or.inr (Or.inr (Or.inr (Or.inl h))))))))) (fun h => (Or.inr (Or.inr (Or.inr (Or.inr (Or.inr (Or.inr (Or.inr (Or.inr (Or.inl h)))))))))))))))))))))))))) g61
        have FJ63 := gc_frc (W := fun q j => (q = 23 ∧ j = 9)) (V := fun q j => (q = 23 ∧ j = 9)) FJ14 (fun q j h => h) k61
        have t64 := (g61 23 1).resolve_left (fun h => h.elim (fun h => absurd h.2 (gz_ne rfl)) (fun h => h.elim (fun h => absurd h.2 (gz_ne rfl)) (fun h => h.elim (fun h => absurd h.2 (gz_ne rfl)) (fun h => h.elim (fun h => absurd h.2 (gz_ne rfl)) (fun h => h.elim (fun h => absurd h.2 (gz_ne rfl)) (fun h => h.elim (fun h => absurd h.2 (gz_ne rfl)) (fun h => h.elim (fun h => absurd h.2 (gz_ne rfl)) (fun h => h.elim (fun h => absurd h.2 (gz_ne rfl)) (fun h => absurd h (gz_ne rfl))))))))))
        have t65 := (g61 41 0).resolve_left (fun h => h.elim (fun h => absurd h.2 (gz_ne rfl)) (fun h => h.elim (fun h => absurd h.2 (gz_ne rfl)) (fun h => h.elim (fun h => absurd h.2 (gz_ne rfl)) (fun h => h.elim (fun h => absurd h.2 (gz_ne rfl)) (fun h => h.elim (fun h => absurd h.2 (gz_ne rfl)) (fun h => h.elim (fun h => absurd h.2 (gz_ne rfl)) (fun h => h.elim (fun h => absurd h.2 (gz_ne rfl)) (fun h => h.elim (fun h => absurd h.2 (gz_ne rfl)) (fun h => absurd h (gz_ne rfl))))))))))
        have t66 := (g61 41 1).resolve_left (fun h => h.elim (fun h => absurd h.2 (gz_ne rfl)) (fun h => h.elim (fun h => absurd h.2 (gz_ne rfl)) (fun h => h.elim (fun h => absurd h.2 (gz_ne rfl)) (fun h => h.elim (fun h => absurd h.2 (gz_ne rfl)) (fun h => h.elim (fun h => absurd h.2 (gz_ne rfl)) (fun h => h.elim (fun h => absurd h.2 (gz_ne rfl)) (fun h => h.elim (fun h => absurd h.2 (gz_ne rfl)) (fun h => h.elim (fun h => absurd h.2 (gz_ne rfl)) (fun h => absurd h (gz_ne rfl))))))))))
        have t67 := (g61 41 2).resolve_left (fun h => h.elim (fun h => absurd h.2 (gz_ne rfl)) (fun h => h.elim (fun h => absurd h.2 (gz_ne rfl)) (fun h => h.elim (fun h => absurd h.2 (gz_ne rfl)) (fun h => h.elim (fun h => absurd h.2 (gz_ne rfl)) (fun h => h.elim (fun h => absurd h.2 (gz_ne rfl)) (fun h => h.elim (fun h => absurd h.2 (gz_ne rfl)) (fun h => h.elim (fun h => absurd h.2 (gz_ne rfl)) (fun h => h.elim (fun h => absurd h.2 (gz_ne rfl)) (fun h => absurd h (gz_ne rfl))))))))))
        have t68 := (g61 39 6).resolve_left (fun h => h.elim (fun h => absurd h.2 (gz_ne rfl)) (fun h => h.elim (fun h => absurd h.2 (gz_ne rfl)) (fun h => h.elim (fun h => absurd h.2 (gz_ne rfl)) (fun h => h.elim (fun h => absurd h.1 (gz_ne rfl)) (fun h => h.elim (fun h => absurd h.2 (gz_ne rfl)) (fun h => h.elim (fun h => absurd h.2 (gz_ne rfl)) (fun h => h.elim (fun h => absurd h.2 (gz_ne rfl)) (fun h => h.elim (fun h => absurd h.2 (gz_ne rfl)) (fun h => absurd h (gz_ne rfl))))))))))
        have t69 := (g61 39 2).resolve_left (fun h => h.elim (fun h => absurd h.2 (gz_ne rfl)) (fun h => h.elim (fun h => absurd h.2 (gz_ne rfl)) (fun h => h.elim (fun h => absurd h.2 (gz_ne rfl)) (fun h => h.elim (fun h => absurd h.2 (gz_ne rfl)) (fun h => h.elim (fun h => absurd h.2 (gz_ne rfl)) (fun h => h.elim (fun h => absurd h.2 (gz_ne rfl)) (fun h => h.elim (fun h => absurd h.2 (gz_ne rfl)) (fun h => h.elim (fun h => absurd h.2 (gz_ne rfl)) (fun h => absurd h (gz_ne rfl))))))))))
        have f70 := (gc_b_3_5 hI62 R_23)
        have f71 := (gc_b_3_6 hI62 R_23)
        have f72 := (gc_b_3_7 hI62 R_23)
        have f73 := (gc_b_22_17 hI62 R_1)
        have f74 := (gc_b_22_18 hI62 R_1)
        have t75 := gc_TK_mo KTK_I62
        have l61 := q61.2.2.2.2.2.2.1
        have KPK_I62 := gc_PKs_tr KPK_I13 l61
        refine gv_callV hD rfl (As := []) (st := []) rfl B_39 S_39 rfl (gc_lV6 hws rfl) (Nat.le_of_ble_eq_true rfl) (gz_Ev_mono (d := 3) (by decide) E61) ?_
        show gv_X _ _ (89, [(0, .inr (.inr (some 39))), (1, .inl v1_15), (2, .inl v2_15)], [.inl z61], sh, gc_h sh I62 J63 A)
        refine gv_if_ne (t := 94) hD rfl rfl ⟨by exact gz_m 41 (by omega), by exact gz_m 42 (by omega)⟩ (fun c76 => ?_) (fun c76 => ?_)
        · show gv_X _ _ (94, [(0, .inr (.inr (some 39))), (1, .inl v1_15), (2, .inl v2_15)], [], sh, gc_h sh I62 J63 A)
          obtain ⟨u77, A77, U77⟩ := gs_or1 q61.2.2.2.2.2.2.2 (by exact gz_m 43 (by omega))
          have t78 := gc_AT_l A77
          refine gv_run 1 true hD (pc' := 95) (lv' := [(0, .inr (.inr (some 39))), (1, .inl v1_15), (2, .inl v2_15)]) (st' := [.inr (.inr (some 39))]) (h' := gc_h sh I62 J63 A) (C := (True ∧ True)) rfl ⟨trivial, trivial⟩ ?_
          refine gv_get hD rfl rfl S_39 ⟨by decide, B_39⟩ (gc_hA S_39 rfl A_39_1) ?_
          show gv_X _ _ (98, [(0, .inr (.inr (some 39))), (1, .inl v1_15), (2, .inl v2_15)], [.inr (.inr (some 23))], sh, gc_h sh I62 J63 A)
          have f79 := (gc_b_3_7 hI62 R_23)
          refine gv_get hD rfl rfl S_23 ⟨by decide, B_23⟩ (gc_hI S_23 rfl) ?_
          show gv_X _ _ (101, [(0, .inr (.inr (some 39))), (1, .inl v1_15), (2, .inl v2_15)], [.inl (I62 23 7)], sh, gc_h sh I62 J63 A)
          refine gv_run 1 true hD (pc' := 103) (lv' := [(0, .inr (.inr (some 39))), (1, .inl v1_15), (2, .inl v2_15)]) (st' := [.inl 43, .inl (I62 23 7)]) (h' := gc_h sh I62 J63 A) (C := (True ∧ True)) rfl ⟨trivial, trivial⟩ ?_
          refine gv_icmp_ne (t := 110) hD rfl rfl ⟨⟨by exact gz_m 44 (by omega), by exact gz_m 45 (by omega)⟩, ⟨by exact gz_m 46 (by omega), by exact gz_m 47 (by omega)⟩⟩ (fun c80 => ?_) (fun c80 => ?_)
          · show gv_X _ _ (110, [(0, .inr (.inr (some 39))), (1, .inl v1_15), (2, .inl v2_15)], [], sh, gc_h sh I62 J63 A)
            refine gv_run 3 true hD (pc' := 113) (lv' := [(1, .inl 0), (0, .inr (.inr (some 39))), (2, .inl v2_15)]) (st' := [.inl 0]) (h' := gc_h sh I62 J63 A) (C := (((True ∧ True) ∧ True) ∧ True)) rfl ⟨⟨⟨trivial, trivial⟩, trivial⟩, trivial⟩ ?_
            refine gv_if_eq (t := 123) hD rfl rfl ⟨by exact gz_m 48 (by omega), by exact gz_m 49 (by omega)⟩ (fun c81 => ?_) (fun c81 => ?_)
            · show gv_X _ _ (123, [(1, .inl 0), (0, .inr (.inr (some 39))), (2, .inl v2_15)], [], sh, gc_h sh I62 J63 A)
              refine gv_run 2 true hD (pc' := 74) (lv' := [(2, .inl (v2_15 + 1)), (1, .inl 0), (0, .inr (.inr (some 39)))]) (st' := []) (h' := gc_h sh I62 J63 A) (C := ((True ∧ True) ∧ True)) rfl ⟨⟨trivial, trivial⟩, trivial⟩ ?_
              refine gv_pick [2, 1, 0] rfl ?_
              exact ih74 I62 J63 0 (v2_15 + 1) (gs_part β η p_15) (by exact gz_m 50 (by omega)) hI62 FI62 FJ63 KLT_I62 KTK_I62 KPK_I62 (by exact gz_m 51 (by omega)) A77 (e3_15.trans (by rw [if_neg (by exact gz_m 52 (by omega)), show Int.toNat (1002 - v2_15) = Int.toNat (1002 - (v2_15 + 1)) + 1 from by exact gz_m 53 (by omega), gs_fm_c (by exact gz_m 54 (by omega)) (by exact gz_m 55 (by omega)), if_neg (by exact gz_m 56 (by omega)), if_pos (by decide)])) (by rw [show I62 41 0 = I13 41 0 from by exact gz_m 57 (by omega)]; exact e4_15) e5_15 (by rw [show Int.toNat (v2_15 + 1) = Int.toNat v2_15 + 1 from by exact gz_m 58 (by omega)]; exact gs_g2_s e6_15 l61 U77.2 (gs_o2_1 e7_15 (by exact gz_m 59 (by omega))).2 (by exact gz_m 60 (by omega))) (Or.inl ⟨rfl, (gs_o2_1 e7_15 (by exact gz_m 61 (by omega))).1.trans (by rw [show Int.toNat (1002 - v2_15) = Int.toNat (1002 - (v2_15 + 1)) + 1 from by exact gz_m 62 (by omega), gs_fc_e (by have h8 := gs_part_x (β := β) (N := η) (p := p_15) (by exact gz_m 63 (by omega)) (by exact gz_m 64 (by omega)); rw [← h8]; exact gz_m 65 (by omega))]; exact gz_m 66 (by omega))⟩)
            · exfalso; exact gz_m 67 (by omega)
          · show gv_X _ _ (106, [(0, .inr (.inr (some 39))), (1, .inl v1_15), (2, .inl v2_15)], [], sh, gc_h sh I62 J63 A)
            refine gv_run 4 true hD (pc' := 113) (lv' := [(1, .inl 1), (0, .inr (.inr (some 39))), (2, .inl v2_15)]) (st' := [.inl 1]) (h' := gc_h sh I62 J63 A) (C := ((((True ∧ True) ∧ True) ∧ True) ∧ True)) rfl ⟨⟨⟨⟨trivial, trivial⟩, trivial⟩, trivial⟩, trivial⟩ ?_
            refine gv_if_eq (t := 123) hD rfl rfl ⟨by exact gz_m 68 (by omega), by exact gz_m 69 (by omega)⟩ (fun c82 => ?_) (fun c82 => ?_)
            · exfalso; exact gz_m 70 (by omega)
            · show gv_X _ _ (116, [(1, .inl 1), (0, .inr (.inr (some 39))), (2, .inl v2_15)], [], sh, gc_h sh I62 J63 A)
              have t83 := gc_TK_st KTK_I62 (by exact gz_m 71 (by omega))
              refine gv_run 1 true hD (pc' := 117) (lv' := [(1, .inl 1), (0, .inr (.inr (some 39))), (2, .inl v2_15)]) (st' := [.inr (.inr (some 39))]) (h' := gc_h sh I62 J63 A) (C := (True ∧ True)) rfl ⟨trivial, trivial⟩ ?_
              refine gv_get hD rfl rfl S_39 ⟨by decide, B_39⟩ (gc_hA S_39 rfl A_39_1) ?_
              show gv_X _ _ (120, [(1, .inl 1), (0, .inr (.inr (some 39))), (2, .inl v2_15)], [.inr (.inr (some 23))], sh, gc_h sh I62 J63 A)
              have t85 := gc_TK_nx KTK_I62 (by exact gz_m 72 (by omega))
              have t86 := gc_TK_st KTK_I62 (by exact gz_m 73 (by omega))
              obtain ⟨r84, h84, E84, P84⟩ := d_X9_advance_p (ws0 := ws0) (tb := tb) hws htb sh ro I62 J63 A hI62 23 β η  (gc_b23 hb)    (by exact gz_m 74 (by omega)) A77.1.1 A77.1.2 
              obtain ⟨I87, J88, rfl, hI87, g84, k84, ⟨rfl, V84_0, V84_1, V84_2, V84_3, V84_4, q84⟩⟩ := P84
              have FI87 := gc_frc (W := fun q j => (q = 39 ∧ j = 3) ∨ (q = 39 ∧ j = 4) ∨ (q = 23 ∧ j = 5) ∨ (q = 23 ∧ j = 6) ∨ (q = 23 ∧ j = 7) ∨ (q = 23 ∧ j = 8) ∨ (q = 1 ∧ j = 17) ∨ (q = 1 ∧ j = 18) ∨ q = 20 ∨ (q = 39 ∧ j = 6) ∨ (q = 41 ∧ j = 0) ∨ (q = 41 ∧ j = 1) ∨ (q = 41 ∧ j = 2)) (V := fun q j => (q = 23 ∧ j = 5) ∨ (q = 23 ∧ j = 6) ∨ (q = 23 ∧ j = 7) ∨ (q = 23 ∧ j = 8)) FI62 (fun q j h => (h.elim (fun h => (Or.inr (Or.inr (Or.inl h)))) (fun h => (h.elim (fun h => (Or.inr (Or.inr (Or.inr (Or.inl h))))) (fun h => (h.elim (fun h => (Or.inr (Or.inr (Or.inr (Or.inr (Or.inl h)))))) (fun h => (Or.inr (Or.inr (Or.inr (Or.inr (Or.inr (Or.inl h))))))))))))) g84
              have FJ88 := gc_frc (W := fun q j => (q = 23 ∧ j = 9)) (V := fun q j => (q = 23 ∧ j = 9)) FJ63 (fun q j h => h) k84
              have t89 := (g84 23 1).resolve_left (fun h => h.elim (fun h => absurd h.2 (gz_ne rfl)) (fun h => h.elim (fun h => absurd h.2 (gz_ne rfl)) (fun h => h.elim (fun h => absurd h.2 (gz_ne rfl)) (fun h => absurd h.2 (gz_ne rfl)))))
              have t90 := (g84 1 17).resolve_left (fun h => h.elim (fun h => absurd h.2 (gz_ne rfl)) (fun h => h.elim (fun h => absurd h.2 (gz_ne rfl)) (fun h => h.elim (fun h => absurd h.2 (gz_ne rfl)) (fun h => absurd h.2 (gz_ne rfl)))))
              have t91 := (g84 41 0).resolve_left (fun h => h.elim (fun h => absurd h.2 (gz_ne rfl)) (fun h => h.elim (fun h => absurd h.2 (gz_ne rfl)) (fun h => h.elim (fun h => absurd h.2 (gz_ne rfl)) (fun h => absurd h.2 (gz_ne rfl)))))
              have t92 := (g84 41 1).resolve_left (fun h => h.elim (fun h => absurd h.2 (gz_ne rfl)) (fun h => h.elim (fun h => absurd h.2 (gz_ne rfl)) (fun h => h.elim (fun h => absurd h.2 (gz_ne rfl)) (fun h => absurd h.2 (gz_ne rfl)))))
              have t93 := (g84 41 2).resolve_left (fun h => h.elim (fun h => absurd h.2 (gz_ne rfl)) (fun h => h.elim (fun h => absurd h.2 (gz_ne rfl)) (fun h => h.elim (fun h => absurd h.2 (gz_ne rfl)) (fun h => absurd h.2 (gz_ne rfl)))))
              have t94 := (g84 1 18).resolve_left (fun h => h.elim (fun h => absurd h.2 (gz_ne rfl)) (fun h => h.elim (fun h => absurd h.2 (gz_ne rfl)) (fun h => h.elim (fun h => absurd h.2 (gz_ne rfl)) (fun h => absurd h.2 (gz_ne rfl)))))
              have t95 := (g84 39 6).resolve_left (fun h => h.elim (fun h => absurd h.2 (gz_ne rfl)) (fun h => h.elim (fun h => absurd h.1 (gz_ne rfl)) (fun h => h.elim (fun h => absurd h.2 (gz_ne rfl)) (fun h => absurd h.2 (gz_ne rfl)))))
              have t96 := (g84 39 2).resolve_left (fun h => h.elim (fun h => absurd h.2 (gz_ne rfl)) (fun h => h.elim (fun h => absurd h.2 (gz_ne rfl)) (fun h => h.elim (fun h => absurd h.2 (gz_ne rfl)) (fun h => absurd h.2 (gz_ne rfl)))))
              have f97 := (gc_b_3_5 hI87 R_23)
              have f98 := (gc_b_3_6 hI87 R_23)
              have f99 := (gc_b_3_7 hI87 R_23)
              have KLT_I87 : gc_LT I87 := q84.2.2.1
              have KPK_I87 := gc_PKs_fr KPK_I62 ((g84 1 17).resolve_left (fun h => h.elim (fun h => absurd h.2 (gz_ne rfl)) (fun h => h.elim (fun h => absurd h.2 (gz_ne rfl)) (fun h => h.elim (fun h => absurd h.2 (gz_ne rfl)) (fun h => absurd h.2 (gz_ne rfl)))))) (fun k => (g84 20 k).resolve_left (fun h => h.elim (fun h => absurd h.1 (gz_ne rfl)) (fun h => h.elim (fun h => absurd h.1 (gz_ne rfl)) (fun h => h.elim (fun h => absurd h.1 (gz_ne rfl)) (fun h => absurd h.1 (gz_ne rfl))))))
              have KTK_I87 : gc_TK I87 := And.intro V84_0 (And.intro V84_1 (And.intro V84_2 (And.intro V84_3 V84_4)))
              have t100 := gc_TK_mo KTK_I87
              clear V84_0 V84_1 V84_2 V84_3 V84_4
              have A101 := gc_AT_nx A77 q84.2.2.2
              have t102 := gc_AT_l A101
              refine gv_callV hD rfl (As := []) (st := []) rfl B_23 S_23 rfl (gc_lV6 hws rfl) (Nat.le_of_ble_eq_true rfl) (gz_Ev_mono (d := 2) (by decide) E84) ?_
              show gv_X _ _ (123, [(1, .inl 1), (0, .inr (.inr (some 39))), (2, .inl v2_15)], [], sh, gc_h sh I87 J88 A)
              refine gv_run 2 true hD (pc' := 74) (lv' := [(2, .inl (v2_15 + 1)), (1, .inl 1), (0, .inr (.inr (some 39)))]) (st' := []) (h' := gc_h sh I87 J88 A) (C := ((True ∧ True) ∧ True)) rfl ⟨⟨trivial, trivial⟩, trivial⟩ ?_
              refine gv_pick [2, 1, 0] rfl ?_
              exact ih74 I87 J88 1 (v2_15 + 1) ((gs_X β η (gs_part β η p_15))) (by exact gz_m 75 (by omega)) hI87 FI87 FJ88 KLT_I87 KTK_I87 KPK_I87 (by exact gz_m 76 (by omega)) A101 (e3_15.trans (by rw [if_neg (by exact gz_m 77 (by omega)), show Int.toNat (1002 - v2_15) = Int.toNat (1002 - (v2_15 + 1)) + 1 from by exact gz_m 78 (by omega), gs_fm_c (by exact gz_m 79 (by omega)) (by exact gz_m 80 (by omega)), if_pos (by exact gz_m 81 (by omega)), if_neg (by decide)])) (by rw [show I87 41 0 = I13 41 0 from by exact gz_m 82 (by omega)]; exact e4_15) e5_15 (gs_g2_kp (by rw [show Int.toNat (v2_15 + 1) = Int.toNat v2_15 + 1 from by exact gz_m 83 (by omega)]; exact gs_g2_s e6_15 l61 U77.2 (gs_o2_1 e7_15 (by exact gz_m 84 (by omega))).2 (by exact gz_m 85 (by omega))) ((g84 1 17).resolve_left (by exact gz_m 86 (by omega))) (fun j => ((g84 20 j).resolve_left (by exact gz_m 87 (by omega))))) (Or.inr ⟨rfl, (gs_o2_1 e7_15 (by exact gz_m 88 (by omega))).1.trans (by rw [show Int.toNat (1002 - v2_15) = Int.toNat (1002 - (v2_15 + 1)) + 1 from by exact gz_m 89 (by omega), gs_fc_s (by have h8 := gs_part_x (β := β) (N := η) (p := p_15) (by exact gz_m 90 (by omega)) (by exact gz_m 91 (by omega)); rw [← h8]; exact gz_m 92 (by omega))]; have h7 := gs_part_x (β := β) (N := η) (p := p_15) (by exact gz_m 93 (by omega)) (by exact gz_m 94 (by omega)); rw [h7]; exact gz_m 95 (by omega)), (by have h8 := gs_part_x (β := β) (N := η) (p := p_15) (by exact gz_m 96 (by omega)) (by exact gz_m 97 (by omega)); have h7 := (gs_o2_1 e7_15 (by exact gz_m 98 (by omega))).2; rw [h8, h7, show Int.toNat (v2_15 + 1) = Int.toNat v2_15 + 1 from by exact gz_m 99 (by omega)]; rfl)⟩)
        · show gv_X _ _ (92, [(0, .inr (.inr (some 39))), (1, .inl v1_15), (2, .inl v2_15)], [], sh, gc_h sh I62 J63 A)
          obtain ⟨u103, u103_⟩ := gs_or0 q61.2.2.2.2.2.2.2 (by exact gz_m 100 (by omega))
          refine gv_run 1 true hD (pc' := 93) (lv' := [(0, .inr (.inr (some 39))), (1, .inl v1_15), (2, .inl v2_15)]) (st' := [.inl 0]) (h' := gc_h sh I62 J63 A) (C := (True ∧ True)) rfl ⟨trivial, trivial⟩ ?_
          exact gv_zret hD rfl (by exact gz_m 101 (by omega)) ⟨I62, J63, rfl, hI62, FI62, FJ63, KLT_I62, KTK_I62, ⟨_, rfl, by exact gz_m 102 (by omega), by exact gz_m 103 (by omega), by exact gz_m 104 (by omega), by exact gz_m 105 (by omega), by exact gz_m 106 (by omega), by exact gz_m 107 (by omega), KPK_I62, (Or.inr ⟨by exact gz_m 108 (by omega), by first | (exfalso; exact gz_m 109 (by omega)) | (rw [e3_15, if_neg (by exact gz_m 110 (by omega)), show Int.toNat (1002 - v2_15) = Int.toNat (1002 - (v2_15 + 1)) + 1 from by exact gz_m 111 (by omega), gs_fm_d (by exact gz_m 112 (by omega)) (by exact gz_m 113 (by omega))]; exact ⟨by exact gz_m 114 (by omega), by exact gz_m 115 (by omega)⟩)⟩)⟩⟩
set_option maxHeartbeats 8000000 in
set_option maxRecDepth 100000 in
theorem d_X6_readCell_p {ws0 : List Cond} {tb : String → gz_T} (hws : gc_Ws ws0) (htb : gc_tbs tb) (sh : gz_Sh) (ro : Nat → Nat) (I : gr_I) (J : gr_J) (A : gc_A) (hI : gc_Inv ro I) (t : Nat) (B : Int) (β : Int → Int) (η : Int) (p9 : Int) (Ir : gr_I) (Jr : gr_J)  (hb : gc_Base sh ro A) (h_t : gc_isTongue sh ro A t) (G_t : 144 ≤ t)  (x0 : B ≤ 1280 ∧ I 1 17 + I 23 1 ≤ B + I 23 5) (x1 : gc_AT β η p9 23 I J) (x2 : 0 ≤ p9) (x3 : I 1 18 = 0) (x4 : I (t + 3) 1 = Ir 14 (Int.toNat (Ir 0 6))) (x5 : gs_NA (I (t + 3) 1) (J (t + 4)) (fun k => Jr 21 (Int.toNat (48 * Ir 0 6 + (k : Int))))) (x6 : gs_VR Ir I t) (x7 : I 39 2 = (t : Int)) (KLT_I : gc_LT I) (KTK_I : gc_TK I) : ∃ r h', gz_Ev ws0 tb 4 (yX6_readCell, cX6_readCell, 3, (some .boolean)) [.inr (.inr (some 39))] sh (gc_h sh I J A) r sh h' 0 0 ∧ (∃ (I' : gr_I) (J' : gr_J), h' = gc_h sh I' J' A ∧ gc_Inv ro I' ∧ (∀ q j : Nat, ((q = 39 ∧ j = 3) ∨ (q = 39 ∧ j = 4) ∨ (q = 23 ∧ j = 5) ∨ (q = 23 ∧ j = 6) ∨ (q = 23 ∧ j = 7) ∨ (q = 23 ∧ j = 8) ∨ (q = 1 ∧ j = 17) ∨ (q = 1 ∧ j = 18) ∨ q = 20 ∨ (q = 39 ∧ j = 6) ∨ (q = 41 ∧ j = 0) ∨ (q = 41 ∧ j = 1) ∨ (q = 41 ∧ j = 2)) ∨ I' q j = I q j) ∧ (∀ q j : Nat, ((q = 23 ∧ j = 9)) ∨ J' q j = J q j) ∧ gc_LT I' ∧ gc_TK I' ∧ (∃ z : Int, r = some (.inl z) ∧ 0 ≤ z ∧ z ≤ 1 ∧ (I' 23 1 = I 23 1) ∧ (I 23 5 ≤ I' 23 5) ∧ (B ≤ 1280 ∧ I' 1 17 + I' 23 1 ≤ B + I' 23 5) ∧ (z = 0 ∨ (0 ≤ I' 41 0 ∧ I' 41 0 ≤ 16777215 ∧ 0 ≤ I' 41 1 ∧ I' 41 1 ≤ 2000 ∧ -1 ≤ I' 41 2 ∧ I' 41 2 ≤ 2000)) ∧ (gc_PKs I I') ∧ (gs_Or z (0 ≤ (gs_cell β η Ir Jr p9) ∧ gc_AT β η (gs_cell β η Ir Jr p9) 23 I' J' ∧ (I' 1 18 = 0 ∧ I 23 5 < I' 23 5) ∧ gs_PX (I' 41 0) (gs_ws β η Ir Jr 1002 0 p9).2 ∧ gs_cc9 β η Ir Jr p9 I') ((gs_cell β η Ir Jr p9) < 0 ∧ I' 39 4 = -1 - (gs_cell β η Ir Jr p9))))) := by
  have FI : ∀ q j : Nat, ((q = 39 ∧ j = 3) ∨ (q = 39 ∧ j = 4) ∨ (q = 23 ∧ j = 5) ∨ (q = 23 ∧ j = 6) ∨ (q = 23 ∧ j = 7) ∨ (q = 23 ∧ j = 8) ∨ (q = 1 ∧ j = 17) ∨ (q = 1 ∧ j = 18) ∨ q = 20 ∨ (q = 39 ∧ j = 6) ∨ (q = 41 ∧ j = 0) ∨ (q = 41 ∧ j = 1) ∨ (q = 41 ∧ j = 2)) ∨ I q j = I q j := fun _ _ => Or.inr rfl
  have FJ : ∀ q j : Nat, ((q = 23 ∧ j = 9)) ∨ J q j = J q j := fun _ _ => Or.inr rfl
  have A_39_0 : A 39 0 = some 1 := gc_bA_39_0 hb
  have A_39_1 : A 39 1 = some 23 := gc_bA_39_1 hb
  have A_39_10 : A 39 10 = some 41 := gc_bA_39_10 hb
  have B_1 : 1 < 1000000 := by decide
  have B_23 : 23 < 1000000 := by decide
  have B_39 : 39 < 1000000 := by decide
  have B_41 : 41 < 1000000 := by decide
  have R_1 : ro 1 = 22 := gc_bR_1 hb
  have R_23 : ro 23 = 3 := gc_bR_23 hb
  have R_39 : ro 39 = 42 := gc_bR_39 hb
  have R_41 : ro 41 = 0 := gc_bR_41 hb
  have S_1 : sh[1]? = some (false, 8, 21) := gc_bS_1 hb
  have S_23 : sh[23]? = some (false, 9, 10) := gc_bS_23 hb
  have S_39 : sh[39]? = some (false, 6, 19) := gc_bS_39 hb
  have S_41 : sh[41]? = some (true, 1, 25) := gc_bS_41 hb
  obtain ⟨S_t, R_t, B_t, A_t_0, h_t_1, A_t_1, h_t_3, A_t_2, S_t_5, R_t_5, B_t_5, A_t_3, S_t_6, R_t_6, B_t_6, A_t_4, h_t_7, A_t_5, S_t_9, R_t_9, B_t_9, A_t_7, S_t_10, R_t_10, B_t_10, A_t_8, h_t_11, A_t_9, S_t_13, R_t_13, B_t_13, A_t_10, S_t_14, R_t_14, B_t_14, A_t_12, S_t_15, R_t_15, B_t_15, A_t_14, S_t_16, R_t_16, B_t_16, A_t_15, h_t_17⟩ := id h_t
  obtain ⟨S_t_1, R_t_1, B_t_1, A_t_1_0, S_t_1_1, R_t_1_1, B_t_1_1, Q0_t_1, Q1_t_1, Q2_t_1⟩ := id h_t_1
  obtain ⟨S_t_3, R_t_3, B_t_3, A_t_3_0, S_t_3_1, R_t_3_1, B_t_3_1, Q0_t_3, Q1_t_3, Q2_t_3⟩ := id h_t_3
  obtain ⟨S_t_7, R_t_7, B_t_7, A_t_7_0, S_t_7_1, R_t_7_1, B_t_7_1, Q0_t_7, Q1_t_7, Q2_t_7⟩ := id h_t_7
  obtain ⟨S_t_11, R_t_11, B_t_11, A_t_11_0, S_t_11_1, R_t_11_1, B_t_11_1, Q0_t_11, Q1_t_11, Q2_t_11⟩ := id h_t_11
  obtain ⟨S_t_17, R_t_17, B_t_17, A_t_17_0, S_20, R_20, B_20, A_t_17_1, S_t_17_1, R_t_17_1, B_t_17_1, A_t_17_2, S_t_17_2, R_t_17_2, B_t_17_2, A_t_17_3, S_t_17_3, R_t_17_3, B_t_17_3, A_t_17_4, S_t_17_4, R_t_17_4, B_t_17_4, A_t_17_5, S_t_17_5, R_t_17_5, B_t_17_5, S_t_17_6, R_t_17_6, B_t_17_6, S_t_17_7, R_t_17_7, B_t_17_7⟩ := id h_t_17
  have hD : gv_D (gc_E6 ws0 tb 3 (yX6_readCell, cX6_readCell, 3, (some .boolean)) kX6_readCell) := gq_of oX6_readCell
  refine gc_ev6 (d := 3) (l := kX6_readCell) (Po := fun r h' => (∃ (I' : gr_I) (J' : gr_J), h' = gc_h sh I' J' A ∧ gc_Inv ro I' ∧ (∀ q j : Nat, ((q = 39 ∧ j = 3) ∨ (q = 39 ∧ j = 4) ∨ (q = 23 ∧ j = 5) ∨ (q = 23 ∧ j = 6) ∨ (q = 23 ∧ j = 7) ∨ (q = 23 ∧ j = 8) ∨ (q = 1 ∧ j = 17) ∨ (q = 1 ∧ j = 18) ∨ q = 20 ∨ (q = 39 ∧ j = 6) ∨ (q = 41 ∧ j = 0) ∨ (q = 41 ∧ j = 1) ∨ (q = 41 ∧ j = 2)) ∨ I' q j = I q j) ∧ (∀ q j : Nat, ((q = 23 ∧ j = 9)) ∨ J' q j = J q j) ∧ gc_LT I' ∧ gc_TK I' ∧ (∃ z : Int, r = some (.inl z) ∧ 0 ≤ z ∧ z ≤ 1 ∧ (I' 23 1 = I 23 1) ∧ (I 23 5 ≤ I' 23 5) ∧ (B ≤ 1280 ∧ I' 1 17 + I' 23 1 ≤ B + I' 23 5) ∧ (z = 0 ∨ (0 ≤ I' 41 0 ∧ I' 41 0 ≤ 16777215 ∧ 0 ≤ I' 41 1 ∧ I' 41 1 ≤ 2000 ∧ -1 ≤ I' 41 2 ∧ I' 41 2 ≤ 2000)) ∧ (gc_PKs I I') ∧ (gs_Or z (0 ≤ (gs_cell β η Ir Jr p9) ∧ gc_AT β η (gs_cell β η Ir Jr p9) 23 I' J' ∧ (I' 1 18 = 0 ∧ I 23 5 < I' 23 5) ∧ gs_PX (I' 41 0) (gs_ws β η Ir Jr 1002 0 p9).2 ∧ gs_cc9 β η Ir Jr p9 I') ((gs_cell β η Ir Jr p9) < 0 ∧ I' 39 4 = -1 - (gs_cell β η Ir Jr p9)))))) htb rfl (Nat.le_of_ble_eq_true rfl) ?_
  have KPK_I : gc_PKs I I := gc_PKs_rf
  have t1 := gc_TK_mo KTK_I
  have f2 := (gc_b_3_1 hI R_23)
  have f3 := (gc_b_3_5 hI R_23)
  have f4 := (gc_b_3_6 hI R_23)
  have f5 := (gc_b_3_7 hI R_23)
  have f6 := (gc_b_22_17 hI R_1)
  have f7 := (gc_b_0_0 hI R_41)
  have f8 := (gc_b_0_1 hI R_41)
  have f9 := (gc_b_0_2 hI R_41)
  have f10 := (gc_b_22_18 hI R_1)
  have f11 := (gc_b_42_6 hI R_39)
  have f12 := (gc_b_42_2 hI R_39)
  have tAT := gc_AT_l x1
  have L74 : ∀ (n9 : Nat) (I13 : gr_I) (J14 : gr_J) (v1_15 : Int) (v2_15 : Int) (p_15 : Int), (1001 - v2_15).toNat < n9 → gc_Inv ro I13 → (∀ q j : Nat, ((q = 39 ∧ j = 3) ∨ (q = 39 ∧ j = 4) ∨ (q = 23 ∧ j = 5) ∨ (q = 23 ∧ j = 6) ∨ (q = 23 ∧ j = 7) ∨ (q = 23 ∧ j = 8) ∨ (q = 1 ∧ j = 17) ∨ (q = 1 ∧ j = 18) ∨ q = 20 ∨ (q = 39 ∧ j = 6) ∨ (q = 41 ∧ j = 0) ∨ (q = 41 ∧ j = 1) ∨ (q = 41 ∧ j = 2)) ∨ I13 q j = I q j) → (∀ q j : Nat, ((q = 23 ∧ j = 9)) ∨ J14 q j = J q j) → gc_LT I13 → gc_TK I13 → gc_PKs I I13 → ((0 ≤ v1_15 ∧ v1_15 ≤ 1) ∧ (0 ≤ v2_15 ∧ v2_15 ≤ 1000) ∧ (0 ≤ I13 41 0 ∧ I13 41 0 ≤ 16777215 ∧ 0 ≤ I13 41 1 ∧ I13 41 1 ≤ 2000 ∧ -1 ≤ I13 41 2 ∧ I13 41 2 ≤ 2000 ∧ I13 41 1 ≤ I13 1 17) ∧ (0 ≤ p_15) ∧ (I13 41 1 = I 1 17) ∧ ((v1_15 = 1 ∧ 2 * v2_15 ≤ I13 23 5) ∨ v1_15 = 0) ∧ (I13 1 18 = 0 ∧ I 23 5 < I13 23 5) ∧ (I13 23 1 = I 23 1) ∧ (I 23 5 ≤ I13 23 5) ∧ (B ≤ 1280 ∧ I13 1 17 + I13 23 1 ≤ B + I13 23 5) ∧ (I13 39 2 = (t : Int))) → (gc_AT β η p_15 23 I13 J14) → ((gs_cell β η Ir Jr p9) = (if v1_15 = 0 then p_15 else gs_fm β η (Int.toNat (1002 - v2_15)) p_15)) → (gs_PX (I13 41 0) (gs_ws β η Ir Jr 1002 0 p9).2) → (¬ gs_T β η (gs_fpl β η Ir Jr p9) = 45) → (gs_g2 β η (I 1 17) (gs_fpl β η Ir Jr p9) I13 (Int.toNat v2_15)) → (gs_o2 (v1_15 = 0 ∧ gs_fc β η 1002 (gs_fpl β η Ir Jr p9) = Int.toNat v2_15) (v1_15 = 1 ∧ gs_fc β η 1002 (gs_fpl β η Ir Jr p9) = gs_fc β η (Int.toNat (1002 - v2_15)) p_15 + Int.toNat v2_15 ∧ p_15 = gs_sp β η (2 * Int.toNat v2_15) (gs_fpl β η Ir Jr p9))) → gv_X (gc_E6 ws0 tb 3 (yX6_readCell, cX6_readCell, 3, (some .boolean)) kX6_readCell) (gv_Q cX6_readCell (some .boolean) sh (fun r h' => (∃ (I' : gr_I) (J' : gr_J), h' = gc_h sh I' J' A ∧ gc_Inv ro I' ∧ (∀ q j : Nat, ((q = 39 ∧ j = 3) ∨ (q = 39 ∧ j = 4) ∨ (q = 23 ∧ j = 5) ∨ (q = 23 ∧ j = 6) ∨ (q = 23 ∧ j = 7) ∨ (q = 23 ∧ j = 8) ∨ (q = 1 ∧ j = 17) ∨ (q = 1 ∧ j = 18) ∨ q = 20 ∨ (q = 39 ∧ j = 6) ∨ (q = 41 ∧ j = 0) ∨ (q = 41 ∧ j = 1) ∨ (q = 41 ∧ j = 2)) ∨ I' q j = I q j) ∧ (∀ q j : Nat, ((q = 23 ∧ j = 9)) ∨ J' q j = J q j) ∧ gc_LT I' ∧ gc_TK I' ∧ (∃ z : Int, r = some (.inl z) ∧ 0 ≤ z ∧ z ≤ 1 ∧ (I' 23 1 = I 23 1) ∧ (I 23 5 ≤ I' 23 5) ∧ (B ≤ 1280 ∧ I' 1 17 + I' 23 1 ≤ B + I' 23 5) ∧ (z = 0 ∨ (0 ≤ I' 41 0 ∧ I' 41 0 ≤ 16777215 ∧ 0 ≤ I' 41 1 ∧ I' 41 1 ≤ 2000 ∧ -1 ≤ I' 41 2 ∧ I' 41 2 ≤ 2000)) ∧ (gc_PKs I I') ∧ (gs_Or z (0 ≤ (gs_cell β η Ir Jr p9) ∧ gc_AT β η (gs_cell β η Ir Jr p9) 23 I' J' ∧ (I' 1 18 = 0 ∧ I 23 5 < I' 23 5) ∧ gs_PX (I' 41 0) (gs_ws β η Ir Jr 1002 0 p9).2 ∧ gs_cc9 β η Ir Jr p9 I') ((gs_cell β η Ir Jr p9) < 0 ∧ I' 39 4 = -1 - (gs_cell β η Ir Jr p9))))))) (74, [(0, .inr (.inr (some 39))), (1, .inl v1_15), (2, .inl v2_15)], [], sh, gc_h sh I13 J14 A) := d_X6_readCell_p_L74 (ws0 := ws0) (tb := tb) hws htb sh ro I J A hI t B β η p9 Ir Jr hb h_t G_t x0 x1 x2 x3 x4 x5 x6 x7 KLT_I KTK_I
  refine gv_run 2 true hD (pc' := 2) (lv' := [(0, .inr (.inr (some 39)))]) (st' := [.inl 0, .inr (.inr (some 39))]) (h' := gc_h sh I J A) (C := ((True ∧ True) ∧ True)) rfl ⟨⟨trivial, trivial⟩, trivial⟩ ?_
  obtain ⟨r104, h104, E104, P104⟩ := d_X6_readValues_p (ws0 := ws0) (tb := tb) hws htb sh ro I J A hI  t β η p9 Ir Jr 0 hb  h_t G_t  ⟨by exact gz_m 116 (by omega), by exact gz_m 117 (by omega)⟩ x1 (by exact gz_m 118 (by omega)) (by have h9 := x4; have h8 := (show I (t + 3) 1 = I (t + 3) 1 from rfl); exact gz_m 119 (by omega)) (by rw [show I (t + 3) 1 = I (t + 3) 1 from rfl, show J (t + 4) = J (t + 4) from funext fun j => rfl]; exact x5) (gs_VR_fr x6 rfl (fun k => rfl) (fun k => rfl)) (by exact gz_m 120 (by omega)) KLT_I KTK_I
  obtain ⟨I105, J106, rfl, hI105, g104, k104, KLT_I105, KTK_I105, ⟨z104, rfl, q104⟩⟩ := P104
  have FI105 := gc_frc (W := fun q j => (q = 39 ∧ j = 3) ∨ (q = 39 ∧ j = 4) ∨ (q = 23 ∧ j = 5) ∨ (q = 23 ∧ j = 6) ∨ (q = 23 ∧ j = 7) ∨ (q = 23 ∧ j = 8) ∨ (q = 1 ∧ j = 17) ∨ (q = 1 ∧ j = 18) ∨ q = 20 ∨ (q = 39 ∧ j = 6) ∨ (q = 41 ∧ j = 0) ∨ (q = 41 ∧ j = 1) ∨ (q = 41 ∧ j = 2)) (V := fun q j => (q = 39 ∧ j = 3) ∨ (q = 39 ∧ j = 4) ∨ (q = 23 ∧ j = 5) ∨ (q = 23 ∧ j = 6) ∨ (q = 23 ∧ j = 7) ∨ (q = 23 ∧ j = 8) ∨ (q = 39 ∧ j = 6)) FI (fun q j h => (h.elim (fun h => (Or.inl h)) (fun h => (h.elim (fun h => (Or.inr (Or.inl h))) (fun h => (h.elim (fun h => (Or.inr (Or.inr (Or.inl h)))) (fun h => (h.elim (fun h => (Or.inr (Or.inr (Or.inr (Or.inl h))))) (fun h => (h.elim (fun h => (Or.inr (Or.inr (Or.inr (Or.inr (Or.inl h)))))) (fun h => (h.elim (fun h => (Or.inr (Or.inr (Or.inr (Or.inr (Or.inr (Or.inl h))))))) (fun h => (Or.inr (Or.inr (Or.inr (Or.inr (Or.inr (Or.inr (Or.inr (Or.inr (Or.inr (Or.inl h))))))))))))))))))))))) g104
  have FJ106 := gc_frc (W := fun q j => (q = 23 ∧ j = 9)) (V := fun q j => (q = 23 ∧ j = 9)) FJ (fun q j h => h) k104
  have t107 := (g104 23 1).resolve_left (fun h => h.elim (fun h => absurd h.2 (gz_ne rfl)) (fun h => h.elim (fun h => absurd h.2 (gz_ne rfl)) (fun h => h.elim (fun h => absurd h.2 (gz_ne rfl)) (fun h => h.elim (fun h => absurd h.2 (gz_ne rfl)) (fun h => h.elim (fun h => absurd h.2 (gz_ne rfl)) (fun h => h.elim (fun h => absurd h.2 (gz_ne rfl)) (fun h => absurd h.2 (gz_ne rfl))))))))
  have t108 := (g104 1 17).resolve_left (fun h => h.elim (fun h => absurd h.2 (gz_ne rfl)) (fun h => h.elim (fun h => absurd h.2 (gz_ne rfl)) (fun h => h.elim (fun h => absurd h.2 (gz_ne rfl)) (fun h => h.elim (fun h => absurd h.2 (gz_ne rfl)) (fun h => h.elim (fun h => absurd h.2 (gz_ne rfl)) (fun h => h.elim (fun h => absurd h.2 (gz_ne rfl)) (fun h => absurd h.2 (gz_ne rfl))))))))
  have t109 := (g104 41 0).resolve_left (fun h => h.elim (fun h => absurd h.2 (gz_ne rfl)) (fun h => h.elim (fun h => absurd h.2 (gz_ne rfl)) (fun h => h.elim (fun h => absurd h.2 (gz_ne rfl)) (fun h => h.elim (fun h => absurd h.2 (gz_ne rfl)) (fun h => h.elim (fun h => absurd h.2 (gz_ne rfl)) (fun h => h.elim (fun h => absurd h.2 (gz_ne rfl)) (fun h => absurd h.2 (gz_ne rfl))))))))
  have t110 := (g104 41 1).resolve_left (fun h => h.elim (fun h => absurd h.2 (gz_ne rfl)) (fun h => h.elim (fun h => absurd h.2 (gz_ne rfl)) (fun h => h.elim (fun h => absurd h.2 (gz_ne rfl)) (fun h => h.elim (fun h => absurd h.2 (gz_ne rfl)) (fun h => h.elim (fun h => absurd h.2 (gz_ne rfl)) (fun h => h.elim (fun h => absurd h.2 (gz_ne rfl)) (fun h => absurd h.2 (gz_ne rfl))))))))
  have t111 := (g104 41 2).resolve_left (fun h => h.elim (fun h => absurd h.2 (gz_ne rfl)) (fun h => h.elim (fun h => absurd h.2 (gz_ne rfl)) (fun h => h.elim (fun h => absurd h.2 (gz_ne rfl)) (fun h => h.elim (fun h => absurd h.2 (gz_ne rfl)) (fun h => h.elim (fun h => absurd h.2 (gz_ne rfl)) (fun h => h.elim (fun h => absurd h.2 (gz_ne rfl)) (fun h => absurd h.2 (gz_ne rfl))))))))
  have t112 := (g104 1 18).resolve_left (fun h => h.elim (fun h => absurd h.2 (gz_ne rfl)) (fun h => h.elim (fun h => absurd h.2 (gz_ne rfl)) (fun h => h.elim (fun h => absurd h.2 (gz_ne rfl)) (fun h => h.elim (fun h => absurd h.2 (gz_ne rfl)) (fun h => h.elim (fun h => absurd h.2 (gz_ne rfl)) (fun h => h.elim (fun h => absurd h.2 (gz_ne rfl)) (fun h => absurd h.2 (gz_ne rfl))))))))
  have t113 := (g104 39 2).resolve_left (fun h => h.elim (fun h => absurd h.2 (gz_ne rfl)) (fun h => h.elim (fun h => absurd h.2 (gz_ne rfl)) (fun h => h.elim (fun h => absurd h.2 (gz_ne rfl)) (fun h => h.elim (fun h => absurd h.2 (gz_ne rfl)) (fun h => h.elim (fun h => absurd h.2 (gz_ne rfl)) (fun h => h.elim (fun h => absurd h.2 (gz_ne rfl)) (fun h => absurd h.2 (gz_ne rfl))))))))
  have f114 := (gc_b_3_5 hI105 R_23)
  have f115 := (gc_b_3_6 hI105 R_23)
  have f116 := (gc_b_3_7 hI105 R_23)
  have f117 := (gc_b_42_6 hI105 R_39)
  have t118 := gc_TK_mo KTK_I105
  have KPK_I105 := gc_PKs_fr KPK_I ((g104 1 17).resolve_left (fun h => h.elim (fun h => absurd h.2 (gz_ne rfl)) (fun h => h.elim (fun h => absurd h.2 (gz_ne rfl)) (fun h => h.elim (fun h => absurd h.2 (gz_ne rfl)) (fun h => h.elim (fun h => absurd h.2 (gz_ne rfl)) (fun h => h.elim (fun h => absurd h.2 (gz_ne rfl)) (fun h => h.elim (fun h => absurd h.2 (gz_ne rfl)) (fun h => absurd h.2 (gz_ne rfl))))))))) (fun k => (g104 20 k).resolve_left (fun h => h.elim (fun h => absurd h.1 (gz_ne rfl)) (fun h => h.elim (fun h => absurd h.1 (gz_ne rfl)) (fun h => h.elim (fun h => absurd h.1 (gz_ne rfl)) (fun h => h.elim (fun h => absurd h.1 (gz_ne rfl)) (fun h => h.elim (fun h => absurd h.1 (gz_ne rfl)) (fun h => h.elim (fun h => absurd h.1 (gz_ne rfl)) (fun h => absurd h.1 (gz_ne rfl)))))))))
  refine gv_callV hD rfl (As := [.inl 0]) (st := []) rfl B_39 S_39 rfl (gc_lV6 hws rfl) (Nat.le_of_ble_eq_true rfl) (gz_Ev_mono (d := 3) (by decide) E104) ?_
  show gv_X _ _ (5, [(0, .inr (.inr (some 39)))], [.inl z104], sh, gc_h sh I105 J106 A)
  refine gv_if_eq (t := 17) hD rfl rfl ⟨by exact gz_m 121 (by omega), by exact gz_m 122 (by omega)⟩ (fun c119 => ?_) (fun c119 => ?_)
  · show gv_X _ _ (17, [(0, .inr (.inr (some 39)))], [], sh, gc_h sh I105 J106 A)
    obtain ⟨u120, u120_⟩ := gs_or0 q104.2.2.2.2 (by exact gz_m 123 (by omega))
    refine gv_run 1 true hD (pc' := 18) (lv' := [(0, .inr (.inr (some 39)))]) (st' := [.inl 0]) (h' := gc_h sh I105 J106 A) (C := (True ∧ True)) rfl ⟨trivial, trivial⟩ ?_
    exact gv_zret hD rfl (by exact gz_m 124 (by omega)) ⟨I105, J106, rfl, hI105, FI105, FJ106, KLT_I105, KTK_I105, ⟨_, rfl, by exact gz_m 125 (by omega), by exact gz_m 126 (by omega), by exact gz_m 127 (by omega), by exact gz_m 128 (by omega), by exact gz_m 129 (by omega), by exact gz_m 130 (by omega), KPK_I105, (Or.inr ⟨by exact gz_m 131 (by omega), by first | (exfalso; exact gz_m 132 (by omega)) | (unfold gs_cell; (repeat first | rw [if_pos (by exact gz_m 133 (by omega))] | rw [if_neg (by exact gz_m 134 (by omega))]); exact ⟨by exact gz_m 135 (by omega), by exact gz_m 136 (by omega)⟩)⟩)⟩⟩
  · show gv_X _ _ (8, [(0, .inr (.inr (some 39)))], [], sh, gc_h sh I105 J106 A)
    obtain ⟨u121, A121, U121⟩ := gs_or1 q104.2.2.2.2 (by exact gz_m 137 (by omega))
    have t122 := gc_AT_l A121
    have t123 := (show I105 23 7 = 4 ∨ (I105 23 5 < I105 23 6 ∧ I105 23 5 < I105 23 1) from KTK_I105.2.2.2.1)
    refine gv_run 2 true hD (pc' := 11) (lv' := [(0, .inr (.inr (some 39)))]) (st' := [.inl 61, .inr (.inr (some 39))]) (h' := gc_h sh I105 J106 A) (C := ((True ∧ True) ∧ True)) rfl ⟨⟨trivial, trivial⟩, trivial⟩ ?_
    obtain ⟨r124, h124, E124, P124⟩ := d_X6_take_p (ws0 := ws0) (tb := tb) hws htb sh ro I105 J106 A hI105  β η (gs_rv β η Ir Jr 0 p9) 61 hb   ⟨by exact gz_m 138 (by omega), by exact gz_m 139 (by omega)⟩ (by exact gz_m 140 (by omega)) A121 (by exact gz_m 141 (by omega)) KLT_I105 KTK_I105
    obtain ⟨I125, J126, rfl, hI125, g124, k124, KLT_I125, KTK_I125, ⟨z124, rfl, q124⟩⟩ := P124
    have FI125 := gc_frc (W := fun q j => (q = 39 ∧ j = 3) ∨ (q = 39 ∧ j = 4) ∨ (q = 23 ∧ j = 5) ∨ (q = 23 ∧ j = 6) ∨ (q = 23 ∧ j = 7) ∨ (q = 23 ∧ j = 8) ∨ (q = 1 ∧ j = 17) ∨ (q = 1 ∧ j = 18) ∨ q = 20 ∨ (q = 39 ∧ j = 6) ∨ (q = 41 ∧ j = 0) ∨ (q = 41 ∧ j = 1) ∨ (q = 41 ∧ j = 2)) (V := fun q j => (q = 39 ∧ j = 3) ∨ (q = 39 ∧ j = 4) ∨ (q = 23 ∧ j = 5) ∨ (q = 23 ∧ j = 6) ∨ (q = 23 ∧ j = 7) ∨ (q = 23 ∧ j = 8)) FI105 (fun q j h => (h.elim (fun h => (Or.inl h)) (fun h => (h.elim (fun h => (Or.inr (Or.inl h))) (fun h => (h.elim (fun h => (Or.inr (Or.inr (Or.inl h)))) (fun h => (h.elim (fun h => (Or.inr (Or.inr (Or.inr (Or.inl h))))) (fun h => (h.elim (fun h => (Or.inr (Or.inr (Or.inr (Or.inr (Or.inl h)))))) (fun h => (Or.inr (Or.inr (Or.inr (Or.inr (Or.inr (Or.inl h))))))))))))))))) g124
    have FJ126 := gc_frc (W := fun q j => (q = 23 ∧ j = 9)) (V := fun q j => (q = 23 ∧ j = 9)) FJ106 (fun q j h => h) k124
    have t127 := (g124 23 1).resolve_left (fun h => h.elim (fun h => absurd h.2 (gz_ne rfl)) (fun h => h.elim (fun h => absurd h.2 (gz_ne rfl)) (fun h => h.elim (fun h => absurd h.2 (gz_ne rfl)) (fun h => h.elim (fun h => absurd h.2 (gz_ne rfl)) (fun h => h.elim (fun h => absurd h.2 (gz_ne rfl)) (fun h => absurd h.2 (gz_ne rfl)))))))
    have t128 := (g124 1 17).resolve_left (fun h => h.elim (fun h => absurd h.2 (gz_ne rfl)) (fun h => h.elim (fun h => absurd h.2 (gz_ne rfl)) (fun h => h.elim (fun h => absurd h.2 (gz_ne rfl)) (fun h => h.elim (fun h => absurd h.2 (gz_ne rfl)) (fun h => h.elim (fun h => absurd h.2 (gz_ne rfl)) (fun h => absurd h.2 (gz_ne rfl)))))))
    have t129 := (g124 41 0).resolve_left (fun h => h.elim (fun h => absurd h.2 (gz_ne rfl)) (fun h => h.elim (fun h => absurd h.2 (gz_ne rfl)) (fun h => h.elim (fun h => absurd h.2 (gz_ne rfl)) (fun h => h.elim (fun h => absurd h.2 (gz_ne rfl)) (fun h => h.elim (fun h => absurd h.2 (gz_ne rfl)) (fun h => absurd h.2 (gz_ne rfl)))))))
    have t130 := (g124 41 1).resolve_left (fun h => h.elim (fun h => absurd h.2 (gz_ne rfl)) (fun h => h.elim (fun h => absurd h.2 (gz_ne rfl)) (fun h => h.elim (fun h => absurd h.2 (gz_ne rfl)) (fun h => h.elim (fun h => absurd h.2 (gz_ne rfl)) (fun h => h.elim (fun h => absurd h.2 (gz_ne rfl)) (fun h => absurd h.2 (gz_ne rfl)))))))
    have t131 := (g124 41 2).resolve_left (fun h => h.elim (fun h => absurd h.2 (gz_ne rfl)) (fun h => h.elim (fun h => absurd h.2 (gz_ne rfl)) (fun h => h.elim (fun h => absurd h.2 (gz_ne rfl)) (fun h => h.elim (fun h => absurd h.2 (gz_ne rfl)) (fun h => h.elim (fun h => absurd h.2 (gz_ne rfl)) (fun h => absurd h.2 (gz_ne rfl)))))))
    have t132 := (g124 1 18).resolve_left (fun h => h.elim (fun h => absurd h.2 (gz_ne rfl)) (fun h => h.elim (fun h => absurd h.2 (gz_ne rfl)) (fun h => h.elim (fun h => absurd h.2 (gz_ne rfl)) (fun h => h.elim (fun h => absurd h.2 (gz_ne rfl)) (fun h => h.elim (fun h => absurd h.2 (gz_ne rfl)) (fun h => absurd h.2 (gz_ne rfl)))))))
    have t133 := (g124 39 6).resolve_left (fun h => h.elim (fun h => absurd h.2 (gz_ne rfl)) (fun h => h.elim (fun h => absurd h.2 (gz_ne rfl)) (fun h => h.elim (fun h => absurd h.2 (gz_ne rfl)) (fun h => h.elim (fun h => absurd h.1 (gz_ne rfl)) (fun h => h.elim (fun h => absurd h.2 (gz_ne rfl)) (fun h => absurd h.2 (gz_ne rfl)))))))
    have t134 := (g124 39 2).resolve_left (fun h => h.elim (fun h => absurd h.2 (gz_ne rfl)) (fun h => h.elim (fun h => absurd h.2 (gz_ne rfl)) (fun h => h.elim (fun h => absurd h.2 (gz_ne rfl)) (fun h => h.elim (fun h => absurd h.2 (gz_ne rfl)) (fun h => h.elim (fun h => absurd h.2 (gz_ne rfl)) (fun h => absurd h.2 (gz_ne rfl)))))))
    have f135 := (gc_b_3_5 hI125 R_23)
    have f136 := (gc_b_3_6 hI125 R_23)
    have f137 := (gc_b_3_7 hI125 R_23)
    have t138 := gc_TK_mo KTK_I125
    have KPK_I125 := gc_PKs_fr KPK_I105 ((g124 1 17).resolve_left (fun h => h.elim (fun h => absurd h.2 (gz_ne rfl)) (fun h => h.elim (fun h => absurd h.2 (gz_ne rfl)) (fun h => h.elim (fun h => absurd h.2 (gz_ne rfl)) (fun h => h.elim (fun h => absurd h.2 (gz_ne rfl)) (fun h => h.elim (fun h => absurd h.2 (gz_ne rfl)) (fun h => absurd h.2 (gz_ne rfl)))))))) (fun k => (g124 20 k).resolve_left (fun h => h.elim (fun h => absurd h.1 (gz_ne rfl)) (fun h => h.elim (fun h => absurd h.1 (gz_ne rfl)) (fun h => h.elim (fun h => absurd h.1 (gz_ne rfl)) (fun h => h.elim (fun h => absurd h.1 (gz_ne rfl)) (fun h => h.elim (fun h => absurd h.1 (gz_ne rfl)) (fun h => absurd h.1 (gz_ne rfl))))))))
    refine gv_callV hD rfl (As := [.inl 61]) (st := []) rfl B_39 S_39 rfl (gc_lV6 hws rfl) (Nat.le_of_ble_eq_true rfl) (gz_Ev_mono (d := 3) (by decide) E124) ?_
    show gv_X _ _ (14, [(0, .inr (.inr (some 39)))], [.inl z124], sh, gc_h sh I125 J126 A)
    refine gv_if_ne (t := 19) hD rfl rfl ⟨by exact gz_m 142 (by omega), by exact gz_m 143 (by omega)⟩ (fun c139 => ?_) (fun c139 => ?_)
    · show gv_X _ _ (19, [(0, .inr (.inr (some 39)))], [], sh, gc_h sh I125 J126 A)
      obtain ⟨u140, A140⟩ := gs_or1 q124.2.2.2.2.2 (by exact gz_m 144 (by omega))
      have t141 := gc_AT_l A140
      refine gv_run 1 true hD (pc' := 20) (lv' := [(0, .inr (.inr (some 39)))]) (st' := [.inr (.inr (some 39))]) (h' := gc_h sh I125 J126 A) (C := (True ∧ True)) rfl ⟨trivial, trivial⟩ ?_
      refine gv_get hD rfl rfl S_39 ⟨by decide, B_39⟩ (gc_hA S_39 rfl A_39_10) ?_
      show gv_X _ _ (23, [(0, .inr (.inr (some 39)))], [.inr (.inr (some 41))], sh, gc_h sh I125 J126 A)
      refine gv_run 2 true hD (pc' := 25) (lv' := [(0, .inr (.inr (some 39)))]) (st' := [.inr (.inr (some 39)), .inl 0, .inr (.inr (some 41))]) (h' := gc_h sh I125 J126 A) (C := ((True ∧ True) ∧ True)) rfl ⟨⟨trivial, trivial⟩, trivial⟩ ?_
      have f142 := (gc_b_42_6 hI125 R_39)
      refine gv_get hD rfl rfl S_39 ⟨by decide, B_39⟩ (gc_hI S_39 rfl) ?_
      show gv_X _ _ (28, [(0, .inr (.inr (some 39)))], [.inl (I125 39 6), .inl 0, .inr (.inr (some 41))], sh, gc_h sh I125 J126 A)
      refine gv_iast hD rfl S_41 ⟨by decide, B_41⟩ ⟨by exact gz_m 145 (by omega), by exact gz_m 146 (by omega)⟩ ?_
      refine gc_st (k := 0) hI125 S_41 rfl R_41 (lo := (-2147483648)) (hi := 2147483647) rfl rfl (by exact gz_m 147 (by omega)) (by exact gz_m 148 (by omega)) (fun I143 hI143 q144 p144 => ?_)
      have FI143 := gc_frs (W := fun q j => (q = 39 ∧ j = 3) ∨ (q = 39 ∧ j = 4) ∨ (q = 23 ∧ j = 5) ∨ (q = 23 ∧ j = 6) ∨ (q = 23 ∧ j = 7) ∨ (q = 23 ∧ j = 8) ∨ (q = 1 ∧ j = 17) ∨ (q = 1 ∧ j = 18) ∨ q = 20 ∨ (q = 39 ∧ j = 6) ∨ (q = 41 ∧ j = 0) ∨ (q = 41 ∧ j = 1) ∨ (q = 41 ∧ j = 2)) FI125 (Or.inr (Or.inr (Or.inr (Or.inr (Or.inr (Or.inr (Or.inr (Or.inr (Or.inr (Or.inr (Or.inl ⟨rfl, rfl⟩))))))))))) p144
      have t145 := p144 23 1 (fun h => absurd h.2 (gz_ne rfl))
      have t146 := p144 23 5 (fun h => absurd h.2 (gz_ne rfl))
      have t147 := p144 23 6 (fun h => absurd h.2 (gz_ne rfl))
      have t148 := p144 23 7 (fun h => absurd h.2 (gz_ne rfl))
      have t149 := p144 1 17 (fun h => absurd h.2 (gz_ne rfl))
      have t150 := p144 41 1 (fun h => absurd h.2 (gz_ne rfl))
      have t151 := p144 41 2 (fun h => absurd h.2 (gz_ne rfl))
      have t152 := p144 1 18 (fun h => absurd h.2 (gz_ne rfl))
      have t153 := p144 39 6 (fun h => absurd h.2 (gz_ne rfl))
      have t154 := p144 39 2 (fun h => absurd h.2 (gz_ne rfl))
      have f155 := (gc_b_0_0 hI143 R_41)
      have KLT_I143 := gc_LT_fr KLT_I125 (p144 23 5 (fun h => absurd h.2 (gz_ne rfl))) (p144 23 6 (fun h => absurd h.2 (gz_ne rfl))) (p144 23 7 (fun h => absurd h.2 (gz_ne rfl))) (fun k => p144 24 k (fun h => absurd h.1 (gz_ne rfl)))
      have KTK_I143 := gc_TK_fr KTK_I125 (p144 23 1 (fun h => absurd h.2 (gz_ne rfl))) (p144 23 5 (fun h => absurd h.2 (gz_ne rfl))) (p144 23 6 (fun h => absurd h.2 (gz_ne rfl))) (p144 23 7 (fun h => absurd h.2 (gz_ne rfl)))
      have KPK_I143 := gc_PKs_fr KPK_I125 (p144 1 17 (fun h => absurd h.2 (gz_ne rfl))) (fun k => p144 20 k (fun h => absurd h.1 (gz_ne rfl)))
      have A156 := gc_AT_I A140 (p144 23 1 (fun h => absurd h.2 (gz_ne rfl))) (p144 23 5 (fun h => absurd h.2 (gz_ne rfl))) (p144 23 6 (fun h => absurd h.2 (gz_ne rfl))) (p144 23 7 (fun h => absurd h.2 (gz_ne rfl))) (p144 23 8 (fun h => absurd h.2 (gz_ne rfl))) (fun k => p144 24 k (fun h => absurd h.1 (gz_ne rfl)))
      show gv_X _ _ (29, [(0, .inr (.inr (some 39)))], [], sh, gc_h sh I143 J126 A)
      refine gv_run 1 true hD (pc' := 30) (lv' := [(0, .inr (.inr (some 39)))]) (st' := [.inr (.inr (some 39))]) (h' := gc_h sh I143 J126 A) (C := (True ∧ True)) rfl ⟨trivial, trivial⟩ ?_
      refine gv_get hD rfl rfl S_39 ⟨by decide, B_39⟩ (gc_hA S_39 rfl A_39_10) ?_
      show gv_X _ _ (33, [(0, .inr (.inr (some 39)))], [.inr (.inr (some 41))], sh, gc_h sh I143 J126 A)
      refine gv_run 2 true hD (pc' := 35) (lv' := [(0, .inr (.inr (some 39)))]) (st' := [.inr (.inr (some 39)), .inl 1, .inr (.inr (some 41))]) (h' := gc_h sh I143 J126 A) (C := ((True ∧ True) ∧ True)) rfl ⟨⟨trivial, trivial⟩, trivial⟩ ?_
      refine gv_get hD rfl rfl S_39 ⟨by decide, B_39⟩ (gc_hA S_39 rfl A_39_0) ?_
      show gv_X _ _ (38, [(0, .inr (.inr (some 39)))], [.inr (.inr (some 1)), .inl 1, .inr (.inr (some 41))], sh, gc_h sh I143 J126 A)
      have f157 := (gc_b_22_17 hI143 R_1)
      refine gv_get hD rfl rfl S_1 ⟨by decide, B_1⟩ (gc_hI S_1 rfl) ?_
      show gv_X _ _ (41, [(0, .inr (.inr (some 39)))], [.inl (I143 1 17), .inl 1, .inr (.inr (some 41))], sh, gc_h sh I143 J126 A)
      refine gv_iast hD rfl S_41 ⟨by decide, B_41⟩ ⟨by exact gz_m 149 (by omega), by exact gz_m 150 (by omega)⟩ ?_
      refine gc_st (k := 1) hI143 S_41 rfl R_41 (lo := (-2147483648)) (hi := 2147483647) rfl rfl (by exact gz_m 151 (by omega)) (by exact gz_m 152 (by omega)) (fun I158 hI158 q159 p159 => ?_)
      have FI158 := gc_frs (W := fun q j => (q = 39 ∧ j = 3) ∨ (q = 39 ∧ j = 4) ∨ (q = 23 ∧ j = 5) ∨ (q = 23 ∧ j = 6) ∨ (q = 23 ∧ j = 7) ∨ (q = 23 ∧ j = 8) ∨ (q = 1 ∧ j = 17) ∨ (q = 1 ∧ j = 18) ∨ q = 20 ∨ (q = 39 ∧ j = 6) ∨ (q = 41 ∧ j = 0) ∨ (q = 41 ∧ j = 1) ∨ (q = 41 ∧ j = 2)) FI143 (Or.inr (Or.inr (Or.inr (Or.inr (Or.inr (Or.inr (Or.inr (Or.inr (Or.inr (Or.inr (Or.inr (Or.inl ⟨rfl, rfl⟩)))))))))))) p159
      have t160 := p159 23 1 (fun h => absurd h.1 (gz_ne rfl))
      have t161 := p159 23 5 (fun h => absurd h.2 (gz_ne rfl))
      have t162 := p159 23 6 (fun h => absurd h.2 (gz_ne rfl))
      have t163 := p159 23 7 (fun h => absurd h.2 (gz_ne rfl))
      have t164 := p159 1 17 (fun h => absurd h.2 (gz_ne rfl))
      have t165 := p159 41 0 (fun h => absurd h.2 (gz_ne rfl))
      have t166 := p159 41 2 (fun h => absurd h.2 (gz_ne rfl))
      have t167 := p159 1 18 (fun h => absurd h.2 (gz_ne rfl))
      have t168 := p159 39 6 (fun h => absurd h.2 (gz_ne rfl))
      have t169 := p159 39 2 (fun h => absurd h.2 (gz_ne rfl))
      have f170 := (gc_b_0_1 hI158 R_41)
      have KLT_I158 := gc_LT_fr KLT_I143 (p159 23 5 (fun h => absurd h.2 (gz_ne rfl))) (p159 23 6 (fun h => absurd h.2 (gz_ne rfl))) (p159 23 7 (fun h => absurd h.2 (gz_ne rfl))) (fun k => p159 24 k (fun h => absurd h.1 (gz_ne rfl)))
      have KTK_I158 := gc_TK_fr KTK_I143 (p159 23 1 (fun h => absurd h.1 (gz_ne rfl))) (p159 23 5 (fun h => absurd h.2 (gz_ne rfl))) (p159 23 6 (fun h => absurd h.2 (gz_ne rfl))) (p159 23 7 (fun h => absurd h.2 (gz_ne rfl)))
      have KPK_I158 := gc_PKs_fr KPK_I143 (p159 1 17 (fun h => absurd h.2 (gz_ne rfl))) (fun k => p159 20 k (fun h => absurd h.1 (gz_ne rfl)))
      have A171 := gc_AT_I A156 (p159 23 1 (fun h => absurd h.1 (gz_ne rfl))) (p159 23 5 (fun h => absurd h.2 (gz_ne rfl))) (p159 23 6 (fun h => absurd h.2 (gz_ne rfl))) (p159 23 7 (fun h => absurd h.2 (gz_ne rfl))) (p159 23 8 (fun h => absurd h.2 (gz_ne rfl))) (fun k => p159 24 k (fun h => absurd h.1 (gz_ne rfl)))
      show gv_X _ _ (42, [(0, .inr (.inr (some 39)))], [], sh, gc_h sh I158 J126 A)
      refine gv_run 1 true hD (pc' := 43) (lv' := [(0, .inr (.inr (some 39)))]) (st' := [.inr (.inr (some 39))]) (h' := gc_h sh I158 J126 A) (C := (True ∧ True)) rfl ⟨trivial, trivial⟩ ?_
      refine gv_get hD rfl rfl S_39 ⟨by decide, B_39⟩ (gc_hA S_39 rfl A_39_10) ?_
      show gv_X _ _ (46, [(0, .inr (.inr (some 39)))], [.inr (.inr (some 41))], sh, gc_h sh I158 J126 A)
      refine gv_run 2 true hD (pc' := 48) (lv' := [(0, .inr (.inr (some 39)))]) (st' := [.inl (-1), .inl 2, .inr (.inr (some 41))]) (h' := gc_h sh I158 J126 A) (C := ((True ∧ True) ∧ True)) rfl ⟨⟨trivial, trivial⟩, trivial⟩ ?_
      refine gv_iast hD rfl S_41 ⟨by decide, B_41⟩ ⟨by exact gz_m 153 (by omega), by exact gz_m 154 (by omega)⟩ ?_
      refine gc_st (k := 2) hI158 S_41 rfl R_41 (lo := (-2147483648)) (hi := 2147483647) rfl rfl (by exact gz_m 155 (by omega)) (by exact gz_m 156 (by omega)) (fun I172 hI172 q173 p173 => ?_)
      have FI172 := gc_frs (W := fun q j => (q = 39 ∧ j = 3) ∨ (q = 39 ∧ j = 4) ∨ (q = 23 ∧ j = 5) ∨ (q = 23 ∧ j = 6) ∨ (q = 23 ∧ j = 7) ∨ (q = 23 ∧ j = 8) ∨ (q = 1 ∧ j = 17) ∨ (q = 1 ∧ j = 18) ∨ q = 20 ∨ (q = 39 ∧ j = 6) ∨ (q = 41 ∧ j = 0) ∨ (q = 41 ∧ j = 1) ∨ (q = 41 ∧ j = 2)) FI158 (Or.inr (Or.inr (Or.inr (Or.inr (Or.inr (Or.inr (Or.inr (Or.inr (Or.inr (Or.inr (Or.inr (Or.inr ⟨rfl, rfl⟩)))))))))))) p173
      have t174 := p173 23 1 (fun h => absurd h.2 (gz_ne rfl))
      have t175 := p173 23 5 (fun h => absurd h.2 (gz_ne rfl))
      have t176 := p173 23 6 (fun h => absurd h.2 (gz_ne rfl))
      have t177 := p173 23 7 (fun h => absurd h.2 (gz_ne rfl))
      have t178 := p173 1 17 (fun h => absurd h.2 (gz_ne rfl))
      have t179 := p173 41 0 (fun h => absurd h.2 (gz_ne rfl))
      have t180 := p173 41 1 (fun h => absurd h.2 (gz_ne rfl))
      have t181 := p173 1 18 (fun h => absurd h.2 (gz_ne rfl))
      have t182 := p173 39 6 (fun h => absurd h.2 (gz_ne rfl))
      have t183 := p173 39 2 (fun h => absurd h.1 (gz_ne rfl))
      have f184 := (gc_b_0_2 hI172 R_41)
      have KLT_I172 := gc_LT_fr KLT_I158 (p173 23 5 (fun h => absurd h.2 (gz_ne rfl))) (p173 23 6 (fun h => absurd h.2 (gz_ne rfl))) (p173 23 7 (fun h => absurd h.2 (gz_ne rfl))) (fun k => p173 24 k (fun h => absurd h.1 (gz_ne rfl)))
      have KTK_I172 := gc_TK_fr KTK_I158 (p173 23 1 (fun h => absurd h.2 (gz_ne rfl))) (p173 23 5 (fun h => absurd h.2 (gz_ne rfl))) (p173 23 6 (fun h => absurd h.2 (gz_ne rfl))) (p173 23 7 (fun h => absurd h.2 (gz_ne rfl)))
      have KPK_I172 := gc_PKs_fr KPK_I158 (p173 1 17 (fun h => absurd h.2 (gz_ne rfl))) (fun k => p173 20 k (fun h => absurd h.1 (gz_ne rfl)))
      have A185 := gc_AT_I A171 (p173 23 1 (fun h => absurd h.2 (gz_ne rfl))) (p173 23 5 (fun h => absurd h.2 (gz_ne rfl))) (p173 23 6 (fun h => absurd h.2 (gz_ne rfl))) (p173 23 7 (fun h => absurd h.2 (gz_ne rfl))) (p173 23 8 (fun h => absurd h.2 (gz_ne rfl))) (fun k => p173 24 k (fun h => absurd h.1 (gz_ne rfl)))
      show gv_X _ _ (49, [(0, .inr (.inr (some 39)))], [], sh, gc_h sh I172 J126 A)
      refine gv_run 1 true hD (pc' := 50) (lv' := [(0, .inr (.inr (some 39)))]) (st' := [.inr (.inr (some 39))]) (h' := gc_h sh I172 J126 A) (C := (True ∧ True)) rfl ⟨trivial, trivial⟩ ?_
      refine gv_get hD rfl rfl S_39 ⟨by decide, B_39⟩ (gc_hA S_39 rfl A_39_1) ?_
      show gv_X _ _ (53, [(0, .inr (.inr (some 39)))], [.inr (.inr (some 23))], sh, gc_h sh I172 J126 A)
      have f186 := (gc_b_3_7 hI172 R_23)
      refine gv_get hD rfl rfl S_23 ⟨by decide, B_23⟩ (gc_hI S_23 rfl) ?_
      show gv_X _ _ (56, [(0, .inr (.inr (some 39)))], [.inl (I172 23 7)], sh, gc_h sh I172 J126 A)
      refine gv_run 1 true hD (pc' := 58) (lv' := [(0, .inr (.inr (some 39)))]) (st' := [.inl 45, .inl (I172 23 7)]) (h' := gc_h sh I172 J126 A) (C := (True ∧ True)) rfl ⟨trivial, trivial⟩ ?_
      refine gv_icmp_ne (t := 70) hD rfl rfl ⟨⟨by exact gz_m 157 (by omega), by exact gz_m 158 (by omega)⟩, ⟨by exact gz_m 159 (by omega), by exact gz_m 160 (by omega)⟩⟩ (fun c187 => ?_) (fun c187 => ?_)
      · show gv_X _ _ (70, [(0, .inr (.inr (some 39)))], [], sh, gc_h sh I172 J126 A)
        refine gv_run 4 true hD (pc' := 74) (lv' := [(2, .inl 0), (1, .inl 1), (0, .inr (.inr (some 39)))]) (st' := []) (h' := gc_h sh I172 J126 A) (C := ((((True ∧ True) ∧ True) ∧ True) ∧ True)) rfl ⟨⟨⟨⟨trivial, trivial⟩, trivial⟩, trivial⟩, trivial⟩ ?_
        refine gv_pick [2, 1, 0] rfl ?_
        exact L74 _ I172 J126 1 0 ((gs_need β η 61 (gs_rv β η Ir Jr 0 p9))) (Nat.lt_succ_self _) hI172 FI172 FJ126 KLT_I172 KTK_I172 KPK_I172 (by exact gz_m 161 (by omega)) A185 (by unfold gs_cell gs_pf; (repeat first | rw [if_pos (by exact gz_m 162 (by omega))] | rw [if_neg (by exact gz_m 163 (by omega))]); (try rfl)) (by rw [show I172 41 0 = I105 39 6 from by exact gz_m 164 (by omega)]; exact U121.1 rfl) (show ¬ gs_T β η (gs_need β η 61 (gs_rv β η Ir Jr 0 p9)) = 45 by exact gz_m 165 (by omega)) (gs_g2_0 (((((p173 1 17 (by exact gz_m 166 (by omega))).trans (p159 1 17 (by exact gz_m 167 (by omega)))).trans (p144 1 17 (by exact gz_m 168 (by omega)))).trans ((g124 1 17).resolve_left (by exact gz_m 169 (by omega)))).trans ((g104 1 17).resolve_left (by exact gz_m 170 (by omega))))) (Or.inr ⟨rfl, rfl, rfl⟩)
      · show gv_X _ _ (61, [(0, .inr (.inr (some 39)))], [], sh, gc_h sh I172 J126 A)
        refine gv_run 1 true hD (pc' := 62) (lv' := [(0, .inr (.inr (some 39)))]) (st' := [.inr (.inr (some 39))]) (h' := gc_h sh I172 J126 A) (C := (True ∧ True)) rfl ⟨trivial, trivial⟩ ?_
        refine gv_get hD rfl rfl S_39 ⟨by decide, B_39⟩ (gc_hA S_39 rfl A_39_1) ?_
        show gv_X _ _ (65, [(0, .inr (.inr (some 39)))], [.inr (.inr (some 23))], sh, gc_h sh I172 J126 A)
        have t189 := gc_TK_nx KTK_I172 (by exact gz_m 171 (by omega))
        have t190 := gc_TK_st KTK_I172 (by exact gz_m 172 (by omega))
        obtain ⟨r188, h188, E188, P188⟩ := d_X9_advance_p (ws0 := ws0) (tb := tb) hws htb sh ro I172 J126 A hI172 23 β η  (gc_b23 hb)    (by exact gz_m 173 (by omega)) A185.1.1 A185.1.2 
        obtain ⟨I191, J192, rfl, hI191, g188, k188, ⟨rfl, V188_0, V188_1, V188_2, V188_3, V188_4, q188⟩⟩ := P188
        have FI191 := gc_frc (W := fun q j => (q = 39 ∧ j = 3) ∨ (q = 39 ∧ j = 4) ∨ (q = 23 ∧ j = 5) ∨ (q = 23 ∧ j = 6) ∨ (q = 23 ∧ j = 7) ∨ (q = 23 ∧ j = 8) ∨ (q = 1 ∧ j = 17) ∨ (q = 1 ∧ j = 18) ∨ q = 20 ∨ (q = 39 ∧ j = 6) ∨ (q = 41 ∧ j = 0) ∨ (q = 41 ∧ j = 1) ∨ (q = 41 ∧ j = 2)) (V := fun q j => (q = 23 ∧ j = 5) ∨ (q = 23 ∧ j = 6) ∨ (q = 23 ∧ j = 7) ∨ (q = 23 ∧ j = 8)) FI172 (fun q j h => (h.elim (fun h => (Or.inr (Or.inr (Or.inl h)))) (fun h => (h.elim (fun h => (Or.inr (Or.inr (Or.inr (Or.inl h))))) (fun h => (h.elim (fun h => (Or.inr (Or.inr (Or.inr (Or.inr (Or.inl h)))))) (fun h => (Or.inr (Or.inr (Or.inr (Or.inr (Or.inr (Or.inl h))))))))))))) g188
        have FJ192 := gc_frc (W := fun q j => (q = 23 ∧ j = 9)) (V := fun q j => (q = 23 ∧ j = 9)) FJ126 (fun q j h => h) k188
        have t193 := (g188 23 1).resolve_left (fun h => h.elim (fun h => absurd h.2 (gz_ne rfl)) (fun h => h.elim (fun h => absurd h.2 (gz_ne rfl)) (fun h => h.elim (fun h => absurd h.2 (gz_ne rfl)) (fun h => absurd h.2 (gz_ne rfl)))))
        have t194 := (g188 1 17).resolve_left (fun h => h.elim (fun h => absurd h.2 (gz_ne rfl)) (fun h => h.elim (fun h => absurd h.2 (gz_ne rfl)) (fun h => h.elim (fun h => absurd h.2 (gz_ne rfl)) (fun h => absurd h.2 (gz_ne rfl)))))
        have t195 := (g188 41 0).resolve_left (fun h => h.elim (fun h => absurd h.2 (gz_ne rfl)) (fun h => h.elim (fun h => absurd h.2 (gz_ne rfl)) (fun h => h.elim (fun h => absurd h.2 (gz_ne rfl)) (fun h => absurd h.2 (gz_ne rfl)))))
        have t196 := (g188 41 1).resolve_left (fun h => h.elim (fun h => absurd h.2 (gz_ne rfl)) (fun h => h.elim (fun h => absurd h.2 (gz_ne rfl)) (fun h => h.elim (fun h => absurd h.2 (gz_ne rfl)) (fun h => absurd h.2 (gz_ne rfl)))))
        have t197 := (g188 41 2).resolve_left (fun h => h.elim (fun h => absurd h.2 (gz_ne rfl)) (fun h => h.elim (fun h => absurd h.2 (gz_ne rfl)) (fun h => h.elim (fun h => absurd h.2 (gz_ne rfl)) (fun h => absurd h.2 (gz_ne rfl)))))
        have t198 := (g188 1 18).resolve_left (fun h => h.elim (fun h => absurd h.2 (gz_ne rfl)) (fun h => h.elim (fun h => absurd h.2 (gz_ne rfl)) (fun h => h.elim (fun h => absurd h.2 (gz_ne rfl)) (fun h => absurd h.2 (gz_ne rfl)))))
        have t199 := (g188 39 6).resolve_left (fun h => h.elim (fun h => absurd h.2 (gz_ne rfl)) (fun h => h.elim (fun h => absurd h.1 (gz_ne rfl)) (fun h => h.elim (fun h => absurd h.2 (gz_ne rfl)) (fun h => absurd h.2 (gz_ne rfl)))))
        have t200 := (g188 39 2).resolve_left (fun h => h.elim (fun h => absurd h.2 (gz_ne rfl)) (fun h => h.elim (fun h => absurd h.2 (gz_ne rfl)) (fun h => h.elim (fun h => absurd h.2 (gz_ne rfl)) (fun h => absurd h.2 (gz_ne rfl)))))
        have f201 := (gc_b_3_5 hI191 R_23)
        have f202 := (gc_b_3_6 hI191 R_23)
        have f203 := (gc_b_3_7 hI191 R_23)
        have KLT_I191 : gc_LT I191 := q188.2.2.1
        have KPK_I191 := gc_PKs_fr KPK_I172 ((g188 1 17).resolve_left (fun h => h.elim (fun h => absurd h.2 (gz_ne rfl)) (fun h => h.elim (fun h => absurd h.2 (gz_ne rfl)) (fun h => h.elim (fun h => absurd h.2 (gz_ne rfl)) (fun h => absurd h.2 (gz_ne rfl)))))) (fun k => (g188 20 k).resolve_left (fun h => h.elim (fun h => absurd h.1 (gz_ne rfl)) (fun h => h.elim (fun h => absurd h.1 (gz_ne rfl)) (fun h => h.elim (fun h => absurd h.1 (gz_ne rfl)) (fun h => absurd h.1 (gz_ne rfl))))))
        have KTK_I191 : gc_TK I191 := And.intro V188_0 (And.intro V188_1 (And.intro V188_2 (And.intro V188_3 V188_4)))
        have t204 := gc_TK_mo KTK_I191
        clear V188_0 V188_1 V188_2 V188_3 V188_4
        have A205 := gc_AT_nx A185 q188.2.2.2
        have t206 := gc_AT_l A205
        refine gv_callV hD rfl (As := []) (st := []) rfl B_23 S_23 rfl (gc_lV6 hws rfl) (Nat.le_of_ble_eq_true rfl) (gz_Ev_mono (d := 2) (by decide) E188) ?_
        show gv_X _ _ (68, [(0, .inr (.inr (some 39)))], [], sh, gc_h sh I191 J192 A)
        refine gv_run 1 true hD (pc' := 69) (lv' := [(0, .inr (.inr (some 39)))]) (st' := [.inl 1]) (h' := gc_h sh I191 J192 A) (C := (True ∧ True)) rfl ⟨trivial, trivial⟩ ?_
        exact gv_zret hD rfl (by exact gz_m 174 (by omega)) ⟨I191, J192, rfl, hI191, FI191, FJ192, KLT_I191, KTK_I191, ⟨_, rfl, by exact gz_m 175 (by omega), by exact gz_m 176 (by omega), by exact gz_m 177 (by omega), by exact gz_m 178 (by omega), by exact gz_m 179 (by omega), by exact gz_m 180 (by omega), KPK_I191, (Or.inl ⟨by exact gz_m 181 (by omega), by have e9 : (gs_cell β η Ir Jr p9) = (gs_X β η (gs_need β η 61 (gs_rv β η Ir Jr 0 p9))) := (by unfold gs_cell gs_pf; (repeat first | rw [if_pos (by exact gz_m 182 (by omega))] | rw [if_neg (by exact gz_m 183 (by omega))])); rw [e9]; exact ⟨by exact gz_m 184 (by omega), A205, ⟨by exact gz_m 185 (by omega), by exact gz_m 186 (by omega)⟩, (by rw [show I191 41 0 = I105 39 6 from by exact gz_m 187 (by omega)]; exact U121.1 rfl), (gs_cc9_n (show gs_T β η (gs_need β η 61 (gs_rv β η Ir Jr 0 p9)) = 45 by exact gz_m 188 (by omega)) (by exact gz_m 189 (by omega)))⟩⟩)⟩⟩
    · show gv_X _ _ (17, [(0, .inr (.inr (some 39)))], [], sh, gc_h sh I125 J126 A)
      obtain ⟨u207, u207_⟩ := gs_or0 q124.2.2.2.2.2 (by exact gz_m 190 (by omega))
      refine gv_run 1 true hD (pc' := 18) (lv' := [(0, .inr (.inr (some 39)))]) (st' := [.inl 0]) (h' := gc_h sh I125 J126 A) (C := (True ∧ True)) rfl ⟨trivial, trivial⟩ ?_
      exact gv_zret hD rfl (by exact gz_m 191 (by omega)) ⟨I125, J126, rfl, hI125, FI125, FJ126, KLT_I125, KTK_I125, ⟨_, rfl, by exact gz_m 192 (by omega), by exact gz_m 193 (by omega), by exact gz_m 194 (by omega), by exact gz_m 195 (by omega), by exact gz_m 196 (by omega), by exact gz_m 197 (by omega), KPK_I125, (Or.inr ⟨by exact gz_m 198 (by omega), by first | (exfalso; exact gz_m 199 (by omega)) | (unfold gs_cell; (repeat first | rw [if_pos (by exact gz_m 200 (by omega))] | rw [if_neg (by exact gz_m 201 (by omega))]); exact ⟨by exact gz_m 202 (by omega), by exact gz_m 203 (by omega)⟩)⟩)⟩⟩
