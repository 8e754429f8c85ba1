set_option maxHeartbeats 4000000 in
set_option maxRecDepth 100000 in
theorem d_X6_readPart {ws0 : List Cond} {tb : String → gz_T} (hws : gc_Ws ws0) (htb : gc_tbs tb) (sh : gz_Sh) (ro : Nat → Nat) (I : gr_I) (J : gr_J) (A : gc_A) (hI : gc_Inv ro I) (B : Int)  (hb : gc_Base sh ro A)  (x0 : B ≤ 1280 ∧ I 1 17 + I 23 1 ≤ B + I 23 5) (KLT_I : gc_LT I) (KTK_I : gc_TK I) : ∃ r h', gz_Ev ws0 tb 3 (yX6_readPart, cX6_readPart, 1, (some .boolean)) [.inr (.inr (some 39))] sh (gc_h sh I J A) r sh h' 0 0 ∧ (∃ (I' : gr_I) (J' : gr_J), h' = gc_h sh I' J' A ∧ gc_Inv ro I' ∧ (∀ q j : Nat, ((q = 39 ∧ j = 3) ∨ (q = 39 ∧ j = 4) ∨ (q = 23 ∧ j = 5) ∨ (q = 23 ∧ j = 6) ∨ (q = 23 ∧ j = 7) ∨ (q = 23 ∧ j = 8) ∨ (q = 1 ∧ j = 17) ∨ (q = 1 ∧ j = 18) ∨ q = 20) ∨ I' q j = I q j) ∧ (∀ q j : Nat, ((q = 23 ∧ j = 9)) ∨ J' q j = J q j) ∧ gc_LT I' ∧ gc_TK I' ∧ (∃ z : Int, r = some (.inl z) ∧ 0 ≤ z ∧ z ≤ 1 ∧ (I' 23 1 = I 23 1) ∧ (I 23 5 ≤ I' 23 5) ∧ (B ≤ 1280 ∧ I' 1 17 + I' 23 1 ≤ B + I' 23 5) ∧ (I 1 17 ≤ I' 1 17))) := by
  have FI : ∀ q j : Nat, ((q = 39 ∧ j = 3) ∨ (q = 39 ∧ j = 4) ∨ (q = 23 ∧ j = 5) ∨ (q = 23 ∧ j = 6) ∨ (q = 23 ∧ j = 7) ∨ (q = 23 ∧ j = 8) ∨ (q = 1 ∧ j = 17) ∨ (q = 1 ∧ j = 18) ∨ q = 20) ∨ I q j = I q j := fun _ _ => Or.inr rfl
  have FJ : ∀ q j : Nat, ((q = 23 ∧ j = 9)) ∨ J q j = J q j := fun _ _ => Or.inr rfl
  have A_39_0 : A 39 0 = some 1 := gc_bA hb rfl
  have A_39_1 : A 39 1 = some 23 := gc_bA hb rfl
  have B_1 : 1 < 1000000 := by decide
  have B_23 : 23 < 1000000 := by decide
  have B_39 : 39 < 1000000 := by decide
  have R_1 : ro 1 = 22 := gc_bR hb (by decide) rfl
  have R_23 : ro 23 = 3 := gc_bR hb (by decide) rfl
  have S_1 : sh[1]? = some (false, 8, 21) := gc_bS hb rfl
  have S_23 : sh[23]? = some (false, 9, 10) := gc_bS hb rfl
  have S_39 : sh[39]? = some (false, 6, 19) := gc_bS hb rfl
  have hD : gv_D (gc_E6 ws0 tb 2 (yX6_readPart, cX6_readPart, 1, (some .boolean)) kX6_readPart) := gq_ok oX6_readPart
  refine gc_ev6 (d := 2) (l := kX6_readPart) (Po := fun r h' => (∃ (I' : gr_I) (J' : gr_J), h' = gc_h sh I' J' A ∧ gc_Inv ro I' ∧ (∀ q j : Nat, ((q = 39 ∧ j = 3) ∨ (q = 39 ∧ j = 4) ∨ (q = 23 ∧ j = 5) ∨ (q = 23 ∧ j = 6) ∨ (q = 23 ∧ j = 7) ∨ (q = 23 ∧ j = 8) ∨ (q = 1 ∧ j = 17) ∨ (q = 1 ∧ j = 18) ∨ q = 20) ∨ I' q j = I q j) ∧ (∀ q j : Nat, ((q = 23 ∧ j = 9)) ∨ J' q j = J q j) ∧ gc_LT I' ∧ gc_TK I' ∧ (∃ z : Int, r = some (.inl z) ∧ 0 ≤ z ∧ z ≤ 1 ∧ (I' 23 1 = I 23 1) ∧ (I 23 5 ≤ I' 23 5) ∧ (B ≤ 1280 ∧ I' 1 17 + I' 23 1 ≤ B + I' 23 5) ∧ (I 1 17 ≤ I' 1 17)))) htb rfl (Nat.le_of_ble_eq_true rfl) ?_
  have t1 := gc_TK_mo KTK_I
  have f2 := (show 0 ≤ I 23 1 ∧ I 23 1 ≤ 1000 from gc_in hI R_23 rfl rfl)
  have f3 := (show 0 ≤ I 23 5 ∧ I 23 5 ≤ 1000 from gc_in hI R_23 rfl rfl)
  have f4 := (show 0 ≤ I 23 6 ∧ I 23 6 ≤ 1001 from gc_in hI R_23 rfl rfl)
  have f5 := (show 0 ≤ I 23 7 ∧ I 23 7 ≤ 125 from gc_in hI R_23 rfl rfl)
  have f6 := (show 0 ≤ I 1 17 ∧ I 1 17 ≤ 12000 from gc_in hI R_1 rfl rfl)
  have f7 := (show 0 ≤ I 23 8 ∧ I 23 8 ≤ 999999 from gc_in hI R_23 rfl rfl)
  have L78 : ∀ (I8 : gr_I) (J9 : gr_J) , gc_Inv ro I8 → (∀ q j : Nat, ((q = 39 ∧ j = 3) ∨ (q = 39 ∧ j = 4) ∨ (q = 23 ∧ j = 5) ∨ (q = 23 ∧ j = 6) ∨ (q = 23 ∧ j = 7) ∨ (q = 23 ∧ j = 8) ∨ (q = 1 ∧ j = 17) ∨ (q = 1 ∧ j = 18) ∨ q = 20) ∨ I8 q j = I q j) → (∀ q j : Nat, ((q = 23 ∧ j = 9)) ∨ J9 q j = J q j) → gc_LT I8 → gc_TK I8 → ((I 23 7 = 2 ∨ I 23 7 = 3) ∧ (I8 23 7 = I 23 7) ∧ (I8 23 6 = I 23 6) ∧ (I8 23 5 = I 23 5) ∧ (I8 1 17 ≤ I 1 17 + I 23 6 - I 23 5) ∧ (I8 23 1 = I 23 1) ∧ (I 23 5 ≤ I8 23 5) ∧ (I 1 17 ≤ I8 1 17)) → gv_X (gc_E6 ws0 tb 2 (yX6_readPart, cX6_readPart, 1, (some .boolean)) kX6_readPart) (gv_Q cX6_readPart (some .boolean) sh (fun r h' => (∃ (I' : gr_I) (J' : gr_J), h' = gc_h sh I' J' A ∧ gc_Inv ro I' ∧ (∀ q j : Nat, ((q = 39 ∧ j = 3) ∨ (q = 39 ∧ j = 4) ∨ (q = 23 ∧ j = 5) ∨ (q = 23 ∧ j = 6) ∨ (q = 23 ∧ j = 7) ∨ (q = 23 ∧ j = 8) ∨ (q = 1 ∧ j = 17) ∨ (q = 1 ∧ j = 18) ∨ q = 20) ∨ I' q j = I q j) ∧ (∀ q j : Nat, ((q = 23 ∧ j = 9)) ∨ J' q j = J q j) ∧ gc_LT I' ∧ gc_TK I' ∧ (∃ z : Int, r = some (.inl z) ∧ 0 ≤ z ∧ z ≤ 1 ∧ (I' 23 1 = I 23 1) ∧ (I 23 5 ≤ I' 23 5) ∧ (B ≤ 1280 ∧ I' 1 17 + I' 23 1 ≤ B + I' 23 5) ∧ (I 1 17 ≤ I' 1 17))))) (78, [(0, .inr (.inr (some 39)))], [], sh, gc_h sh I8 J9 A) := by
    intro I8 J9 hI8 FI8 FJ9 KLT_I8 KTK_I8 m_10
    obtain ⟨e0_10, e1_10, e2_10, e3_10, e4_10, e5_10, e6_10, e7_10⟩ := m_10
    have t11 := gc_TK_mo KTK_I8
    have f12 := (show 0 ≤ I8 23 1 ∧ I8 23 1 ≤ 1000 from gc_in hI8 R_23 rfl rfl)
    have f13 := (show 0 ≤ I8 23 5 ∧ I8 23 5 ≤ 1000 from gc_in hI8 R_23 rfl rfl)
    have f14 := (show 0 ≤ I8 23 6 ∧ I8 23 6 ≤ 1001 from gc_in hI8 R_23 rfl rfl)
    have f15 := (show 0 ≤ I8 23 7 ∧ I8 23 7 ≤ 125 from gc_in hI8 R_23 rfl rfl)
    have f16 := (show 0 ≤ I8 1 17 ∧ I8 1 17 ≤ 12000 from gc_in hI8 R_1 rfl rfl)
    have f17 := (show 0 ≤ I8 23 8 ∧ I8 23 8 ≤ 999999 from gc_in hI8 R_23 rfl rfl)
    refine gv_run 1 true hD (pc' := 79) (lv' := [(0, .inr (.inr (some 39)))]) (st' := [.inr (.inr (some 39))]) (h' := gc_h sh I8 J9 A) (C := (True ∧ True)) rfl ⟨trivial, trivial⟩ ?_
    refine gv_get hD rfl rfl S_39 ⟨by decide, B_39⟩ (gc_hA S_39 rfl A_39_1) ?_
    show gv_X _ _ (82, [(0, .inr (.inr (some 39)))], [.inr (.inr (some 23))], sh, gc_h sh I8 J9 A)
    have t19 := gc_TK_nx KTK_I8 (by omega)
    have t20 := gc_TK_st KTK_I8 (by omega)
    obtain ⟨r18, h18, E18, P18⟩ := d_X9_advance (ws0 := ws0) (tb := tb) hws htb sh ro I8 J9 A hI8 23  (gc_b23 hb)    (by omega) 
    obtain ⟨I21, J22, rfl, hI21, g18, k18, ⟨rfl, V18_0, V18_1, V18_2, V18_3, V18_4, q18⟩⟩ := P18
    have FI21 := gc_frc (W := fun q j => (q = 39 ∧ j = 3) ∨ (q = 39 ∧ j = 4) ∨ (q = 23 ∧ j = 5) ∨ (q = 23 ∧ j = 6) ∨ (q = 23 ∧ j = 7) ∨ (q = 23 ∧ j = 8) ∨ (q = 1 ∧ j = 17) ∨ (q = 1 ∧ j = 18) ∨ q = 20) (V := fun q j => (q = 23 ∧ j = 5) ∨ (q = 23 ∧ j = 6) ∨ (q = 23 ∧ j = 7) ∨ (q = 23 ∧ j = 8)) FI8 (fun q j h => (h.elim (fun h => (Or.inr (Or.inr (Or.inl h)))) (fun h => (h.elim (fun h => (Or.inr (Or.inr (Or.inr (Or.inl h))))) (fun h => (h.elim (fun h => (Or.inr (Or.inr (Or.inr (Or.inr (Or.inl h)))))) (fun h => (Or.inr (Or.inr (Or.inr (Or.inr (Or.inr (Or.inl h))))))))))))) g18
    have FJ22 := gc_frc (W := fun q j => (q = 23 ∧ j = 9)) (V := fun q j => (q = 23 ∧ j = 9)) FJ9 (fun q j h => h) k18
    have t23 := (g18 23 1).resolve_left (fun h => h.elim (fun h => absurd h.2 (by decide)) (fun h => h.elim (fun h => absurd h.2 (by decide)) (fun h => h.elim (fun h => absurd h.2 (by decide)) (fun h => absurd h.2 (by decide)))))
    have t24 := (g18 1 17).resolve_left (fun h => h.elim (fun h => absurd h.2 (by decide)) (fun h => h.elim (fun h => absurd h.2 (by decide)) (fun h => h.elim (fun h => absurd h.2 (by decide)) (fun h => absurd h.2 (by decide)))))
    have f25 := (show 0 ≤ I21 23 5 ∧ I21 23 5 ≤ 1000 from gc_in hI21 R_23 rfl rfl)
    have f26 := (show 0 ≤ I21 23 6 ∧ I21 23 6 ≤ 1001 from gc_in hI21 R_23 rfl rfl)
    have f27 := (show 0 ≤ I21 23 7 ∧ I21 23 7 ≤ 125 from gc_in hI21 R_23 rfl rfl)
    have f28 := (show 0 ≤ I21 23 8 ∧ I21 23 8 ≤ 999999 from gc_in hI21 R_23 rfl rfl)
    have KLT_I21 : gc_LT I21 := q18.2.2
    have KTK_I21 : gc_TK I21 := And.intro V18_0 (And.intro V18_1 (And.intro V18_2 (And.intro V18_3 V18_4)))
    have t29 := gc_TK_mo KTK_I21
    clear V18_0 V18_1 V18_2 V18_3 V18_4
    refine gv_callV hD rfl (As := []) (st := []) rfl B_23 S_23 rfl (gc_lV6 hws rfl) (Nat.le_of_ble_eq_true rfl) (gz_Ev_mono (d := 2) (by decide) E18) ?_
    show gv_X _ _ (85, [(0, .inr (.inr (some 39)))], [], sh, gc_h sh I21 J22 A)
    refine gv_run 1 true hD (pc' := 86) (lv' := [(0, .inr (.inr (some 39)))]) (st' := [.inl 1]) (h' := gc_h sh I21 J22 A) (C := (True ∧ True)) rfl ⟨trivial, trivial⟩ ?_
    exact gv_zret hD rfl (by omega) ⟨I21, J22, rfl, hI21, FI21, FJ22, KLT_I21, KTK_I21, ⟨_, rfl, by omega⟩⟩
  have L51 : ∀ (I30 : gr_I) (J31 : gr_J) , gc_Inv ro I30 → (∀ q j : Nat, ((q = 39 ∧ j = 3) ∨ (q = 39 ∧ j = 4) ∨ (q = 23 ∧ j = 5) ∨ (q = 23 ∧ j = 6) ∨ (q = 23 ∧ j = 7) ∨ (q = 23 ∧ j = 8) ∨ (q = 1 ∧ j = 17) ∨ (q = 1 ∧ j = 18) ∨ q = 20) ∨ I30 q j = I q j) → (∀ q j : Nat, ((q = 23 ∧ j = 9)) ∨ J31 q j = J q j) → gc_LT I30 → gc_TK I30 → ((I30 23 1 = I 23 1) ∧ (I 23 5 ≤ I30 23 5) ∧ (B ≤ 1280 ∧ I30 1 17 + I30 23 1 ≤ B + I30 23 5) ∧ (I 1 17 ≤ I30 1 17)) → gv_X (gc_E6 ws0 tb 2 (yX6_readPart, cX6_readPart, 1, (some .boolean)) kX6_readPart) (gv_Q cX6_readPart (some .boolean) sh (fun r h' => (∃ (I' : gr_I) (J' : gr_J), h' = gc_h sh I' J' A ∧ gc_Inv ro I' ∧ (∀ q j : Nat, ((q = 39 ∧ j = 3) ∨ (q = 39 ∧ j = 4) ∨ (q = 23 ∧ j = 5) ∨ (q = 23 ∧ j = 6) ∨ (q = 23 ∧ j = 7) ∨ (q = 23 ∧ j = 8) ∨ (q = 1 ∧ j = 17) ∨ (q = 1 ∧ j = 18) ∨ q = 20) ∨ I' q j = I q j) ∧ (∀ q j : Nat, ((q = 23 ∧ j = 9)) ∨ J' q j = J q j) ∧ gc_LT I' ∧ gc_TK I' ∧ (∃ z : Int, r = some (.inl z) ∧ 0 ≤ z ∧ z ≤ 1 ∧ (I' 23 1 = I 23 1) ∧ (I 23 5 ≤ I' 23 5) ∧ (B ≤ 1280 ∧ I' 1 17 + I' 23 1 ≤ B + I' 23 5) ∧ (I 1 17 ≤ I' 1 17))))) (51, [(0, .inr (.inr (some 39)))], [], sh, gc_h sh I30 J31 A) := by
    intro I30 J31 hI30 FI30 FJ31 KLT_I30 KTK_I30 m_32
    obtain ⟨e0_32, e1_32, e2_32, e3_32⟩ := m_32
    have t33 := gc_TK_mo KTK_I30
    have f34 := (show 0 ≤ I30 23 1 ∧ I30 23 1 ≤ 1000 from gc_in hI30 R_23 rfl rfl)
    have f35 := (show 0 ≤ I30 23 5 ∧ I30 23 5 ≤ 1000 from gc_in hI30 R_23 rfl rfl)
    have f36 := (show 0 ≤ I30 23 6 ∧ I30 23 6 ≤ 1001 from gc_in hI30 R_23 rfl rfl)
    have f37 := (show 0 ≤ I30 23 7 ∧ I30 23 7 ≤ 125 from gc_in hI30 R_23 rfl rfl)
    have f38 := (show 0 ≤ I30 1 17 ∧ I30 1 17 ≤ 12000 from gc_in hI30 R_1 rfl rfl)
    have f39 := (show 0 ≤ I30 23 8 ∧ I30 23 8 ≤ 999999 from gc_in hI30 R_23 rfl rfl)
    refine gv_run 3 true hD (pc' := 54) (lv' := [(0, .inr (.inr (some 39)))]) (st' := [.inr (.inr (some 39)), .inl 5, .inr (.inr (some 39))]) (h' := gc_h sh I30 J31 A) (C := (((True ∧ True) ∧ True) ∧ True)) rfl ⟨⟨⟨trivial, trivial⟩, trivial⟩, trivial⟩ ?_
    refine gv_get hD rfl rfl S_39 ⟨by decide, B_39⟩ (gc_hA S_39 rfl A_39_1) ?_
    show gv_X _ _ (57, [(0, .inr (.inr (some 39)))], [.inr (.inr (some 23)), .inl 5, .inr (.inr (some 39))], sh, gc_h sh I30 J31 A)
    have f40 := (show 0 ≤ I30 23 5 ∧ I30 23 5 ≤ 1000 from gc_in hI30 R_23 rfl rfl)
    refine gv_get hD rfl rfl S_23 ⟨by decide, B_23⟩ (gc_hI S_23 rfl) ?_
    show gv_X _ _ (60, [(0, .inr (.inr (some 39)))], [.inl (I30 23 5), .inl 5, .inr (.inr (some 39))], sh, gc_h sh I30 J31 A)
    obtain ⟨r41, h41, E41, P41⟩ := d_X6_wrong (ws0 := ws0) (tb := tb) hws htb sh ro I30 J31 A hI30  5 (I30 23 5) hb   ⟨by omega, by omega⟩ ⟨by omega, by omega⟩  
    obtain ⟨I42, J43, rfl, hI42, g41, k41, ⟨z41, rfl, q41⟩⟩ := P41
    have FI42 := gc_frc (W := fun q j => (q = 39 ∧ j = 3) ∨ (q = 39 ∧ j = 4) ∨ (q = 23 ∧ j = 5) ∨ (q = 23 ∧ j = 6) ∨ (q = 23 ∧ j = 7) ∨ (q = 23 ∧ j = 8) ∨ (q = 1 ∧ j = 17) ∨ (q = 1 ∧ j = 18) ∨ q = 20) (V := fun q j => (q = 39 ∧ j = 3) ∨ (q = 39 ∧ j = 4)) FI30 (fun q j h => (h.elim (fun h => (Or.inl h)) (fun h => (Or.inr (Or.inl h))))) g41
    have t44 := (g41 23 1).resolve_left (fun h => h.elim (fun h => absurd h.2 (by decide)) (fun h => absurd h.2 (by decide)))
    have t45 := (g41 23 5).resolve_left (fun h => h.elim (fun h => absurd h.2 (by decide)) (fun h => absurd h.2 (by decide)))
    have t46 := (g41 23 6).resolve_left (fun h => h.elim (fun h => absurd h.2 (by decide)) (fun h => absurd h.2 (by decide)))
    have t47 := (g41 23 7).resolve_left (fun h => h.elim (fun h => absurd h.2 (by decide)) (fun h => absurd h.2 (by decide)))
    have t48 := (g41 1 17).resolve_left (fun h => h.elim (fun h => absurd h.2 (by decide)) (fun h => absurd h.2 (by decide)))
    have t49 := (g41 23 8).resolve_left (fun h => h.elim (fun h => absurd h.2 (by decide)) (fun h => absurd h.2 (by decide)))
    obtain rfl : J31 = J43 := funext fun q => funext fun j => ((k41 q j).resolve_left id).symm
    have KLT_I42 := gc_LT_fr KLT_I30 ((g41 23 5).resolve_left (fun h => h.elim (fun h => absurd h.2 (by decide)) (fun h => absurd h.2 (by decide)))) ((g41 23 6).resolve_left (fun h => h.elim (fun h => absurd h.2 (by decide)) (fun h => absurd h.2 (by decide)))) ((g41 23 7).resolve_left (fun h => h.elim (fun h => absurd h.2 (by decide)) (fun h => absurd h.2 (by decide)))) (fun k => (g41 24 k).resolve_left (fun h => h.elim (fun h => absurd h.1 (by decide)) (fun h => absurd h.1 (by decide))))
    have KTK_I42 := gc_TK_fr KTK_I30 ((g41 23 1).resolve_left (fun h => h.elim (fun h => absurd h.2 (by decide)) (fun h => absurd h.2 (by decide)))) ((g41 23 5).resolve_left (fun h => h.elim (fun h => absurd h.2 (by decide)) (fun h => absurd h.2 (by decide)))) ((g41 23 6).resolve_left (fun h => h.elim (fun h => absurd h.2 (by decide)) (fun h => absurd h.2 (by decide)))) ((g41 23 7).resolve_left (fun h => h.elim (fun h => absurd h.2 (by decide)) (fun h => absurd h.2 (by decide))))
    refine gv_callV hD rfl (As := [.inl 5, .inl (I30 23 5)]) (st := []) rfl B_39 S_39 rfl (gc_lV6 hws rfl) (Nat.le_of_ble_eq_true rfl) (gz_Ev_mono (d := 1) (by decide) E41) ?_
    show gv_X _ _ (63, [(0, .inr (.inr (some 39)))], [.inl z41], sh, gc_h sh I42 J31 A)
    exact gv_zret hD rfl (by omega) ⟨I42, J31, rfl, hI42, FI42, FJ31, KLT_I42, KTK_I42, ⟨_, rfl, by omega⟩⟩
  refine gv_run 1 true hD (pc' := 1) (lv' := [(0, .inr (.inr (some 39)))]) (st' := [.inr (.inr (some 39))]) (h' := gc_h sh I J A) (C := (True ∧ True)) rfl ⟨trivial, trivial⟩ ?_
  refine gv_get hD rfl rfl S_39 ⟨by decide, B_39⟩ (gc_hA S_39 rfl A_39_1) ?_
  show gv_X _ _ (4, [(0, .inr (.inr (some 39)))], [.inr (.inr (some 23))], sh, gc_h sh I J A)
  have f50 := (show 0 ≤ I 23 7 ∧ I 23 7 ≤ 125 from gc_in hI R_23 rfl rfl)
  refine gv_get hD rfl rfl S_23 ⟨by decide, B_23⟩ (gc_hI S_23 rfl) ?_
  show gv_X _ _ (7, [(0, .inr (.inr (some 39)))], [.inl (I 23 7)], sh, gc_h sh I J A)
  refine gv_run 1 true hD (pc' := 8) (lv' := [(0, .inr (.inr (some 39)))]) (st' := [.inl 3, .inl (I 23 7)]) (h' := gc_h sh I J A) (C := (True ∧ True)) rfl ⟨trivial, trivial⟩ ?_
  refine gv_icmp_ne (t := 19) hD rfl rfl ⟨⟨by omega, by omega⟩, ⟨by omega, by omega⟩⟩ (fun c51 => ?_) (fun c51 => ?_)
  · show gv_X _ _ (19, [(0, .inr (.inr (some 39)))], [], sh, gc_h sh I J A)
    refine gv_run 2 true hD (pc' := 21) (lv' := [(0, .inr (.inr (some 39)))]) (st' := [.inl 2, .inr (.inr (some 39))]) (h' := gc_h sh I J A) (C := ((True ∧ True) ∧ True)) rfl ⟨⟨trivial, trivial⟩, trivial⟩ ?_
    obtain ⟨r52, h52, E52, P52⟩ := d_X6_need (ws0 := ws0) (tb := tb) hws htb sh ro I J A hI  2 hb   ⟨by omega, by omega⟩  
    obtain ⟨I53, J54, rfl, hI53, g52, k52, ⟨z52, rfl, q52⟩⟩ := P52
    have FI53 := gc_frc (W := fun q j => (q = 39 ∧ j = 3) ∨ (q = 39 ∧ j = 4) ∨ (q = 23 ∧ j = 5) ∨ (q = 23 ∧ j = 6) ∨ (q = 23 ∧ j = 7) ∨ (q = 23 ∧ j = 8) ∨ (q = 1 ∧ j = 17) ∨ (q = 1 ∧ j = 18) ∨ q = 20) (V := fun q j => (q = 39 ∧ j = 3) ∨ (q = 39 ∧ j = 4)) FI (fun q j h => (h.elim (fun h => (Or.inl h)) (fun h => (Or.inr (Or.inl h))))) g52
    have t55 := (g52 23 1).resolve_left (fun h => h.elim (fun h => absurd h.2 (by decide)) (fun h => absurd h.2 (by decide)))
    have t56 := (g52 23 5).resolve_left (fun h => h.elim (fun h => absurd h.2 (by decide)) (fun h => absurd h.2 (by decide)))
    have t57 := (g52 23 6).resolve_left (fun h => h.elim (fun h => absurd h.2 (by decide)) (fun h => absurd h.2 (by decide)))
    have t58 := (g52 23 7).resolve_left (fun h => h.elim (fun h => absurd h.2 (by decide)) (fun h => absurd h.2 (by decide)))
    have t59 := (g52 1 17).resolve_left (fun h => h.elim (fun h => absurd h.2 (by decide)) (fun h => absurd h.2 (by decide)))
    have t60 := (g52 23 8).resolve_left (fun h => h.elim (fun h => absurd h.2 (by decide)) (fun h => absurd h.2 (by decide)))
    obtain rfl : J = J54 := funext fun q => funext fun j => ((k52 q j).resolve_left id).symm
    have KLT_I53 := gc_LT_fr KLT_I ((g52 23 5).resolve_left (fun h => h.elim (fun h => absurd h.2 (by decide)) (fun h => absurd h.2 (by decide)))) ((g52 23 6).resolve_left (fun h => h.elim (fun h => absurd h.2 (by decide)) (fun h => absurd h.2 (by decide)))) ((g52 23 7).resolve_left (fun h => h.elim (fun h => absurd h.2 (by decide)) (fun h => absurd h.2 (by decide)))) (fun k => (g52 24 k).resolve_left (fun h => h.elim (fun h => absurd h.1 (by decide)) (fun h => absurd h.1 (by decide))))
    have KTK_I53 := gc_TK_fr KTK_I ((g52 23 1).resolve_left (fun h => h.elim (fun h => absurd h.2 (by decide)) (fun h => absurd h.2 (by decide)))) ((g52 23 5).resolve_left (fun h => h.elim (fun h => absurd h.2 (by decide)) (fun h => absurd h.2 (by decide)))) ((g52 23 6).resolve_left (fun h => h.elim (fun h => absurd h.2 (by decide)) (fun h => absurd h.2 (by decide)))) ((g52 23 7).resolve_left (fun h => h.elim (fun h => absurd h.2 (by decide)) (fun h => absurd h.2 (by decide))))
    refine gv_callV hD rfl (As := [.inl 2]) (st := []) rfl B_39 S_39 rfl (gc_lV6 hws rfl) (Nat.le_of_ble_eq_true rfl) (gz_Ev_mono (d := 2) (by decide) E52) ?_
    show gv_X _ _ (24, [(0, .inr (.inr (some 39)))], [.inl z52], sh, gc_h sh I53 J A)
    refine gv_if_ne (t := 29) hD rfl rfl ⟨by omega, by omega⟩ (fun c61 => ?_) (fun c61 => ?_)
    · show gv_X _ _ (29, [(0, .inr (.inr (some 39)))], [], sh, gc_h sh I53 J A)
      refine gv_run 1 true hD (pc' := 30) (lv' := [(0, .inr (.inr (some 39)))]) (st' := [.inr (.inr (some 39))]) (h' := gc_h sh I53 J A) (C := (True ∧ True)) rfl ⟨trivial, trivial⟩ ?_
      refine gv_get hD rfl rfl S_39 ⟨by decide, B_39⟩ (gc_hA S_39 rfl A_39_1) ?_
      show gv_X _ _ (33, [(0, .inr (.inr (some 39)))], [.inr (.inr (some 23))], sh, gc_h sh I53 J A)
      have f62 := (show 0 ≤ I53 23 8 ∧ I53 23 8 ≤ 999999 from gc_in hI53 R_23 rfl rfl)
      refine gv_get hD rfl rfl S_23 ⟨by decide, B_23⟩ (gc_hI S_23 rfl) ?_
      show gv_X _ _ (36, [(0, .inr (.inr (some 39)))], [.inl (I53 23 8)], sh, gc_h sh I53 J A)
      refine gv_run 1 true hD (pc' := 37) (lv' := [(0, .inr (.inr (some 39)))]) (st' := [.inl 1, .inl (I53 23 8)]) (h' := gc_h sh I53 J A) (C := (True ∧ True)) rfl ⟨trivial, trivial⟩ ?_
      refine gv_icmp_lt (t := 51) hD rfl rfl ⟨⟨by omega, by omega⟩, ⟨by omega, by omega⟩⟩ (fun c63 => ?_) (fun c63 => ?_)
      · show gv_X _ _ (51, [(0, .inr (.inr (some 39)))], [], sh, gc_h sh I53 J A)
        exact L51 I53 J hI53 FI53 FJ KLT_I53 KTK_I53 (by omega)
      · show gv_X _ _ (40, [(0, .inr (.inr (some 39)))], [], sh, gc_h sh I53 J A)
        refine gv_run 1 true hD (pc' := 41) (lv' := [(0, .inr (.inr (some 39)))]) (st' := [.inr (.inr (some 39))]) (h' := gc_h sh I53 J A) (C := (True ∧ True)) rfl ⟨trivial, trivial⟩ ?_
        refine gv_get hD rfl rfl S_39 ⟨by decide, B_39⟩ (gc_hA S_39 rfl A_39_1) ?_
        show gv_X _ _ (44, [(0, .inr (.inr (some 39)))], [.inr (.inr (some 23))], sh, gc_h sh I53 J A)
        have f64 := (show 0 ≤ I53 23 8 ∧ I53 23 8 ≤ 999999 from gc_in hI53 R_23 rfl rfl)
        refine gv_get hD rfl rfl S_23 ⟨by decide, B_23⟩ (gc_hI S_23 rfl) ?_
        show gv_X _ _ (47, [(0, .inr (.inr (some 39)))], [.inl (I53 23 8)], sh, gc_h sh I53 J A)
        refine gv_run 1 true hD (pc' := 48) (lv' := [(0, .inr (.inr (some 39)))]) (st' := [.inl 3, .inl (I53 23 8)]) (h' := gc_h sh I53 J A) (C := (True ∧ True)) rfl ⟨trivial, trivial⟩ ?_
        refine gv_icmp_le (t := 64) hD rfl rfl ⟨⟨by omega, by omega⟩, ⟨by omega, by omega⟩⟩ (fun c65 => ?_) (fun c65 => ?_)
        · show gv_X _ _ (64, [(0, .inr (.inr (some 39)))], [], sh, gc_h sh I53 J A)
          have t66 := gc_TK_st KTK_I53 (by omega)
          refine gv_run 1 true hD (pc' := 65) (lv' := [(0, .inr (.inr (some 39)))]) (st' := [.inr (.inr (some 39))]) (h' := gc_h sh I53 J A) (C := (True ∧ True)) rfl ⟨trivial, trivial⟩ ?_
          refine gv_get hD rfl rfl S_39 ⟨by decide, B_39⟩ (gc_hA S_39 rfl A_39_0) ?_
          show gv_X _ _ (68, [(0, .inr (.inr (some 39)))], [.inr (.inr (some 1))], sh, gc_h sh I53 J A)
          refine gv_run 1 true hD (pc' := 69) (lv' := [(0, .inr (.inr (some 39)))]) (st' := [.inr (.inr (some 39)), .inr (.inr (some 1))]) (h' := gc_h sh I53 J A) (C := (True ∧ True)) rfl ⟨trivial, trivial⟩ ?_
          refine gv_get hD rfl rfl S_39 ⟨by decide, B_39⟩ (gc_hA S_39 rfl A_39_1) ?_
          show gv_X _ _ (72, [(0, .inr (.inr (some 39)))], [.inr (.inr (some 23)), .inr (.inr (some 1))], sh, gc_h sh I53 J A)
          have f67 := (show 0 ≤ I53 23 8 ∧ I53 23 8 ≤ 999999 from gc_in hI53 R_23 rfl rfl)
          refine gv_get hD rfl rfl S_23 ⟨by decide, B_23⟩ (gc_hI S_23 rfl) ?_
          show gv_X _ _ (75, [(0, .inr (.inr (some 39)))], [.inl (I53 23 8), .inr (.inr (some 1))], sh, gc_h sh I53 J A)
          obtain ⟨r68, h68, E68, P68⟩ := d_X8_keepByte (ws0 := ws0) (tb := tb) hws htb sh ro I53 J A hI53  (I53 23 8) hb   ⟨by omega, by omega⟩  
          obtain ⟨I69, J70, rfl, hI69, g68, k68, ⟨rfl, q68⟩⟩ := P68
          have FI69 := gc_frc (W := fun q j => (q = 39 ∧ j = 3) ∨ (q = 39 ∧ j = 4) ∨ (q = 23 ∧ j = 5) ∨ (q = 23 ∧ j = 6) ∨ (q = 23 ∧ j = 7) ∨ (q = 23 ∧ j = 8) ∨ (q = 1 ∧ j = 17) ∨ (q = 1 ∧ j = 18) ∨ q = 20) (V := fun q j => (q = 1 ∧ j = 17) ∨ (q = 1 ∧ j = 18) ∨ q = 20) FI53 (fun q j h => (h.elim (fun h => (Or.inr (Or.inr (Or.inr (Or.inr (Or.inr (Or.inr (Or.inl h)))))))) (fun h => (h.elim (fun h => (Or.inr (Or.inr (Or.inr (Or.inr (Or.inr (Or.inr (Or.inr (Or.inl h))))))))) (fun h => (Or.inr (Or.inr (Or.inr (Or.inr (Or.inr (Or.inr (Or.inr (Or.inr h))))))))))))) g68
          have t71 := (g68 23 1).resolve_left (fun h => h.elim (fun h => absurd h.2 (by decide)) (fun h => h.elim (fun h => absurd h.2 (by decide)) (fun h => absurd h (by decide))))
          have t72 := (g68 23 5).resolve_left (fun h => h.elim (fun h => absurd h.2 (by decide)) (fun h => h.elim (fun h => absurd h.2 (by decide)) (fun h => absurd h (by decide))))
          have t73 := (g68 23 6).resolve_left (fun h => h.elim (fun h => absurd h.2 (by decide)) (fun h => h.elim (fun h => absurd h.2 (by decide)) (fun h => absurd h (by decide))))
          have t74 := (g68 23 7).resolve_left (fun h => h.elim (fun h => absurd h.2 (by decide)) (fun h => h.elim (fun h => absurd h.2 (by decide)) (fun h => absurd h (by decide))))
          have t75 := (g68 23 8).resolve_left (fun h => h.elim (fun h => absurd h.2 (by decide)) (fun h => h.elim (fun h => absurd h.2 (by decide)) (fun h => absurd h (by decide))))
          have f76 := (show 0 ≤ I69 1 17 ∧ I69 1 17 ≤ 12000 from gc_in hI69 R_1 rfl rfl)
          obtain rfl : J = J70 := funext fun q => funext fun j => ((k68 q j).resolve_left id).symm
          have KLT_I69 := gc_LT_fr KLT_I53 ((g68 23 5).resolve_left (fun h => h.elim (fun h => absurd h.2 (by decide)) (fun h => h.elim (fun h => absurd h.2 (by decide)) (fun h => absurd h (by decide))))) ((g68 23 6).resolve_left (fun h => h.elim (fun h => absurd h.2 (by decide)) (fun h => h.elim (fun h => absurd h.2 (by decide)) (fun h => absurd h (by decide))))) ((g68 23 7).resolve_left (fun h => h.elim (fun h => absurd h.2 (by decide)) (fun h => h.elim (fun h => absurd h.2 (by decide)) (fun h => absurd h (by decide))))) (fun k => (g68 24 k).resolve_left (fun h => h.elim (fun h => absurd h.1 (by decide)) (fun h => h.elim (fun h => absurd h.1 (by decide)) (fun h => absurd h (by decide)))))
          have KTK_I69 := gc_TK_fr KTK_I53 ((g68 23 1).resolve_left (fun h => h.elim (fun h => absurd h.2 (by decide)) (fun h => h.elim (fun h => absurd h.2 (by decide)) (fun h => absurd h (by decide))))) ((g68 23 5).resolve_left (fun h => h.elim (fun h => absurd h.2 (by decide)) (fun h => h.elim (fun h => absurd h.2 (by decide)) (fun h => absurd h (by decide))))) ((g68 23 6).resolve_left (fun h => h.elim (fun h => absurd h.2 (by decide)) (fun h => h.elim (fun h => absurd h.2 (by decide)) (fun h => absurd h (by decide))))) ((g68 23 7).resolve_left (fun h => h.elim (fun h => absurd h.2 (by decide)) (fun h => h.elim (fun h => absurd h.2 (by decide)) (fun h => absurd h (by decide)))))
          refine gv_callV hD rfl (As := [.inl (I53 23 8)]) (st := []) rfl B_1 S_1 rfl (gc_lV6 hws rfl) (Nat.le_of_ble_eq_true rfl) (gz_Ev_mono (d := 1) (by decide) E68) ?_
          show gv_X _ _ (78, [(0, .inr (.inr (some 39)))], [], sh, gc_h sh I69 J A)
          exact L78 I69 J hI69 FI69 FJ KLT_I69 KTK_I69 (by omega)
        · show gv_X _ _ (51, [(0, .inr (.inr (some 39)))], [], sh, gc_h sh I53 J A)
          exact L51 I53 J hI53 FI53 FJ KLT_I53 KTK_I53 (by omega)
    · show gv_X _ _ (27, [(0, .inr (.inr (some 39)))], [], sh, gc_h sh I53 J A)
      refine gv_run 1 true hD (pc' := 28) (lv' := [(0, .inr (.inr (some 39)))]) (st' := [.inl 0]) (h' := gc_h sh I53 J A) (C := (True ∧ True)) rfl ⟨trivial, trivial⟩ ?_
      exact gv_zret hD rfl (by omega) ⟨I53, J, rfl, hI53, FI53, FJ, KLT_I53, KTK_I53, ⟨_, rfl, by omega⟩⟩
  · show gv_X _ _ (11, [(0, .inr (.inr (some 39)))], [], sh, gc_h sh I J A)
    refine gv_run 1 true hD (pc' := 12) (lv' := [(0, .inr (.inr (some 39)))]) (st' := [.inr (.inr (some 39))]) (h' := gc_h sh I J A) (C := (True ∧ True)) rfl ⟨trivial, trivial⟩ ?_
    obtain ⟨r77, h77, E77, P77⟩ := d_X6_keepLetters (ws0 := ws0) (tb := tb) hws htb sh ro I J A hI   hb    (by omega) KLT_I KTK_I
    obtain ⟨I78, J79, rfl, hI78, g77, k77, KLT_I78, KTK_I78, ⟨z77, rfl, q77⟩⟩ := P77
    have FI78 := gc_frc (W := fun q j => (q = 39 ∧ j = 3) ∨ (q = 39 ∧ j = 4) ∨ (q = 23 ∧ j = 5) ∨ (q = 23 ∧ j = 6) ∨ (q = 23 ∧ j = 7) ∨ (q = 23 ∧ j = 8) ∨ (q = 1 ∧ j = 17) ∨ (q = 1 ∧ j = 18) ∨ q = 20) (V := fun q j => (q = 1 ∧ j = 17) ∨ (q = 1 ∧ j = 18) ∨ q = 20) FI (fun q j h => (h.elim (fun h => (Or.inr (Or.inr (Or.inr (Or.inr (Or.inr (Or.inr (Or.inl h)))))))) (fun h => (h.elim (fun h => (Or.inr (Or.inr (Or.inr (Or.inr (Or.inr (Or.inr (Or.inr (Or.inl h))))))))) (fun h => (Or.inr (Or.inr (Or.inr (Or.inr (Or.inr (Or.inr (Or.inr (Or.inr h))))))))))))) g77
    have t80 := (g77 23 1).resolve_left (fun h => h.elim (fun h => absurd h.2 (by decide)) (fun h => h.elim (fun h => absurd h.2 (by decide)) (fun h => absurd h (by decide))))
    have t81 := (g77 23 5).resolve_left (fun h => h.elim (fun h => absurd h.2 (by decide)) (fun h => h.elim (fun h => absurd h.2 (by decide)) (fun h => absurd h (by decide))))
    have t82 := (g77 23 6).resolve_left (fun h => h.elim (fun h => absurd h.2 (by decide)) (fun h => h.elim (fun h => absurd h.2 (by decide)) (fun h => absurd h (by decide))))
    have t83 := (g77 23 7).resolve_left (fun h => h.elim (fun h => absurd h.2 (by decide)) (fun h => h.elim (fun h => absurd h.2 (by decide)) (fun h => absurd h (by decide))))
    have t84 := (g77 23 8).resolve_left (fun h => h.elim (fun h => absurd h.2 (by decide)) (fun h => h.elim (fun h => absurd h.2 (by decide)) (fun h => absurd h (by decide))))
    have f85 := (show 0 ≤ I78 1 17 ∧ I78 1 17 ≤ 12000 from gc_in hI78 R_1 rfl rfl)
    obtain rfl : J = J79 := funext fun q => funext fun j => ((k77 q j).resolve_left id).symm
    refine gv_callV hD rfl (As := []) (st := []) rfl B_39 S_39 rfl (gc_lV6 hws rfl) (Nat.le_of_ble_eq_true rfl) (gz_Ev_mono (d := 2) (by decide) E77) ?_
    show gv_X _ _ (15, [(0, .inr (.inr (some 39)))], [.inl z77], sh, gc_h sh I78 J A)
    refine gv_run 2 true hD (pc' := 78) (lv' := [(0, .inr (.inr (some 39)))]) (st' := []) (h' := gc_h sh I78 J A) (C := ((True ∧ True) ∧ True)) rfl ⟨⟨trivial, trivial⟩, trivial⟩ ?_
    exact L78 I78 J hI78 FI78 FJ KLT_I78 KTK_I78 (by omega)
set_option maxHeartbeats 4000000 in
set_option maxRecDepth 100000 in
theorem d_X6_placeCell {ws0 : List Cond} {tb : String → gz_T} (hws : gc_Ws ws0) (htb : gc_tbs tb) (sh : gz_Sh) (ro : Nat → Nat) (I : gr_I) (J : gr_J) (A : gc_A) (hI : gc_Inv ro I)  (hb : gc_Base sh ro A)  (x0 : 0 ≤ I 41 0 ∧ I 41 0 ≤ 16777215 ∧ 0 ≤ I 41 1 ∧ I 41 1 ≤ 2000 ∧ -1 ≤ I 41 2 ∧ I 41 2 ≤ 2000) : ∃ r h', gz_Ev ws0 tb 2 (yX6_placeCell, cX6_placeCell, 2, (some .boolean)) [.inr (.inr (some 39))] sh (gc_h sh I J A) r sh h' 0 0 ∧ (∃ (I' : gr_I) (J' : gr_J), h' = gc_h sh I' J' A ∧ gc_Inv ro I' ∧ (∀ q j : Nat, ((q = 39 ∧ j = 8) ∨ q = 40) ∨ I' q j = I q j) ∧ (∀ q j : Nat, (False) ∨ J' q j = J q j) ∧ (∃ z : Int, r = some (.inl z) ∧ 0 ≤ z ∧ z ≤ 1)) := by
  have FI : ∀ q j : Nat, ((q = 39 ∧ j = 8) ∨ q = 40) ∨ I q j = I q j := fun _ _ => Or.inr rfl
  have FJ : ∀ q j : Nat, (False) ∨ J q j = J q j := fun _ _ => Or.inr rfl
  have A_39_10 : A 39 10 = some 41 := gc_bA hb rfl
  have A_39_9 : A 39 9 = some 40 := gc_bA hb rfl
  have B_39 : 39 < 1000000 := by decide
  have B_40 : 40 < 1000000 := by decide
  have B_41 : 41 < 1000000 := by decide
  have R_39 : ro 39 = 42 := gc_bR hb (by decide) rfl
  have R_40 : ro 40 = 39 := gc_bR hb (by decide) rfl
  have R_41 : ro 41 = 0 := gc_bR hb (by decide) rfl
  have S_39 : sh[39]? = some (false, 6, 19) := gc_bS hb rfl
  have S_40 : sh[40]? = some (true, 1, 72) := gc_bS hb rfl
  have S_41 : sh[41]? = some (true, 1, 25) := gc_bS hb rfl
  have hD : gv_D (gc_E6 ws0 tb 1 (yX6_placeCell, cX6_placeCell, 2, (some .boolean)) kX6_placeCell) := gq_ok oX6_placeCell
  refine gc_ev6 (d := 1) (l := kX6_placeCell) (Po := fun r h' => (∃ (I' : gr_I) (J' : gr_J), h' = gc_h sh I' J' A ∧ gc_Inv ro I' ∧ (∀ q j : Nat, ((q = 39 ∧ j = 8) ∨ q = 40) ∨ I' q j = I q j) ∧ (∀ q j : Nat, (False) ∨ J' q j = J q j) ∧ (∃ z : Int, r = some (.inl z) ∧ 0 ≤ z ∧ z ≤ 1))) htb rfl (Nat.le_of_ble_eq_true rfl) ?_
  have L2 : ∀ (n9 : Nat) (v1_1 : Int), (25 - v1_1).toNat < n9 → ((0 ≤ v1_1 ∧ v1_1 ≤ 24)) → gv_X (gc_E6 ws0 tb 1 (yX6_placeCell, cX6_placeCell, 2, (some .boolean)) kX6_placeCell) (gv_Q cX6_placeCell (some .boolean) sh (fun r h' => (∃ (I' : gr_I) (J' : gr_J), h' = gc_h sh I' J' A ∧ gc_Inv ro I' ∧ (∀ q j : Nat, ((q = 39 ∧ j = 8) ∨ q = 40) ∨ I' q j = I q j) ∧ (∀ q j : Nat, (False) ∨ J' q j = J q j) ∧ (∃ z : Int, r = some (.inl z) ∧ 0 ≤ z ∧ z ≤ 1)))) (2, [(0, .inr (.inr (some 39))), (1, .inl v1_1)], [], sh, gc_h sh I J A) := by
    intro n9
    induction n9 with
    | zero => intro v1_1 hn; omega
    | succ n9 ih2 =>
      intro v1_1 hn m_1
      have hv1_1 := m_1
      have L33 : ((0 ≤ v1_1 ∧ v1_1 ≤ 24)) → gv_X (gc_E6 ws0 tb 1 (yX6_placeCell, cX6_placeCell, 2, (some .boolean)) kX6_placeCell) (gv_Q cX6_placeCell (some .boolean) sh (fun r h' => (∃ (I' : gr_I) (J' : gr_J), h' = gc_h sh I' J' A ∧ gc_Inv ro I' ∧ (∀ q j : Nat, ((q = 39 ∧ j = 8) ∨ q = 40) ∨ I' q j = I q j) ∧ (∀ q j : Nat, (False) ∨ J' q j = J q j) ∧ (∃ z : Int, r = some (.inl z) ∧ 0 ≤ z ∧ z ≤ 1)))) (33, [(0, .inr (.inr (some 39))), (1, .inl v1_1)], [], sh, gc_h sh I J A) := by
        intro m_2
        have hv1_1_2 := m_2
        refine gv_run 2 true hD (pc' := 36) (lv' := [(0, .inr (.inr (some 39))), (1, .inl v1_1)]) (st' := [.inl 24, .inl v1_1]) (h' := gc_h sh I J A) (C := ((True ∧ True) ∧ True)) rfl ⟨⟨trivial, trivial⟩, trivial⟩ ?_
        refine gv_icmp_lt (t := 41) hD rfl rfl ⟨⟨by omega, by omega⟩, ⟨by omega, by omega⟩⟩ (fun c3 => ?_) (fun c3 => ?_)
        · show gv_X _ _ (41, [(0, .inr (.inr (some 39))), (1, .inl v1_1)], [], sh, gc_h sh I J A)
          refine gv_run 1 true hD (pc' := 42) (lv' := [(0, .inr (.inr (some 39))), (1, .inl v1_1)]) (st' := [.inr (.inr (some 39))]) (h' := gc_h sh I J A) (C := (True ∧ True)) rfl ⟨trivial, trivial⟩ ?_
          refine gv_get hD rfl rfl S_39 ⟨by decide, B_39⟩ (gc_hA S_39 rfl A_39_10) ?_
          show gv_X _ _ (45, [(0, .inr (.inr (some 39))), (1, .inl v1_1)], [.inr (.inr (some 41))], sh, gc_h sh I J A)
          refine gv_run 2 true hD (pc' := 47) (lv' := [(0, .inr (.inr (some 39))), (1, .inl v1_1)]) (st' := [.inr (.inr (some 39)), .inl 0, .inr (.inr (some 41))]) (h' := gc_h sh I J A) (C := ((True ∧ True) ∧ True)) rfl ⟨⟨trivial, trivial⟩, trivial⟩ ?_
          refine gv_get hD rfl rfl S_39 ⟨by decide, B_39⟩ (gc_hA S_39 rfl A_39_9) ?_
          show gv_X _ _ (50, [(0, .inr (.inr (some 39))), (1, .inl v1_1)], [.inr (.inr (some 40)), .inl 0, .inr (.inr (some 41))], sh, gc_h sh I J A)
          refine gv_run 4 true hD (pc' := 54) (lv' := [(0, .inr (.inr (some 39))), (1, .inl v1_1)]) (st' := [.inl 3, .inl (v1_1 * 3), .inr (.inr (some 40)), .inl 0, .inr (.inr (some 41))]) (h' := gc_h sh I J A) (C := ((((True ∧ True) ∧ True) ∧ True) ∧ True)) rfl ⟨⟨⟨⟨trivial, trivial⟩, trivial⟩, trivial⟩, trivial⟩ ?_
          refine gv_copy hD rfl (gc_lC6_263 hws) (Nat.le_of_ble_eq_true rfl) ⟨B_41, B_40⟩ S_41 S_40 (by decide) ⟨by decide, by decide⟩ ⟨by omega, by omega, by omega⟩ (by omega) (by omega) (fun h => absurd h (by decide)) ?_
          refine gc_cp hI S_41 S_40 (by decide) (fun j hj => gc_RL_cp (gc_RL_of x0) R_40 (by omega) (by decide) hj) (fun I5 hI5 p4 q4 => ?_)
          have FI5 := gc_frp (W := fun q j => (q = 39 ∧ j = 8) ∨ q = 40) (V := fun q j => q = 40 ∧ Int.toNat (v1_1 * 3) ≤ j ∧ j < Int.toNat (v1_1 * 3) + Int.toNat 3) FI (fun q j h => (Or.inr h.1)) p4
          show gv_X _ _ (57, [(0, .inr (.inr (some 39))), (1, .inl v1_1)], [], sh, gc_h sh I5 J A)
          refine gv_run 2 true hD (pc' := 59) (lv' := [(0, .inr (.inr (some 39))), (1, .inl v1_1)]) (st' := [.inr (.inr (some 39)), .inr (.inr (some 39))]) (h' := gc_h sh I5 J A) (C := ((True ∧ True) ∧ True)) rfl ⟨⟨trivial, trivial⟩, trivial⟩ ?_
          have f7 := (show 0 ≤ I5 39 8 ∧ I5 39 8 ≤ 24 from gc_in hI5 R_39 rfl rfl)
          refine gv_get hD rfl rfl S_39 ⟨by decide, B_39⟩ (gc_hI S_39 rfl) ?_
          show gv_X _ _ (62, [(0, .inr (.inr (some 39))), (1, .inl v1_1)], [.inl (I5 39 8), .inr (.inr (some 39))], sh, gc_h sh I5 J A)
          refine gv_run 3 true hD (pc' := 65) (lv' := [(0, .inr (.inr (some 39))), (1, .inl v1_1)]) (st' := [.inl (v1_1 + 1), .inl (I5 39 8), .inr (.inr (some 39))]) (h' := gc_h sh I5 J A) (C := (((True ∧ True) ∧ True) ∧ True)) rfl ⟨⟨⟨trivial, trivial⟩, trivial⟩, trivial⟩ ?_
          obtain ⟨z8, E8, q8⟩ := gj_max (ws0 := ws0) (tb := tb) (sh := sh) (h := gc_h sh I5 J A) (I5 39 8) (v1_1 + 1) ⟨by omega, by omega⟩ ⟨by omega, by omega⟩
          refine gv_callS hD rfl (As := [.inl (I5 39 8), .inl (v1_1 + 1)]) (st := [.inr (.inr (some 39))]) rfl (gc_lS6 hws rfl) (Nat.le_of_ble_eq_true rfl) (gz_Ev_mono (d := 1) (by decide) E8) ?_
          show gv_X _ _ (68, [(0, .inr (.inr (some 39))), (1, .inl v1_1)], [.inl z8, .inr (.inr (some 39))], sh, gc_h sh I5 J A)
          refine gv_put hD rfl rfl S_39 ⟨by decide, B_39⟩ rfl trivial ?_
          refine gc_st (k := 8) hI5 S_39 rfl R_39 (lo := 0) (hi := 24) rfl rfl (by omega) (by omega) (fun I9 hI9 q10 p10 => ?_)
          have FI9 := gc_frs (W := fun q j => (q = 39 ∧ j = 8) ∨ q = 40) FI5 (Or.inl ⟨rfl, rfl⟩) p10
          show gv_X _ _ (71, [(0, .inr (.inr (some 39))), (1, .inl v1_1)], [], sh, gc_h sh I9 J A)
          refine gv_run 1 true hD (pc' := 72) (lv' := [(0, .inr (.inr (some 39))), (1, .inl v1_1)]) (st' := [.inl 1]) (h' := gc_h sh I9 J A) (C := (True ∧ True)) rfl ⟨trivial, trivial⟩ ?_
          exact gv_zret hD rfl (by omega) ⟨I9, J, rfl, hI9, FI9, FJ, ⟨_, rfl, by omega⟩⟩
        · show gv_X _ _ (39, [(0, .inr (.inr (some 39))), (1, .inl v1_1)], [], sh, gc_h sh I J A)
          refine gv_run 1 true hD (pc' := 40) (lv' := [(0, .inr (.inr (some 39))), (1, .inl v1_1)]) (st' := [.inl 0]) (h' := gc_h sh I J A) (C := (True ∧ True)) rfl ⟨trivial, trivial⟩ ?_
          exact gv_zret hD rfl (by omega) ⟨I, J, rfl, hI, FI, FJ, ⟨_, rfl, by omega⟩⟩
      refine gv_run 2 true hD (pc' := 4) (lv' := [(0, .inr (.inr (some 39))), (1, .inl v1_1)]) (st' := [.inr (.inr (some 39)), .inl v1_1]) (h' := gc_h sh I J A) (C := ((True ∧ True) ∧ True)) rfl ⟨⟨trivial, trivial⟩, trivial⟩ ?_
      have f11 := (show 0 ≤ I 39 8 ∧ I 39 8 ≤ 24 from gc_in hI R_39 rfl rfl)
      refine gv_get hD rfl rfl S_39 ⟨by decide, B_39⟩ (gc_hI S_39 rfl) ?_
      show gv_X _ _ (7, [(0, .inr (.inr (some 39))), (1, .inl v1_1)], [.inl (I 39 8), .inl v1_1], sh, gc_h sh I J A)
      refine gv_icmp_ge (t := 33) hD rfl rfl ⟨⟨by omega, by omega⟩, ⟨by omega, by omega⟩⟩ (fun c12 => ?_) (fun c12 => ?_)
      · show gv_X _ _ (33, [(0, .inr (.inr (some 39))), (1, .inl v1_1)], [], sh, gc_h sh I J A)
        exact L33 (by omega)
      · show gv_X _ _ (10, [(0, .inr (.inr (some 39))), (1, .inl v1_1)], [], sh, gc_h sh I J A)
        refine gv_run 1 true hD (pc' := 11) (lv' := [(0, .inr (.inr (some 39))), (1, .inl v1_1)]) (st' := [.inr (.inr (some 39))]) (h' := gc_h sh I J A) (C := (True ∧ True)) rfl ⟨trivial, trivial⟩ ?_
        refine gv_get hD rfl rfl S_39 ⟨by decide, B_39⟩ (gc_hA S_39 rfl A_39_9) ?_
        show gv_X _ _ (14, [(0, .inr (.inr (some 39))), (1, .inl v1_1)], [.inr (.inr (some 40))], sh, gc_h sh I J A)
        refine gv_run 3 true hD (pc' := 17) (lv' := [(0, .inr (.inr (some 39))), (1, .inl v1_1)]) (st' := [.inl (v1_1 * 3), .inr (.inr (some 40))]) (h' := gc_h sh I J A) (C := (((True ∧ True) ∧ True) ∧ True)) rfl ⟨⟨⟨trivial, trivial⟩, trivial⟩, trivial⟩ ?_
        have f13 := (show 0 ≤ I 40 (Int.toNat (v1_1 * 3)) ∧ I 40 (Int.toNat (v1_1 * 3)) ≤ 16777215 from gc_inm (c := 0) hI R_40 rfl rfl (by omega) rfl rfl)
        refine gv_iald hD rfl S_40 rfl ⟨by decide, B_40⟩ ⟨by omega, by omega⟩ (gc_iI S_40 rfl) ?_
        show gv_X _ _ (18, [(0, .inr (.inr (some 39))), (1, .inl v1_1)], [.inl (I 40 (Int.toNat (v1_1 * 3)))], sh, gc_h sh I J A)
        refine gv_run 1 true hD (pc' := 19) (lv' := [(0, .inr (.inr (some 39))), (1, .inl v1_1)]) (st' := [.inr (.inr (some 39)), .inl (I 40 (Int.toNat (v1_1 * 3)))]) (h' := gc_h sh I J A) (C := (True ∧ True)) rfl ⟨trivial, trivial⟩ ?_
        refine gv_get hD rfl rfl S_39 ⟨by decide, B_39⟩ (gc_hA S_39 rfl A_39_10) ?_
        show gv_X _ _ (22, [(0, .inr (.inr (some 39))), (1, .inl v1_1)], [.inr (.inr (some 41)), .inl (I 40 (Int.toNat (v1_1 * 3)))], sh, gc_h sh I J A)
        refine gv_run 1 true hD (pc' := 23) (lv' := [(0, .inr (.inr (some 39))), (1, .inl v1_1)]) (st' := [.inl 0, .inr (.inr (some 41)), .inl (I 40 (Int.toNat (v1_1 * 3)))]) (h' := gc_h sh I J A) (C := (True ∧ True)) rfl ⟨trivial, trivial⟩ ?_
        have f14 := (show (-2147483648) ≤ I 41 0 ∧ I 41 0 ≤ 2147483647 from gc_in hI R_41 rfl rfl)
        refine gv_iald hD rfl S_41 rfl ⟨by decide, B_41⟩ ⟨by omega, by omega⟩ (gc_iI S_41 rfl) ?_
        show gv_X _ _ (24, [(0, .inr (.inr (some 39))), (1, .inl v1_1)], [.inl (I 41 0), .inl (I 40 (Int.toNat (v1_1 * 3)))], sh, gc_h sh I J A)
        refine gv_icmp_eq (t := 33) hD rfl rfl ⟨⟨by omega, by omega⟩, ⟨by omega, by omega⟩⟩ (fun c15 => ?_) (fun c15 => ?_)
        · show gv_X _ _ (33, [(0, .inr (.inr (some 39))), (1, .inl v1_1)], [], sh, gc_h sh I J A)
          exact L33 (by omega)
        · show gv_X _ _ (27, [(0, .inr (.inr (some 39))), (1, .inl v1_1)], [], sh, gc_h sh I J A)
          refine gv_run 2 true hD (pc' := 2) (lv' := [(1, .inl (v1_1 + 1)), (0, .inr (.inr (some 39)))]) (st' := []) (h' := gc_h sh I J A) (C := ((True ∧ True) ∧ True)) rfl ⟨⟨trivial, trivial⟩, trivial⟩ ?_
          refine gv_pick [1, 0] rfl ?_
          exact ih2 (v1_1 + 1) (by omega) (by omega)
  refine gv_run 2 true hD (pc' := 2) (lv' := [(1, .inl 0), (0, .inr (.inr (some 39)))]) (st' := []) (h' := gc_h sh I J A) (C := ((True ∧ True) ∧ True)) rfl ⟨⟨trivial, trivial⟩, trivial⟩ ?_
  refine gv_pick [1, 0] rfl ?_
  exact L2 _ 0 (Nat.lt_succ_self _) (by omega)
set_option maxHeartbeats 4000000 in
set_option maxRecDepth 100000 in
theorem d_X6_readCell {ws0 : List Cond} {tb : String → gz_T} (hws : gc_Ws ws0) (htb : gc_tbs tb) (sh : gz_Sh) (ro : Nat → Nat) (I : gr_I) (J : gr_J) (A : gc_A) (hI : gc_Inv ro I) (t : Nat) (B : Int)  (hb : gc_Base sh ro A) (h_t : gc_isTongue sh ro A t) (G_t : 144 ≤ t)  (x0 : B ≤ 1280 ∧ I 1 17 + I 23 1 ≤ B + I 23 5) (x1 : I 39 2 = (t : Int)) (KLT_I : gc_LT I) (KTK_I : gc_TK I) : ∃ r h', gz_Ev ws0 tb 4 (yX6_readCell, cX6_readCell, 3, (some .boolean)) [.inr (.inr (some 39))] sh (gc_h sh I J A) r sh h' 0 0 ∧ (∃ (I' : gr_I) (J' : gr_J), h' = gc_h sh I' J' A ∧ gc_Inv ro I' ∧ (∀ q j : Nat, ((q = 39 ∧ j = 3) ∨ (q = 39 ∧ j = 4) ∨ (q = 23 ∧ j = 5) ∨ (q = 23 ∧ j = 6) ∨ (q = 23 ∧ j = 7) ∨ (q = 23 ∧ j = 8) ∨ (q = 1 ∧ j = 17) ∨ (q = 1 ∧ j = 18) ∨ q = 20 ∨ (q = 39 ∧ j = 6) ∨ (q = 41 ∧ j = 0) ∨ (q = 41 ∧ j = 1) ∨ (q = 41 ∧ j = 2)) ∨ I' q j = I q j) ∧ (∀ q j : Nat, ((q = 23 ∧ j = 9)) ∨ J' q j = J q j) ∧ gc_LT I' ∧ gc_TK I' ∧ (∃ z : Int, r = some (.inl z) ∧ 0 ≤ z ∧ z ≤ 1 ∧ (I' 23 1 = I 23 1) ∧ (I 23 5 ≤ I' 23 5) ∧ (B ≤ 1280 ∧ I' 1 17 + I' 23 1 ≤ B + I' 23 5) ∧ (z = 0 ∨ (0 ≤ I' 41 0 ∧ I' 41 0 ≤ 16777215 ∧ 0 ≤ I' 41 1 ∧ I' 41 1 ≤ 2000 ∧ -1 ≤ I' 41 2 ∧ I' 41 2 ≤ 2000)))) := by
  have FI : ∀ q j : Nat, ((q = 39 ∧ j = 3) ∨ (q = 39 ∧ j = 4) ∨ (q = 23 ∧ j = 5) ∨ (q = 23 ∧ j = 6) ∨ (q = 23 ∧ j = 7) ∨ (q = 23 ∧ j = 8) ∨ (q = 1 ∧ j = 17) ∨ (q = 1 ∧ j = 18) ∨ q = 20 ∨ (q = 39 ∧ j = 6) ∨ (q = 41 ∧ j = 0) ∨ (q = 41 ∧ j = 1) ∨ (q = 41 ∧ j = 2)) ∨ I q j = I q j := fun _ _ => Or.inr rfl
  have FJ : ∀ q j : Nat, ((q = 23 ∧ j = 9)) ∨ J q j = J q j := fun _ _ => Or.inr rfl
  have A_39_0 : A 39 0 = some 1 := gc_bA hb rfl
  have A_39_1 : A 39 1 = some 23 := gc_bA hb rfl
  have A_39_10 : A 39 10 = some 41 := gc_bA hb rfl
  have B_1 : 1 < 1000000 := by decide
  have B_23 : 23 < 1000000 := by decide
  have B_39 : 39 < 1000000 := by decide
  have B_41 : 41 < 1000000 := by decide
  have R_1 : ro 1 = 22 := gc_bR hb (by decide) rfl
  have R_23 : ro 23 = 3 := gc_bR hb (by decide) rfl
  have R_39 : ro 39 = 42 := gc_bR hb (by decide) rfl
  have R_41 : ro 41 = 0 := gc_bR hb (by decide) rfl
  have S_1 : sh[1]? = some (false, 8, 21) := gc_bS hb rfl
  have S_23 : sh[23]? = some (false, 9, 10) := gc_bS hb rfl
  have S_39 : sh[39]? = some (false, 6, 19) := gc_bS hb rfl
  have S_41 : sh[41]? = some (true, 1, 25) := gc_bS hb rfl
  obtain ⟨S_t, R_t, B_t, A_t_0, h_t_1, A_t_1, h_t_3, A_t_2, S_t_5, R_t_5, B_t_5, A_t_3, S_t_6, R_t_6, B_t_6, A_t_4, h_t_7, A_t_5, S_t_9, R_t_9, B_t_9, A_t_7, S_t_10, R_t_10, B_t_10, A_t_8, h_t_11, A_t_9, S_t_13, R_t_13, B_t_13, A_t_10, S_t_14, R_t_14, B_t_14, A_t_12, S_t_15, R_t_15, B_t_15, A_t_14, S_t_16, R_t_16, B_t_16, A_t_15, h_t_17⟩ := id h_t
  obtain ⟨S_t_1, R_t_1, B_t_1, A_t_1_0, S_t_1_1, R_t_1_1, B_t_1_1, Q0_t_1, Q1_t_1, Q2_t_1⟩ := id h_t_1
  obtain ⟨S_t_3, R_t_3, B_t_3, A_t_3_0, S_t_3_1, R_t_3_1, B_t_3_1, Q0_t_3, Q1_t_3, Q2_t_3⟩ := id h_t_3
  obtain ⟨S_t_7, R_t_7, B_t_7, A_t_7_0, S_t_7_1, R_t_7_1, B_t_7_1, Q0_t_7, Q1_t_7, Q2_t_7⟩ := id h_t_7
  obtain ⟨S_t_11, R_t_11, B_t_11, A_t_11_0, S_t_11_1, R_t_11_1, B_t_11_1, Q0_t_11, Q1_t_11, Q2_t_11⟩ := id h_t_11
  obtain ⟨S_t_17, R_t_17, B_t_17, A_t_17_0, S_20, R_20, B_20, A_t_17_1, S_t_17_1, R_t_17_1, B_t_17_1, A_t_17_2, S_t_17_2, R_t_17_2, B_t_17_2, A_t_17_3, S_t_17_3, R_t_17_3, B_t_17_3, A_t_17_4, S_t_17_4, R_t_17_4, B_t_17_4, A_t_17_5, S_t_17_5, R_t_17_5, B_t_17_5, S_t_17_6, R_t_17_6, B_t_17_6, S_t_17_7, R_t_17_7, B_t_17_7⟩ := id h_t_17
  have hD : gv_D (gc_E6 ws0 tb 3 (yX6_readCell, cX6_readCell, 3, (some .boolean)) kX6_readCell) := gq_ok oX6_readCell
  refine gc_ev6 (d := 3) (l := kX6_readCell) (Po := fun r h' => (∃ (I' : gr_I) (J' : gr_J), h' = gc_h sh I' J' A ∧ gc_Inv ro I' ∧ (∀ q j : Nat, ((q = 39 ∧ j = 3) ∨ (q = 39 ∧ j = 4) ∨ (q = 23 ∧ j = 5) ∨ (q = 23 ∧ j = 6) ∨ (q = 23 ∧ j = 7) ∨ (q = 23 ∧ j = 8) ∨ (q = 1 ∧ j = 17) ∨ (q = 1 ∧ j = 18) ∨ q = 20 ∨ (q = 39 ∧ j = 6) ∨ (q = 41 ∧ j = 0) ∨ (q = 41 ∧ j = 1) ∨ (q = 41 ∧ j = 2)) ∨ I' q j = I q j) ∧ (∀ q j : Nat, ((q = 23 ∧ j = 9)) ∨ J' q j = J q j) ∧ gc_LT I' ∧ gc_TK I' ∧ (∃ z : Int, r = some (.inl z) ∧ 0 ≤ z ∧ z ≤ 1 ∧ (I' 23 1 = I 23 1) ∧ (I 23 5 ≤ I' 23 5) ∧ (B ≤ 1280 ∧ I' 1 17 + I' 23 1 ≤ B + I' 23 5) ∧ (z = 0 ∨ (0 ≤ I' 41 0 ∧ I' 41 0 ≤ 16777215 ∧ 0 ≤ I' 41 1 ∧ I' 41 1 ≤ 2000 ∧ -1 ≤ I' 41 2 ∧ I' 41 2 ≤ 2000))))) htb rfl (Nat.le_of_ble_eq_true rfl) ?_
  have t1 := gc_TK_mo KTK_I
  have f2 := (show 0 ≤ I 23 1 ∧ I 23 1 ≤ 1000 from gc_in hI R_23 rfl rfl)
  have f3 := (show 0 ≤ I 23 5 ∧ I 23 5 ≤ 1000 from gc_in hI R_23 rfl rfl)
  have f4 := (show 0 ≤ I 23 6 ∧ I 23 6 ≤ 1001 from gc_in hI R_23 rfl rfl)
  have f5 := (show 0 ≤ I 23 7 ∧ I 23 7 ≤ 125 from gc_in hI R_23 rfl rfl)
  have f6 := (show 0 ≤ I 1 17 ∧ I 1 17 ≤ 12000 from gc_in hI R_1 rfl rfl)
  have f7 := (show (-2147483648) ≤ I 41 0 ∧ I 41 0 ≤ 2147483647 from gc_in hI R_41 rfl rfl)
  have f8 := (show (-2147483648) ≤ I 41 1 ∧ I 41 1 ≤ 2147483647 from gc_in hI R_41 rfl rfl)
  have f9 := (show (-2147483648) ≤ I 41 2 ∧ I 41 2 ≤ 2147483647 from gc_in hI R_41 rfl rfl)
  have f10 := (show (-1) ≤ I 39 2 ∧ I 39 2 ≤ 999999 from gc_in hI R_39 rfl rfl)
  have L17 : ∀ (I11 : gr_I) (J12 : gr_J) , gc_Inv ro I11 → (∀ q j : Nat, ((q = 39 ∧ j = 3) ∨ (q = 39 ∧ j = 4) ∨ (q = 23 ∧ j = 5) ∨ (q = 23 ∧ j = 6) ∨ (q = 23 ∧ j = 7) ∨ (q = 23 ∧ j = 8) ∨ (q = 1 ∧ j = 17) ∨ (q = 1 ∧ j = 18) ∨ q = 20 ∨ (q = 39 ∧ j = 6) ∨ (q = 41 ∧ j = 0) ∨ (q = 41 ∧ j = 1) ∨ (q = 41 ∧ j = 2)) ∨ I11 q j = I q j) → (∀ q j : Nat, ((q = 23 ∧ j = 9)) ∨ J12 q j = J q j) → gc_LT I11 → gc_TK I11 → ((I11 23 1 = I 23 1) ∧ (I 23 5 ≤ I11 23 5) ∧ (B ≤ 1280 ∧ I11 1 17 + I11 23 1 ≤ B + I11 23 5) ∧ (I11 39 2 = (t : Int))) → gv_X (gc_E6 ws0 tb 3 (yX6_readCell, cX6_readCell, 3, (some .boolean)) kX6_readCell) (gv_Q cX6_readCell (some .boolean) sh (fun r h' => (∃ (I' : gr_I) (J' : gr_J), h' = gc_h sh I' J' A ∧ gc_Inv ro I' ∧ (∀ q j : Nat, ((q = 39 ∧ j = 3) ∨ (q = 39 ∧ j = 4) ∨ (q = 23 ∧ j = 5) ∨ (q = 23 ∧ j = 6) ∨ (q = 23 ∧ j = 7) ∨ (q = 23 ∧ j = 8) ∨ (q = 1 ∧ j = 17) ∨ (q = 1 ∧ j = 18) ∨ q = 20 ∨ (q = 39 ∧ j = 6) ∨ (q = 41 ∧ j = 0) ∨ (q = 41 ∧ j = 1) ∨ (q = 41 ∧ j = 2)) ∨ I' q j = I q j) ∧ (∀ q j : Nat, ((q = 23 ∧ j = 9)) ∨ J' q j = J q j) ∧ gc_LT I' ∧ gc_TK I' ∧ (∃ z : Int, r = some (.inl z) ∧ 0 ≤ z ∧ z ≤ 1 ∧ (I' 23 1 = I 23 1) ∧ (I 23 5 ≤ I' 23 5) ∧ (B ≤ 1280 ∧ I' 1 17 + I' 23 1 ≤ B + I' 23 5) ∧ (z = 0 ∨ (0 ≤ I' 41 0 ∧ I' 41 0 ≤ 16777215 ∧ 0 ≤ I' 41 1 ∧ I' 41 1 ≤ 2000 ∧ -1 ≤ I' 41 2 ∧ I' 41 2 ≤ 2000)))))) (17, [], [], sh, gc_h sh I11 J12 A) := by
    intro I11 J12 hI11 FI11 FJ12 KLT_I11 KTK_I11 m_13
    obtain ⟨e0_13, e1_13, e2_13, e3_13⟩ := m_13
    have t14 := gc_TK_mo KTK_I11
    have f15 := (show 0 ≤ I11 23 1 ∧ I11 23 1 ≤ 1000 from gc_in hI11 R_23 rfl rfl)
    have f16 := (show 0 ≤ I11 23 5 ∧ I11 23 5 ≤ 1000 from gc_in hI11 R_23 rfl rfl)
    have f17 := (show 0 ≤ I11 23 6 ∧ I11 23 6 ≤ 1001 from gc_in hI11 R_23 rfl rfl)
    have f18 := (show 0 ≤ I11 23 7 ∧ I11 23 7 ≤ 125 from gc_in hI11 R_23 rfl rfl)
    have f19 := (show 0 ≤ I11 1 17 ∧ I11 1 17 ≤ 12000 from gc_in hI11 R_1 rfl rfl)
    have f20 := (show (-2147483648) ≤ I11 41 0 ∧ I11 41 0 ≤ 2147483647 from gc_in hI11 R_41 rfl rfl)
    have f21 := (show (-2147483648) ≤ I11 41 1 ∧ I11 41 1 ≤ 2147483647 from gc_in hI11 R_41 rfl rfl)
    have f22 := (show (-2147483648) ≤ I11 41 2 ∧ I11 41 2 ≤ 2147483647 from gc_in hI11 R_41 rfl rfl)
    have f23 := (show (-1) ≤ I11 39 2 ∧ I11 39 2 ≤ 999999 from gc_in hI11 R_39 rfl rfl)
    refine gv_run 1 true hD (pc' := 18) (lv' := []) (st' := [.inl 0]) (h' := gc_h sh I11 J12 A) (C := (True ∧ True)) rfl ⟨trivial, trivial⟩ ?_
    exact gv_zret hD rfl (by omega) ⟨I11, J12, rfl, hI11, FI11, FJ12, KLT_I11, KTK_I11, ⟨_, rfl, by omega⟩⟩
  have L74 : ∀ (n9 : Nat) (I24 : gr_I) (J25 : gr_J) (v1_26 : Int) (v2_26 : Int), (1001 - v2_26).toNat < n9 → gc_Inv ro I24 → (∀ q j : Nat, ((q = 39 ∧ j = 3) ∨ (q = 39 ∧ j = 4) ∨ (q = 23 ∧ j = 5) ∨ (q = 23 ∧ j = 6) ∨ (q = 23 ∧ j = 7) ∨ (q = 23 ∧ j = 8) ∨ (q = 1 ∧ j = 17) ∨ (q = 1 ∧ j = 18) ∨ q = 20 ∨ (q = 39 ∧ j = 6) ∨ (q = 41 ∧ j = 0) ∨ (q = 41 ∧ j = 1) ∨ (q = 41 ∧ j = 2)) ∨ I24 q j = I q j) → (∀ q j : Nat, ((q = 23 ∧ j = 9)) ∨ J25 q j = J q j) → gc_LT I24 → gc_TK I24 → ((0 ≤ v1_26 ∧ v1_26 ≤ 1) ∧ (0 ≤ v2_26 ∧ v2_26 ≤ 1000) ∧ (0 ≤ I24 41 0 ∧ I24 41 0 ≤ 16777215 ∧ 0 ≤ I24 41 1 ∧ I24 41 1 ≤ 2000 ∧ -1 ≤ I24 41 2 ∧ I24 41 2 ≤ 2000 ∧ I24 41 1 ≤ I24 1 17) ∧ (I24 23 1 = I 23 1) ∧ (I 23 5 ≤ I24 23 5) ∧ (B ≤ 1280 ∧ I24 1 17 + I24 23 1 ≤ B + I24 23 5) ∧ (I24 39 2 = (t : Int))) → gv_X (gc_E6 ws0 tb 3 (yX6_readCell, cX6_readCell, 3, (some .boolean)) kX6_readCell) (gv_Q cX6_readCell (some .boolean) sh (fun r h' => (∃ (I' : gr_I) (J' : gr_J), h' = gc_h sh I' J' A ∧ gc_Inv ro I' ∧ (∀ q j : Nat, ((q = 39 ∧ j = 3) ∨ (q = 39 ∧ j = 4) ∨ (q = 23 ∧ j = 5) ∨ (q = 23 ∧ j = 6) ∨ (q = 23 ∧ j = 7) ∨ (q = 23 ∧ j = 8) ∨ (q = 1 ∧ j = 17) ∨ (q = 1 ∧ j = 18) ∨ q = 20 ∨ (q = 39 ∧ j = 6) ∨ (q = 41 ∧ j = 0) ∨ (q = 41 ∧ j = 1) ∨ (q = 41 ∧ j = 2)) ∨ I' q j = I q j) ∧ (∀ q j : Nat, ((q = 23 ∧ j = 9)) ∨ J' q j = J q j) ∧ gc_LT I' ∧ gc_TK I' ∧ (∃ z : Int, r = some (.inl z) ∧ 0 ≤ z ∧ z ≤ 1 ∧ (I' 23 1 = I 23 1) ∧ (I 23 5 ≤ I' 23 5) ∧ (B ≤ 1280 ∧ I' 1 17 + I' 23 1 ≤ B + I' 23 5) ∧ (z = 0 ∨ (0 ≤ I' 41 0 ∧ I' 41 0 ≤ 16777215 ∧ 0 ≤ I' 41 1 ∧ I' 41 1 ≤ 2000 ∧ -1 ≤ I' 41 2 ∧ I' 41 2 ≤ 2000)))))) (74, [(0, .inr (.inr (some 39))), (1, .inl v1_26), (2, .inl v2_26)], [], sh, gc_h sh I24 J25 A) := by
    intro n9
    induction n9 with
    | zero => intro I24 J25 v1_26 v2_26 hn; omega
    | succ n9 ih74 =>
      intro I24 J25 v1_26 v2_26 hn hI24 FI24 FJ25 KLT_I24 KTK_I24 m_26
      obtain ⟨hv1_26, hv2_26, e0_26, e1_26, e2_26, e3_26, e4_26⟩ := m_26
      have t27 := gc_TK_mo KTK_I24
      have f28 := (show 0 ≤ I24 23 1 ∧ I24 23 1 ≤ 1000 from gc_in hI24 R_23 rfl rfl)
      have f29 := (show 0 ≤ I24 23 5 ∧ I24 23 5 ≤ 1000 from gc_in hI24 R_23 rfl rfl)
      have f30 := (show 0 ≤ I24 23 6 ∧ I24 23 6 ≤ 1001 from gc_in hI24 R_23 rfl rfl)
      have f31 := (show 0 ≤ I24 23 7 ∧ I24 23 7 ≤ 125 from gc_in hI24 R_23 rfl rfl)
      have f32 := (show 0 ≤ I24 1 17 ∧ I24 1 17 ≤ 12000 from gc_in hI24 R_1 rfl rfl)
      have f33 := (show (-2147483648) ≤ I24 41 0 ∧ I24 41 0 ≤ 2147483647 from gc_in hI24 R_41 rfl rfl)
      have f34 := (show (-2147483648) ≤ I24 41 1 ∧ I24 41 1 ≤ 2147483647 from gc_in hI24 R_41 rfl rfl)
      have f35 := (show (-2147483648) ≤ I24 41 2 ∧ I24 41 2 ≤ 2147483647 from gc_in hI24 R_41 rfl rfl)
      have f36 := (show (-1) ≤ I24 39 2 ∧ I24 39 2 ≤ 999999 from gc_in hI24 R_39 rfl rfl)
      have L111 : ∀ (I37 : gr_I) (J38 : gr_J) (s0_39 : Int), gc_Inv ro I37 → (∀ q j : Nat, ((q = 39 ∧ j = 3) ∨ (q = 39 ∧ j = 4) ∨ (q = 23 ∧ j = 5) ∨ (q = 23 ∧ j = 6) ∨ (q = 23 ∧ j = 7) ∨ (q = 23 ∧ j = 8) ∨ (q = 1 ∧ j = 17) ∨ (q = 1 ∧ j = 18) ∨ q = 20 ∨ (q = 39 ∧ j = 6) ∨ (q = 41 ∧ j = 0) ∨ (q = 41 ∧ j = 1) ∨ (q = 41 ∧ j = 2)) ∨ I37 q j = I q j) → (∀ q j : Nat, ((q = 23 ∧ j = 9)) ∨ J38 q j = J q j) → gc_LT I37 → gc_TK I37 → ((0 ≤ v2_26 ∧ v2_26 ≤ 999) ∧ (0 ≤ s0_39 ∧ s0_39 ≤ 1) ∧ (0 ≤ I37 41 0 ∧ I37 41 0 ≤ 16777215 ∧ 0 ≤ I37 41 1 ∧ I37 41 1 ≤ 2000 ∧ -1 ≤ I37 41 2 ∧ I37 41 2 ≤ 2000 ∧ I37 41 1 ≤ I37 1 17) ∧ (s0_39 = 0 ∨ I37 23 7 = 43) ∧ (I37 23 1 = I 23 1) ∧ (I 23 5 ≤ I37 23 5) ∧ (B ≤ 1280 ∧ I37 1 17 + I37 23 1 ≤ B + I37 23 5) ∧ (I37 39 2 = (t : Int))) → gv_X (gc_E6 ws0 tb 3 (yX6_readCell, cX6_readCell, 3, (some .boolean)) kX6_readCell) (gv_Q cX6_readCell (some .boolean) sh (fun r h' => (∃ (I' : gr_I) (J' : gr_J), h' = gc_h sh I' J' A ∧ gc_Inv ro I' ∧ (∀ q j : Nat, ((q = 39 ∧ j = 3) ∨ (q = 39 ∧ j = 4) ∨ (q = 23 ∧ j = 5) ∨ (q = 23 ∧ j = 6) ∨ (q = 23 ∧ j = 7) ∨ (q = 23 ∧ j = 8) ∨ (q = 1 ∧ j = 17) ∨ (q = 1 ∧ j = 18) ∨ q = 20 ∨ (q = 39 ∧ j = 6) ∨ (q = 41 ∧ j = 0) ∨ (q = 41 ∧ j = 1) ∨ (q = 41 ∧ j = 2)) ∨ I' q j = I q j) ∧ (∀ q j : Nat, ((q = 23 ∧ j = 9)) ∨ J' q j = J q j) ∧ gc_LT I' ∧ gc_TK I' ∧ (∃ z : Int, r = some (.inl z) ∧ 0 ≤ z ∧ z ≤ 1 ∧ (I' 23 1 = I 23 1) ∧ (I 23 5 ≤ I' 23 5) ∧ (B ≤ 1280 ∧ I' 1 17 + I' 23 1 ≤ B + I' 23 5) ∧ (z = 0 ∨ (0 ≤ I' 41 0 ∧ I' 41 0 ≤ 16777215 ∧ 0 ≤ I' 41 1 ∧ I' 41 1 ≤ 2000 ∧ -1 ≤ I' 41 2 ∧ I' 41 2 ≤ 2000)))))) (111, [(0, .inr (.inr (some 39))), (2, .inl v2_26)], [.inl s0_39], sh, gc_h sh I37 J38 A) := by
        intro I37 J38 s0_39 hI37 FI37 FJ38 KLT_I37 KTK_I37 m_39
        clear hv1_26 hv2_26 e0_26 e1_26 e2_26 e3_26 e4_26 t27 f28 f29 f30 f31 f32 f33 f34 f35 f36
        obtain ⟨hv2_26_39, hs0_39, e0_39, e1_39, e2_39, e3_39, e4_39, e5_39⟩ := m_39
        have t40 := gc_TK_mo KTK_I37
        have f41 := (show 0 ≤ I37 23 1 ∧ I37 23 1 ≤ 1000 from gc_in hI37 R_23 rfl rfl)
        have f42 := (show 0 ≤ I37 23 5 ∧ I37 23 5 ≤ 1000 from gc_in hI37 R_23 rfl rfl)
        have f43 := (show 0 ≤ I37 23 6 ∧ I37 23 6 ≤ 1001 from gc_in hI37 R_23 rfl rfl)
        have f44 := (show 0 ≤ I37 23 7 ∧ I37 23 7 ≤ 125 from gc_in hI37 R_23 rfl rfl)
        have f45 := (show 0 ≤ I37 1 17 ∧ I37 1 17 ≤ 12000 from gc_in hI37 R_1 rfl rfl)
        have f46 := (show (-2147483648) ≤ I37 41 0 ∧ I37 41 0 ≤ 2147483647 from gc_in hI37 R_41 rfl rfl)
        have f47 := (show (-2147483648) ≤ I37 41 1 ∧ I37 41 1 ≤ 2147483647 from gc_in hI37 R_41 rfl rfl)
        have f48 := (show (-2147483648) ≤ I37 41 2 ∧ I37 41 2 ≤ 2147483647 from gc_in hI37 R_41 rfl rfl)
        have f49 := (show (-1) ≤ I37 39 2 ∧ I37 39 2 ≤ 999999 from gc_in hI37 R_39 rfl rfl)
        have L123 : ∀ (I50 : gr_I) (J51 : gr_J) (v1_52 : Int), gc_Inv ro I50 → (∀ q j : Nat, ((q = 39 ∧ j = 3) ∨ (q = 39 ∧ j = 4) ∨ (q = 23 ∧ j = 5) ∨ (q = 23 ∧ j = 6) ∨ (q = 23 ∧ j = 7) ∨ (q = 23 ∧ j = 8) ∨ (q = 1 ∧ j = 17) ∨ (q = 1 ∧ j = 18) ∨ q = 20 ∨ (q = 39 ∧ j = 6) ∨ (q = 41 ∧ j = 0) ∨ (q = 41 ∧ j = 1) ∨ (q = 41 ∧ j = 2)) ∨ I50 q j = I q j) → (∀ q j : Nat, ((q = 23 ∧ j = 9)) ∨ J51 q j = J q j) → gc_LT I50 → gc_TK I50 → ((0 ≤ v1_52 ∧ v1_52 ≤ 1) ∧ (0 ≤ v2_26 ∧ v2_26 ≤ 999) ∧ (0 ≤ I50 41 0 ∧ I50 41 0 ≤ 16777215 ∧ 0 ≤ I50 41 1 ∧ I50 41 1 ≤ 2000 ∧ -1 ≤ I50 41 2 ∧ I50 41 2 ≤ 2000 ∧ I50 41 1 ≤ I50 1 17) ∧ (I50 23 1 = I 23 1) ∧ (I 23 5 ≤ I50 23 5) ∧ (B ≤ 1280 ∧ I50 1 17 + I50 23 1 ≤ B + I50 23 5) ∧ (I50 39 2 = (t : Int))) → gv_X (gc_E6 ws0 tb 3 (yX6_readCell, cX6_readCell, 3, (some .boolean)) kX6_readCell) (gv_Q cX6_readCell (some .boolean) sh (fun r h' => (∃ (I' : gr_I) (J' : gr_J), h' = gc_h sh I' J' A ∧ gc_Inv ro I' ∧ (∀ q j : Nat, ((q = 39 ∧ j = 3) ∨ (q = 39 ∧ j = 4) ∨ (q = 23 ∧ j = 5) ∨ (q = 23 ∧ j = 6) ∨ (q = 23 ∧ j = 7) ∨ (q = 23 ∧ j = 8) ∨ (q = 1 ∧ j = 17) ∨ (q = 1 ∧ j = 18) ∨ q = 20 ∨ (q = 39 ∧ j = 6) ∨ (q = 41 ∧ j = 0) ∨ (q = 41 ∧ j = 1) ∨ (q = 41 ∧ j = 2)) ∨ I' q j = I q j) ∧ (∀ q j : Nat, ((q = 23 ∧ j = 9)) ∨ J' q j = J q j) ∧ gc_LT I' ∧ gc_TK I' ∧ (∃ z : Int, r = some (.inl z) ∧ 0 ≤ z ∧ z ≤ 1 ∧ (I' 23 1 = I 23 1) ∧ (I 23 5 ≤ I' 23 5) ∧ (B ≤ 1280 ∧ I' 1 17 + I' 23 1 ≤ B + I' 23 5) ∧ (z = 0 ∨ (0 ≤ I' 41 0 ∧ I' 41 0 ≤ 16777215 ∧ 0 ≤ I' 41 1 ∧ I' 41 1 ≤ 2000 ∧ -1 ≤ I' 41 2 ∧ I' 41 2 ≤ 2000)))))) (123, [(0, .inr (.inr (some 39))), (1, .inl v1_52), (2, .inl v2_26)], [], sh, gc_h sh I50 J51 A) := by
          intro I50 J51 v1_52 hI50 FI50 FJ51 KLT_I50 KTK_I50 m_52
          clear hv2_26_39 hs0_39 e0_39 e1_39 e2_39 e3_39 e4_39 e5_39 t40 f41 f42 f43 f44 f45 f46 f47 f48 f49
          obtain ⟨hv1_52, hv2_26_52, e0_52, e1_52, e2_52, e3_52, e4_52⟩ := m_52
          have t53 := gc_TK_mo KTK_I50
          have f54 := (show 0 ≤ I50 23 1 ∧ I50 23 1 ≤ 1000 from gc_in hI50 R_23 rfl rfl)
          have f55 := (show 0 ≤ I50 23 5 ∧ I50 23 5 ≤ 1000 from gc_in hI50 R_23 rfl rfl)
          have f56 := (show 0 ≤ I50 23 6 ∧ I50 23 6 ≤ 1001 from gc_in hI50 R_23 rfl rfl)
          have f57 := (show 0 ≤ I50 23 7 ∧ I50 23 7 ≤ 125 from gc_in hI50 R_23 rfl rfl)
          have f58 := (show 0 ≤ I50 1 17 ∧ I50 1 17 ≤ 12000 from gc_in hI50 R_1 rfl rfl)
          have f59 := (show (-2147483648) ≤ I50 41 0 ∧ I50 41 0 ≤ 2147483647 from gc_in hI50 R_41 rfl rfl)
          have f60 := (show (-2147483648) ≤ I50 41 1 ∧ I50 41 1 ≤ 2147483647 from gc_in hI50 R_41 rfl rfl)
          have f61 := (show (-2147483648) ≤ I50 41 2 ∧ I50 41 2 ≤ 2147483647 from gc_in hI50 R_41 rfl rfl)
          have f62 := (show (-1) ≤ I50 39 2 ∧ I50 39 2 ≤ 999999 from gc_in hI50 R_39 rfl rfl)
          refine gv_run 2 true hD (pc' := 74) (lv' := [(2, .inl (v2_26 + 1)), (0, .inr (.inr (some 39))), (1, .inl v1_52)]) (st' := []) (h' := gc_h sh I50 J51 A) (C := ((True ∧ True) ∧ True)) rfl ⟨⟨trivial, trivial⟩, trivial⟩ ?_
          refine gv_pick [1, 2, 0] rfl ?_
          exact ih74 I50 J51 v1_52 (v2_26 + 1) (by omega) hI50 FI50 FJ51 KLT_I50 KTK_I50 (by omega)
        refine gv_run 2 true hD (pc' := 113) (lv' := [(1, .inl s0_39), (0, .inr (.inr (some 39))), (2, .inl v2_26)]) (st' := [.inl s0_39]) (h' := gc_h sh I37 J38 A) (C := ((True ∧ True) ∧ True)) rfl ⟨⟨trivial, trivial⟩, trivial⟩ ?_
        refine gv_if_eq (t := 123) hD rfl rfl ⟨by omega, by omega⟩ (fun c63 => ?_) (fun c63 => ?_)
        · show gv_X _ _ (123, [(1, .inl s0_39), (0, .inr (.inr (some 39))), (2, .inl v2_26)], [], sh, gc_h sh I37 J38 A)
          refine gv_pick [1, 0, 2] rfl ?_
          exact L123 I37 J38 s0_39 hI37 FI37 FJ38 KLT_I37 KTK_I37 (by omega)
        · show gv_X _ _ (116, [(1, .inl s0_39), (0, .inr (.inr (some 39))), (2, .inl v2_26)], [], sh, gc_h sh I37 J38 A)
          refine gv_run 1 true hD (pc' := 117) (lv' := [(1, .inl s0_39), (0, .inr (.inr (some 39))), (2, .inl v2_26)]) (st' := [.inr (.inr (some 39))]) (h' := gc_h sh I37 J38 A) (C := (True ∧ True)) rfl ⟨trivial, trivial⟩ ?_
          refine gv_get hD rfl rfl S_39 ⟨by decide, B_39⟩ (gc_hA S_39 rfl A_39_1) ?_
          show gv_X _ _ (120, [(1, .inl s0_39), (0, .inr (.inr (some 39))), (2, .inl v2_26)], [.inr (.inr (some 23))], sh, gc_h sh I37 J38 A)
          have t65 := gc_TK_nx KTK_I37 (by omega)
          have t66 := gc_TK_st KTK_I37 (by omega)
          obtain ⟨r64, h64, E64, P64⟩ := d_X9_advance (ws0 := ws0) (tb := tb) hws htb sh ro I37 J38 A hI37 23  (gc_b23 hb)    (by omega) 
          obtain ⟨I67, J68, rfl, hI67, g64, k64, ⟨rfl, V64_0, V64_1, V64_2, V64_3, V64_4, q64⟩⟩ := P64
          have FI67 := gc_frc (W := fun q j => (q = 39 ∧ j = 3) ∨ (q = 39 ∧ j = 4) ∨ (q = 23 ∧ j = 5) ∨ (q = 23 ∧ j = 6) ∨ (q = 23 ∧ j = 7) ∨ (q = 23 ∧ j = 8) ∨ (q = 1 ∧ j = 17) ∨ (q = 1 ∧ j = 18) ∨ q = 20 ∨ (q = 39 ∧ j = 6) ∨ (q = 41 ∧ j = 0) ∨ (q = 41 ∧ j = 1) ∨ (q = 41 ∧ j = 2)) (V := fun q j => (q = 23 ∧ j = 5) ∨ (q = 23 ∧ j = 6) ∨ (q = 23 ∧ j = 7) ∨ (q = 23 ∧ j = 8)) FI37 (fun q j h => (h.elim (fun h => (Or.inr (Or.inr (Or.inl h)))) (fun h => (h.elim (fun h => (Or.inr (Or.inr (Or.inr (Or.inl h))))) (fun h => (h.elim (fun h => (Or.inr (Or.inr (Or.inr (Or.inr (Or.inl h)))))) (fun h => (Or.inr (Or.inr (Or.inr (Or.inr (Or.inr (Or.inl h))))))))))))) g64
          have FJ68 := gc_frc (W := fun q j => (q = 23 ∧ j = 9)) (V := fun q j => (q = 23 ∧ j = 9)) FJ38 (fun q j h => h) k64
          have t69 := (g64 23 1).resolve_left (fun h => h.elim (fun h => absurd h.2 (by decide)) (fun h => h.elim (fun h => absurd h.2 (by decide)) (fun h => h.elim (fun h => absurd h.2 (by decide)) (fun h => absurd h.2 (by decide)))))
          have t70 := (g64 1 17).resolve_left (fun h => h.elim (fun h => absurd h.2 (by decide)) (fun h => h.elim (fun h => absurd h.2 (by decide)) (fun h => h.elim (fun h => absurd h.2 (by decide)) (fun h => absurd h.2 (by decide)))))
          have t71 := (g64 41 0).resolve_left (fun h => h.elim (fun h => absurd h.2 (by decide)) (fun h => h.elim (fun h => absurd h.2 (by decide)) (fun h => h.elim (fun h => absurd h.2 (by decide)) (fun h => absurd h.2 (by decide)))))
          have t72 := (g64 41 1).resolve_left (fun h => h.elim (fun h => absurd h.2 (by decide)) (fun h => h.elim (fun h => absurd h.2 (by decide)) (fun h => h.elim (fun h => absurd h.2 (by decide)) (fun h => absurd h.2 (by decide)))))
          have t73 := (g64 41 2).resolve_left (fun h => h.elim (fun h => absurd h.2 (by decide)) (fun h => h.elim (fun h => absurd h.2 (by decide)) (fun h => h.elim (fun h => absurd h.2 (by decide)) (fun h => absurd h.2 (by decide)))))
          have t74 := (g64 39 2).resolve_left (fun h => h.elim (fun h => absurd h.2 (by decide)) (fun h => h.elim (fun h => absurd h.2 (by decide)) (fun h => h.elim (fun h => absurd h.2 (by decide)) (fun h => absurd h.2 (by decide)))))
          have f75 := (show 0 ≤ I67 23 5 ∧ I67 23 5 ≤ 1000 from gc_in hI67 R_23 rfl rfl)
          have f76 := (show 0 ≤ I67 23 6 ∧ I67 23 6 ≤ 1001 from gc_in hI67 R_23 rfl rfl)
          have f77 := (show 0 ≤ I67 23 7 ∧ I67 23 7 ≤ 125 from gc_in hI67 R_23 rfl rfl)
          have KLT_I67 : gc_LT I67 := q64.2.2
          have KTK_I67 : gc_TK I67 := And.intro V64_0 (And.intro V64_1 (And.intro V64_2 (And.intro V64_3 V64_4)))
          have t78 := gc_TK_mo KTK_I67
          clear V64_0 V64_1 V64_2 V64_3 V64_4
          refine gv_callV hD rfl (As := []) (st := []) rfl B_23 S_23 rfl (gc_lV6 hws rfl) (Nat.le_of_ble_eq_true rfl) (gz_Ev_mono (d := 2) (by decide) E64) ?_
          show gv_X _ _ (123, [(1, .inl s0_39), (0, .inr (.inr (some 39))), (2, .inl v2_26)], [], sh, gc_h sh I67 J68 A)
          refine gv_pick [1, 0, 2] rfl ?_
          exact L123 I67 J68 s0_39 hI67 FI67 FJ68 KLT_I67 KTK_I67 (by omega)
      have L129 : ((0 ≤ I24 41 0 ∧ I24 41 0 ≤ 16777215 ∧ 0 ≤ I24 41 1 ∧ I24 41 1 ≤ 2000 ∧ -1 ≤ I24 41 2 ∧ I24 41 2 ≤ 2000 ∧ I24 41 1 ≤ I24 1 17) ∧ (I24 23 1 = I 23 1) ∧ (I 23 5 ≤ I24 23 5) ∧ (B ≤ 1280 ∧ I24 1 17 + I24 23 1 ≤ B + I24 23 5) ∧ (I24 39 2 = (t : Int))) → gv_X (gc_E6 ws0 tb 3 (yX6_readCell, cX6_readCell, 3, (some .boolean)) kX6_readCell) (gv_Q cX6_readCell (some .boolean) sh (fun r h' => (∃ (I' : gr_I) (J' : gr_J), h' = gc_h sh I' J' A ∧ gc_Inv ro I' ∧ (∀ q j : Nat, ((q = 39 ∧ j = 3) ∨ (q = 39 ∧ j = 4) ∨ (q = 23 ∧ j = 5) ∨ (q = 23 ∧ j = 6) ∨ (q = 23 ∧ j = 7) ∨ (q = 23 ∧ j = 8) ∨ (q = 1 ∧ j = 17) ∨ (q = 1 ∧ j = 18) ∨ q = 20 ∨ (q = 39 ∧ j = 6) ∨ (q = 41 ∧ j = 0) ∨ (q = 41 ∧ j = 1) ∨ (q = 41 ∧ j = 2)) ∨ I' q j = I q j) ∧ (∀ q j : Nat, ((q = 23 ∧ j = 9)) ∨ J' q j = J q j) ∧ gc_LT I' ∧ gc_TK I' ∧ (∃ z : Int, r = some (.inl z) ∧ 0 ≤ z ∧ z ≤ 1 ∧ (I' 23 1 = I 23 1) ∧ (I 23 5 ≤ I' 23 5) ∧ (B ≤ 1280 ∧ I' 1 17 + I' 23 1 ≤ B + I' 23 5) ∧ (z = 0 ∨ (0 ≤ I' 41 0 ∧ I' 41 0 ≤ 16777215 ∧ 0 ≤ I' 41 1 ∧ I' 41 1 ≤ 2000 ∧ -1 ≤ I' 41 2 ∧ I' 41 2 ≤ 2000)))))) (129, [(0, .inr (.inr (some 39)))], [], sh, gc_h sh I24 J25 A) := by
        intro m_79
        obtain ⟨e0_79, e1_79, e2_79, e3_79, e4_79⟩ := m_79
        have t80 := gc_TK_mo KTK_I24
        have f81 := (show 0 ≤ I24 23 1 ∧ I24 23 1 ≤ 1000 from gc_in hI24 R_23 rfl rfl)
        have f82 := (show 0 ≤ I24 23 5 ∧ I24 23 5 ≤ 1000 from gc_in hI24 R_23 rfl rfl)
        have f83 := (show 0 ≤ I24 23 6 ∧ I24 23 6 ≤ 1001 from gc_in hI24 R_23 rfl rfl)
        have f84 := (show 0 ≤ I24 23 7 ∧ I24 23 7 ≤ 125 from gc_in hI24 R_23 rfl rfl)
        have f85 := (show 0 ≤ I24 1 17 ∧ I24 1 17 ≤ 12000 from gc_in hI24 R_1 rfl rfl)
        have f86 := (show (-2147483648) ≤ I24 41 0 ∧ I24 41 0 ≤ 2147483647 from gc_in hI24 R_41 rfl rfl)
        have f87 := (show (-2147483648) ≤ I24 41 1 ∧ I24 41 1 ≤ 2147483647 from gc_in hI24 R_41 rfl rfl)
        have f88 := (show (-2147483648) ≤ I24 41 2 ∧ I24 41 2 ≤ 2147483647 from gc_in hI24 R_41 rfl rfl)
        have f89 := (show (-1) ≤ I24 39 2 ∧ I24 39 2 ≤ 999999 from gc_in hI24 R_39 rfl rfl)
        refine gv_run 1 true hD (pc' := 130) (lv' := [(0, .inr (.inr (some 39)))]) (st' := [.inr (.inr (some 39))]) (h' := gc_h sh I24 J25 A) (C := (True ∧ True)) rfl ⟨trivial, trivial⟩ ?_
        refine gv_get hD rfl rfl S_39 ⟨by decide, B_39⟩ (gc_hA S_39 rfl A_39_10) ?_
        show gv_X _ _ (133, [(0, .inr (.inr (some 39)))], [.inr (.inr (some 41))], sh, gc_h sh I24 J25 A)
        refine gv_run 2 true hD (pc' := 135) (lv' := [(0, .inr (.inr (some 39)))]) (st' := [.inr (.inr (some 39)), .inl 2, .inr (.inr (some 41))]) (h' := gc_h sh I24 J25 A) (C := ((True ∧ True) ∧ True)) rfl ⟨⟨trivial, trivial⟩, trivial⟩ ?_
        refine gv_get hD rfl rfl S_39 ⟨by decide, B_39⟩ (gc_hA S_39 rfl A_39_0) ?_
        show gv_X _ _ (138, [(0, .inr (.inr (some 39)))], [.inr (.inr (some 1)), .inl 2, .inr (.inr (some 41))], sh, gc_h sh I24 J25 A)
        have f90 := (show 0 ≤ I24 1 17 ∧ I24 1 17 ≤ 12000 from gc_in hI24 R_1 rfl rfl)
        refine gv_get hD rfl rfl S_1 ⟨by decide, B_1⟩ (gc_hI S_1 rfl) ?_
        show gv_X _ _ (141, [(0, .inr (.inr (some 39)))], [.inl (I24 1 17), .inl 2, .inr (.inr (some 41))], sh, gc_h sh I24 J25 A)
        refine gv_run 1 true hD (pc' := 142) (lv' := [(0, .inr (.inr (some 39)))]) (st' := [.inr (.inr (some 39)), .inl (I24 1 17), .inl 2, .inr (.inr (some 41))]) (h' := gc_h sh I24 J25 A) (C := (True ∧ True)) rfl ⟨trivial, trivial⟩ ?_
        refine gv_get hD rfl rfl S_39 ⟨by decide, B_39⟩ (gc_hA S_39 rfl A_39_10) ?_
        show gv_X _ _ (145, [(0, .inr (.inr (some 39)))], [.inr (.inr (some 41)), .inl (I24 1 17), .inl 2, .inr (.inr (some 41))], sh, gc_h sh I24 J25 A)
        refine gv_run 1 true hD (pc' := 146) (lv' := [(0, .inr (.inr (some 39)))]) (st' := [.inl 1, .inr (.inr (some 41)), .inl (I24 1 17), .inl 2, .inr (.inr (some 41))]) (h' := gc_h sh I24 J25 A) (C := (True ∧ True)) rfl ⟨trivial, trivial⟩ ?_
        have f91 := (show (-2147483648) ≤ I24 41 1 ∧ I24 41 1 ≤ 2147483647 from gc_in hI24 R_41 rfl rfl)
        refine gv_iald hD rfl S_41 rfl ⟨by decide, B_41⟩ ⟨by omega, by omega⟩ (gc_iI S_41 rfl) ?_
        show gv_X _ _ (147, [(0, .inr (.inr (some 39)))], [.inl (I24 41 1), .inl (I24 1 17), .inl 2, .inr (.inr (some 41))], sh, gc_h sh I24 J25 A)
        refine gv_run 1 true hD (pc' := 148) (lv' := [(0, .inr (.inr (some 39)))]) (st' := [.inl ((I24 1 17) - (I24 41 1)), .inl 2, .inr (.inr (some 41))]) (h' := gc_h sh I24 J25 A) (C := (True ∧ True)) rfl ⟨trivial, trivial⟩ ?_
        refine gv_iast hD rfl S_41 ⟨by decide, B_41⟩ ⟨by omega, by omega⟩ ?_
        refine gc_st (k := 2) hI24 S_41 rfl R_41 (lo := (-2147483648)) (hi := 2147483647) rfl rfl (by omega) (by omega) (fun I92 hI92 q93 p93 => ?_)
        have FI92 := gc_frs (W := fun q j => (q = 39 ∧ j = 3) ∨ (q = 39 ∧ j = 4) ∨ (q = 23 ∧ j = 5) ∨ (q = 23 ∧ j = 6) ∨ (q = 23 ∧ j = 7) ∨ (q = 23 ∧ j = 8) ∨ (q = 1 ∧ j = 17) ∨ (q = 1 ∧ j = 18) ∨ q = 20 ∨ (q = 39 ∧ j = 6) ∨ (q = 41 ∧ j = 0) ∨ (q = 41 ∧ j = 1) ∨ (q = 41 ∧ j = 2)) FI24 (Or.inr (Or.inr (Or.inr (Or.inr (Or.inr (Or.inr (Or.inr (Or.inr (Or.inr (Or.inr (Or.inr (Or.inr ⟨rfl, rfl⟩)))))))))))) p93
        have t94 := p93 23 1 (fun h => absurd h.2 (by decide))
        have t95 := p93 23 5 (fun h => absurd h.2 (by decide))
        have t96 := p93 23 6 (fun h => absurd h.2 (by decide))
        have t97 := p93 23 7 (fun h => absurd h.2 (by decide))
        have t98 := p93 1 17 (fun h => absurd h.2 (by decide))
        have t99 := p93 41 0 (fun h => absurd h.2 (by decide))
        have t100 := p93 41 1 (fun h => absurd h.2 (by decide))
        have t101 := p93 39 2 (fun h => absurd h.1 (by decide))
        have f102 := (show (-2147483648) ≤ I92 41 2 ∧ I92 41 2 ≤ 2147483647 from gc_in hI92 R_41 rfl rfl)
        have KLT_I92 := gc_LT_fr KLT_I24 (p93 23 5 (fun h => absurd h.2 (by decide))) (p93 23 6 (fun h => absurd h.2 (by decide))) (p93 23 7 (fun h => absurd h.2 (by decide))) (fun k => p93 24 k (fun h => absurd h.1 (by decide)))
        have KTK_I92 := gc_TK_fr KTK_I24 (p93 23 1 (fun h => absurd h.2 (by decide))) (p93 23 5 (fun h => absurd h.2 (by decide))) (p93 23 6 (fun h => absurd h.2 (by decide))) (p93 23 7 (fun h => absurd h.2 (by decide)))
        show gv_X _ _ (149, [(0, .inr (.inr (some 39)))], [], sh, gc_h sh I92 J25 A)
        refine gv_run 1 true hD (pc' := 150) (lv' := [(0, .inr (.inr (some 39)))]) (st' := [.inl 1]) (h' := gc_h sh I92 J25 A) (C := (True ∧ True)) rfl ⟨trivial, trivial⟩ ?_
        exact gv_zret hD rfl (by omega) ⟨I92, J25, rfl, hI92, FI92, FJ25, KLT_I92, KTK_I92, ⟨_, rfl, by omega⟩⟩
      refine gv_run 2 true hD (pc' := 78) (lv' := [(0, .inr (.inr (some 39))), (1, .inl v1_26), (2, .inl v2_26)]) (st' := [.inl 1000, .inl v2_26]) (h' := gc_h sh I24 J25 A) (C := ((True ∧ True) ∧ True)) rfl ⟨⟨trivial, trivial⟩, trivial⟩ ?_
      refine gv_icmp_ge (t := 129) hD rfl rfl ⟨⟨by omega, by omega⟩, ⟨by omega, by omega⟩⟩ (fun c103 => ?_) (fun c103 => ?_)
      · show gv_X _ _ (129, [(0, .inr (.inr (some 39))), (1, .inl v1_26), (2, .inl v2_26)], [], sh, gc_h sh I24 J25 A)
        refine gv_pick [0] rfl ?_
        exact L129 (by omega)
      · show gv_X _ _ (81, [(0, .inr (.inr (some 39))), (1, .inl v1_26), (2, .inl v2_26)], [], sh, gc_h sh I24 J25 A)
        refine gv_run 1 true hD (pc' := 82) (lv' := [(0, .inr (.inr (some 39))), (1, .inl v1_26), (2, .inl v2_26)]) (st' := [.inl v1_26]) (h' := gc_h sh I24 J25 A) (C := (True ∧ True)) rfl ⟨trivial, trivial⟩ ?_
        refine gv_if_eq (t := 129) hD rfl rfl ⟨by omega, by omega⟩ (fun c104 => ?_) (fun c104 => ?_)
        · show gv_X _ _ (129, [(0, .inr (.inr (some 39))), (1, .inl v1_26), (2, .inl v2_26)], [], sh, gc_h sh I24 J25 A)
          refine gv_pick [0] rfl ?_
          exact L129 (by omega)
        · show gv_X _ _ (85, [(0, .inr (.inr (some 39))), (1, .inl v1_26), (2, .inl v2_26)], [], sh, gc_h sh I24 J25 A)
          refine gv_run 1 true hD (pc' := 86) (lv' := [(0, .inr (.inr (some 39))), (1, .inl v1_26), (2, .inl v2_26)]) (st' := [.inr (.inr (some 39))]) (h' := gc_h sh I24 J25 A) (C := (True ∧ True)) rfl ⟨trivial, trivial⟩ ?_
          obtain ⟨r105, h105, E105, P105⟩ := d_X6_readPart (ws0 := ws0) (tb := tb) hws htb sh ro I24 J25 A hI24  B  hb    (by omega) KLT_I24 KTK_I24
          obtain ⟨I106, J107, rfl, hI106, g105, k105, KLT_I106, KTK_I106, ⟨z105, rfl, q105⟩⟩ := P105
          have FI106 := gc_frc (W := fun q j => (q = 39 ∧ j = 3) ∨ (q = 39 ∧ j = 4) ∨ (q = 23 ∧ j = 5) ∨ (q = 23 ∧ j = 6) ∨ (q = 23 ∧ j = 7) ∨ (q = 23 ∧ j = 8) ∨ (q = 1 ∧ j = 17) ∨ (q = 1 ∧ j = 18) ∨ q = 20 ∨ (q = 39 ∧ j = 6) ∨ (q = 41 ∧ j = 0) ∨ (q = 41 ∧ j = 1) ∨ (q = 41 ∧ j = 2)) (V := fun q j => (q = 39 ∧ j = 3) ∨ (q = 39 ∧ j = 4) ∨ (q = 23 ∧ j = 5) ∨ (q = 23 ∧ j = 6) ∨ (q = 23 ∧ j = 7) ∨ (q = 23 ∧ j = 8) ∨ (q = 1 ∧ j = 17) ∨ (q = 1 ∧ j = 18) ∨ q = 20) FI24 (fun q j h => (h.elim (fun h => (Or.inl h)) (fun h => (h.elim (fun h => (Or.inr (Or.inl h))) (fun h => (h.elim (fun h => (Or.inr (Or.inr (Or.inl h)))) (fun h => (h.elim (fun h => (Or.inr (Or.inr (Or.inr (Or.inl h))))) (fun h => (h.elim (fun h => (Or.inr (Or.inr (Or.inr (Or.inr (Or.inl h)))))) (fun h => (h.elim (fun h => (Or.inr (Or.inr (Or.inr (Or.inr (Or.inr (Or.inl h))))))) (fun h => (h.elim (fun h => (Or.inr (Or.inr (Or.inr (Or.inr (Or.inr (Or.inr (Or.inl h)))))))) (fun h => (h.elim (fun h => (Or.inr (Or.inr (Or.inr (Or.inr (Or.inr (Or.inr (Or.inr (Or.inl h))))))))) (fun h => (Or.inr (Or.inr (Or.inr (Or.inr (Or.inr (Or.inr (Or.inr (Or.inr (Or.inl h)))))))))))))))))))))))))) g105
          have FJ107 := gc_frc (W := fun q j => (q = 23 ∧ j = 9)) (V := fun q j => (q = 23 ∧ j = 9)) FJ25 (fun q j h => h) k105
          have t108 := (g105 23 1).resolve_left (fun h => h.elim (fun h => absurd h.2 (by decide)) (fun h => h.elim (fun h => absurd h.2 (by decide)) (fun h => h.elim (fun h => absurd h.2 (by decide)) (fun h => h.elim (fun h => absurd h.2 (by decide)) (fun h => h.elim (fun h => absurd h.2 (by decide)) (fun h => h.elim (fun h => absurd h.2 (by decide)) (fun h => h.elim (fun h => absurd h.2 (by decide)) (fun h => h.elim (fun h => absurd h.2 (by decide)) (fun h => absurd h (by decide))))))))))
          have t109 := (g105 41 0).resolve_left (fun h => h.elim (fun h => absurd h.2 (by decide)) (fun h => h.elim (fun h => absurd h.2 (by decide)) (fun h => h.elim (fun h => absurd h.2 (by decide)) (fun h => h.elim (fun h => absurd h.2 (by decide)) (fun h => h.elim (fun h => absurd h.2 (by decide)) (fun h => h.elim (fun h => absurd h.2 (by decide)) (fun h => h.elim (fun h => absurd h.2 (by decide)) (fun h => h.elim (fun h => absurd h.2 (by decide)) (fun h => absurd h (by decide))))))))))
          have t110 := (g105 41 1).resolve_left (fun h => h.elim (fun h => absurd h.2 (by decide)) (fun h => h.elim (fun h => absurd h.2 (by decide)) (fun h => h.elim (fun h => absurd h.2 (by decide)) (fun h => h.elim (fun h => absurd h.2 (by decide)) (fun h => h.elim (fun h => absurd h.2 (by decide)) (fun h => h.elim (fun h => absurd h.2 (by decide)) (fun h => h.elim (fun h => absurd h.2 (by decide)) (fun h => h.elim (fun h => absurd h.2 (by decide)) (fun h => absurd h (by decide))))))))))
          have t111 := (g105 41 2).resolve_left (fun h => h.elim (fun h => absurd h.2 (by decide)) (fun h => h.elim (fun h => absurd h.2 (by decide)) (fun h => h.elim (fun h => absurd h.2 (by decide)) (fun h => h.elim (fun h => absurd h.2 (by decide)) (fun h => h.elim (fun h => absurd h.2 (by decide)) (fun h => h.elim (fun h => absurd h.2 (by decide)) (fun h => h.elim (fun h => absurd h.2 (by decide)) (fun h => h.elim (fun h => absurd h.2 (by decide)) (fun h => absurd h (by decide))))))))))
          have t112 := (g105 39 2).resolve_left (fun h => h.elim (fun h => absurd h.2 (by decide)) (fun h => h.elim (fun h => absurd h.2 (by decide)) (fun h => h.elim (fun h => absurd h.2 (by decide)) (fun h => h.elim (fun h => absurd h.2 (by decide)) (fun h => h.elim (fun h => absurd h.2 (by decide)) (fun h => h.elim (fun h => absurd h.2 (by decide)) (fun h => h.elim (fun h => absurd h.2 (by decide)) (fun h => h.elim (fun h => absurd h.2 (by decide)) (fun h => absurd h (by decide))))))))))
          have f113 := (show 0 ≤ I106 23 5 ∧ I106 23 5 ≤ 1000 from gc_in hI106 R_23 rfl rfl)
          have f114 := (show 0 ≤ I106 23 6 ∧ I106 23 6 ≤ 1001 from gc_in hI106 R_23 rfl rfl)
          have f115 := (show 0 ≤ I106 23 7 ∧ I106 23 7 ≤ 125 from gc_in hI106 R_23 rfl rfl)
          have f116 := (show 0 ≤ I106 1 17 ∧ I106 1 17 ≤ 12000 from gc_in hI106 R_1 rfl rfl)
          have t117 := gc_TK_mo KTK_I106
          refine gv_callV hD rfl (As := []) (st := []) rfl B_39 S_39 rfl (gc_lV6 hws rfl) (Nat.le_of_ble_eq_true rfl) (gz_Ev_mono (d := 3) (by decide) E105) ?_
          show gv_X _ _ (89, [(0, .inr (.inr (some 39))), (1, .inl v1_26), (2, .inl v2_26)], [.inl z105], sh, gc_h sh I106 J107 A)
          refine gv_if_ne (t := 94) hD rfl rfl ⟨by omega, by omega⟩ (fun c118 => ?_) (fun c118 => ?_)
          · show gv_X _ _ (94, [(0, .inr (.inr (some 39))), (1, .inl v1_26), (2, .inl v2_26)], [], sh, gc_h sh I106 J107 A)
            refine gv_run 1 true hD (pc' := 95) (lv' := [(0, .inr (.inr (some 39))), (1, .inl v1_26), (2, .inl v2_26)]) (st' := [.inr (.inr (some 39))]) (h' := gc_h sh I106 J107 A) (C := (True ∧ True)) rfl ⟨trivial, trivial⟩ ?_
            refine gv_get hD rfl rfl S_39 ⟨by decide, B_39⟩ (gc_hA S_39 rfl A_39_1) ?_
            show gv_X _ _ (98, [(0, .inr (.inr (some 39))), (1, .inl v1_26), (2, .inl v2_26)], [.inr (.inr (some 23))], sh, gc_h sh I106 J107 A)
            have f119 := (show 0 ≤ I106 23 7 ∧ I106 23 7 ≤ 125 from gc_in hI106 R_23 rfl rfl)
            refine gv_get hD rfl rfl S_23 ⟨by decide, B_23⟩ (gc_hI S_23 rfl) ?_
            show gv_X _ _ (101, [(0, .inr (.inr (some 39))), (1, .inl v1_26), (2, .inl v2_26)], [.inl (I106 23 7)], sh, gc_h sh I106 J107 A)
            refine gv_run 1 true hD (pc' := 103) (lv' := [(0, .inr (.inr (some 39))), (1, .inl v1_26), (2, .inl v2_26)]) (st' := [.inl 43, .inl (I106 23 7)]) (h' := gc_h sh I106 J107 A) (C := (True ∧ True)) rfl ⟨trivial, trivial⟩ ?_
            refine gv_icmp_ne (t := 110) hD rfl rfl ⟨⟨by omega, by omega⟩, ⟨by omega, by omega⟩⟩ (fun c120 => ?_) (fun c120 => ?_)
            · show gv_X _ _ (110, [(0, .inr (.inr (some 39))), (1, .inl v1_26), (2, .inl v2_26)], [], sh, gc_h sh I106 J107 A)
              refine gv_run 1 true hD (pc' := 111) (lv' := [(0, .inr (.inr (some 39))), (1, .inl v1_26), (2, .inl v2_26)]) (st' := [.inl 0]) (h' := gc_h sh I106 J107 A) (C := (True ∧ True)) rfl ⟨trivial, trivial⟩ ?_
              refine gv_pick [0, 2] rfl ?_
              exact L111 I106 J107 0 hI106 FI106 FJ107 KLT_I106 KTK_I106 (by omega)
            · show gv_X _ _ (106, [(0, .inr (.inr (some 39))), (1, .inl v1_26), (2, .inl v2_26)], [], sh, gc_h sh I106 J107 A)
              refine gv_run 2 true hD (pc' := 111) (lv' := [(0, .inr (.inr (some 39))), (1, .inl v1_26), (2, .inl v2_26)]) (st' := [.inl 1]) (h' := gc_h sh I106 J107 A) (C := ((True ∧ True) ∧ True)) rfl ⟨⟨trivial, trivial⟩, trivial⟩ ?_
              refine gv_pick [0, 2] rfl ?_
              exact L111 I106 J107 1 hI106 FI106 FJ107 KLT_I106 KTK_I106 (by omega)
          · show gv_X _ _ (92, [(0, .inr (.inr (some 39))), (1, .inl v1_26), (2, .inl v2_26)], [], sh, gc_h sh I106 J107 A)
            refine gv_run 1 true hD (pc' := 93) (lv' := [(0, .inr (.inr (some 39))), (1, .inl v1_26), (2, .inl v2_26)]) (st' := [.inl 0]) (h' := gc_h sh I106 J107 A) (C := (True ∧ True)) rfl ⟨trivial, trivial⟩ ?_
            exact gv_zret hD rfl (by omega) ⟨I106, J107, rfl, hI106, FI106, FJ107, KLT_I106, KTK_I106, ⟨_, rfl, by omega⟩⟩
  refine gv_run 2 true hD (pc' := 2) (lv' := [(0, .inr (.inr (some 39)))]) (st' := [.inl 0, .inr (.inr (some 39))]) (h' := gc_h sh I J A) (C := ((True ∧ True) ∧ True)) rfl ⟨⟨trivial, trivial⟩, trivial⟩ ?_
  obtain ⟨r121, h121, E121, P121⟩ := d_X6_readValues (ws0 := ws0) (tb := tb) hws htb sh ro I J A hI  t 0 hb  h_t G_t  ⟨by omega, by omega⟩ (by omega) KLT_I KTK_I
  obtain ⟨I122, J123, rfl, hI122, g121, k121, KLT_I122, KTK_I122, ⟨z121, rfl, q121⟩⟩ := P121
  have FI122 := gc_frc (W := fun q j => (q = 39 ∧ j = 3) ∨ (q = 39 ∧ j = 4) ∨ (q = 23 ∧ j = 5) ∨ (q = 23 ∧ j = 6) ∨ (q = 23 ∧ j = 7) ∨ (q = 23 ∧ j = 8) ∨ (q = 1 ∧ j = 17) ∨ (q = 1 ∧ j = 18) ∨ q = 20 ∨ (q = 39 ∧ j = 6) ∨ (q = 41 ∧ j = 0) ∨ (q = 41 ∧ j = 1) ∨ (q = 41 ∧ j = 2)) (V := fun q j => (q = 39 ∧ j = 3) ∨ (q = 39 ∧ j = 4) ∨ (q = 23 ∧ j = 5) ∨ (q = 23 ∧ j = 6) ∨ (q = 23 ∧ j = 7) ∨ (q = 23 ∧ j = 8) ∨ (q = 39 ∧ j = 6)) FI (fun q j h => (h.elim (fun h => (Or.inl h)) (fun h => (h.elim (fun h => (Or.inr (Or.inl h))) (fun h => (h.elim (fun h => (Or.inr (Or.inr (Or.inl h)))) (fun h => (h.elim (fun h => (Or.inr (Or.inr (Or.inr (Or.inl h))))) (fun h => (h.elim (fun h => (Or.inr (Or.inr (Or.inr (Or.inr (Or.inl h)))))) (fun h => (h.elim (fun h => (Or.inr (Or.inr (Or.inr (Or.inr (Or.inr (Or.inl h))))))) (fun h => (Or.inr (Or.inr (Or.inr (Or.inr (Or.inr (Or.inr (Or.inr (Or.inr (Or.inr (Or.inl h))))))))))))))))))))))) g121
  have FJ123 := gc_frc (W := fun q j => (q = 23 ∧ j = 9)) (V := fun q j => (q = 23 ∧ j = 9)) FJ (fun q j h => h) k121
  have t124 := (g121 23 1).resolve_left (fun h => h.elim (fun h => absurd h.2 (by decide)) (fun h => h.elim (fun h => absurd h.2 (by decide)) (fun h => h.elim (fun h => absurd h.2 (by decide)) (fun h => h.elim (fun h => absurd h.2 (by decide)) (fun h => h.elim (fun h => absurd h.2 (by decide)) (fun h => h.elim (fun h => absurd h.2 (by decide)) (fun h => absurd h.2 (by decide))))))))
  have t125 := (g121 1 17).resolve_left (fun h => h.elim (fun h => absurd h.2 (by decide)) (fun h => h.elim (fun h => absurd h.2 (by decide)) (fun h => h.elim (fun h => absurd h.2 (by decide)) (fun h => h.elim (fun h => absurd h.2 (by decide)) (fun h => h.elim (fun h => absurd h.2 (by decide)) (fun h => h.elim (fun h => absurd h.2 (by decide)) (fun h => absurd h.2 (by decide))))))))
  have t126 := (g121 41 0).resolve_left (fun h => h.elim (fun h => absurd h.2 (by decide)) (fun h => h.elim (fun h => absurd h.2 (by decide)) (fun h => h.elim (fun h => absurd h.2 (by decide)) (fun h => h.elim (fun h => absurd h.2 (by decide)) (fun h => h.elim (fun h => absurd h.2 (by decide)) (fun h => h.elim (fun h => absurd h.2 (by decide)) (fun h => absurd h.2 (by decide))))))))
  have t127 := (g121 41 1).resolve_left (fun h => h.elim (fun h => absurd h.2 (by decide)) (fun h => h.elim (fun h => absurd h.2 (by decide)) (fun h => h.elim (fun h => absurd h.2 (by decide)) (fun h => h.elim (fun h => absurd h.2 (by decide)) (fun h => h.elim (fun h => absurd h.2 (by decide)) (fun h => h.elim (fun h => absurd h.2 (by decide)) (fun h => absurd h.2 (by decide))))))))
  have t128 := (g121 41 2).resolve_left (fun h => h.elim (fun h => absurd h.2 (by decide)) (fun h => h.elim (fun h => absurd h.2 (by decide)) (fun h => h.elim (fun h => absurd h.2 (by decide)) (fun h => h.elim (fun h => absurd h.2 (by decide)) (fun h => h.elim (fun h => absurd h.2 (by decide)) (fun h => h.elim (fun h => absurd h.2 (by decide)) (fun h => absurd h.2 (by decide))))))))
  have t129 := (g121 39 2).resolve_left (fun h => h.elim (fun h => absurd h.2 (by decide)) (fun h => h.elim (fun h => absurd h.2 (by decide)) (fun h => h.elim (fun h => absurd h.2 (by decide)) (fun h => h.elim (fun h => absurd h.2 (by decide)) (fun h => h.elim (fun h => absurd h.2 (by decide)) (fun h => h.elim (fun h => absurd h.2 (by decide)) (fun h => absurd h.2 (by decide))))))))
  have f130 := (show 0 ≤ I122 23 5 ∧ I122 23 5 ≤ 1000 from gc_in hI122 R_23 rfl rfl)
  have f131 := (show 0 ≤ I122 23 6 ∧ I122 23 6 ≤ 1001 from gc_in hI122 R_23 rfl rfl)
  have f132 := (show 0 ≤ I122 23 7 ∧ I122 23 7 ≤ 125 from gc_in hI122 R_23 rfl rfl)
  have t133 := gc_TK_mo KTK_I122
  refine gv_callV hD rfl (As := [.inl 0]) (st := []) rfl B_39 S_39 rfl (gc_lV6 hws rfl) (Nat.le_of_ble_eq_true rfl) (gz_Ev_mono (d := 3) (by decide) E121) ?_
  show gv_X _ _ (5, [(0, .inr (.inr (some 39)))], [.inl z121], sh, gc_h sh I122 J123 A)
  refine gv_if_eq (t := 17) hD rfl rfl ⟨by omega, by omega⟩ (fun c134 => ?_) (fun c134 => ?_)
  · show gv_X _ _ (17, [(0, .inr (.inr (some 39)))], [], sh, gc_h sh I122 J123 A)
    refine gv_pick [] rfl ?_
    exact L17 I122 J123 hI122 FI122 FJ123 KLT_I122 KTK_I122 (by omega)
  · show gv_X _ _ (8, [(0, .inr (.inr (some 39)))], [], sh, gc_h sh I122 J123 A)
    refine gv_run 2 true hD (pc' := 11) (lv' := [(0, .inr (.inr (some 39)))]) (st' := [.inl 61, .inr (.inr (some 39))]) (h' := gc_h sh I122 J123 A) (C := ((True ∧ True) ∧ True)) rfl ⟨⟨trivial, trivial⟩, trivial⟩ ?_
    obtain ⟨r135, h135, E135, P135⟩ := d_X6_take (ws0 := ws0) (tb := tb) hws htb sh ro I122 J123 A hI122  61 hb   ⟨by omega, by omega⟩ (by omega) KLT_I122 KTK_I122
    obtain ⟨I136, J137, rfl, hI136, g135, k135, KLT_I136, KTK_I136, ⟨z135, rfl, q135⟩⟩ := P135
    have FI136 := gc_frc (W := fun q j => (q = 39 ∧ j = 3) ∨ (q = 39 ∧ j = 4) ∨ (q = 23 ∧ j = 5) ∨ (q = 23 ∧ j = 6) ∨ (q = 23 ∧ j = 7) ∨ (q = 23 ∧ j = 8) ∨ (q = 1 ∧ j = 17) ∨ (q = 1 ∧ j = 18) ∨ q = 20 ∨ (q = 39 ∧ j = 6) ∨ (q = 41 ∧ j = 0) ∨ (q = 41 ∧ j = 1) ∨ (q = 41 ∧ j = 2)) (V := fun q j => (q = 39 ∧ j = 3) ∨ (q = 39 ∧ j = 4) ∨ (q = 23 ∧ j = 5) ∨ (q = 23 ∧ j = 6) ∨ (q = 23 ∧ j = 7) ∨ (q = 23 ∧ j = 8)) FI122 (fun q j h => (h.elim (fun h => (Or.inl h)) (fun h => (h.elim (fun h => (Or.inr (Or.inl h))) (fun h => (h.elim (fun h => (Or.inr (Or.inr (Or.inl h)))) (fun h => (h.elim (fun h => (Or.inr (Or.inr (Or.inr (Or.inl h))))) (fun h => (h.elim (fun h => (Or.inr (Or.inr (Or.inr (Or.inr (Or.inl h)))))) (fun h => (Or.inr (Or.inr (Or.inr (Or.inr (Or.inr (Or.inl h))))))))))))))))) g135
    have FJ137 := gc_frc (W := fun q j => (q = 23 ∧ j = 9)) (V := fun q j => (q = 23 ∧ j = 9)) FJ123 (fun q j h => h) k135
    have t138 := (g135 23 1).resolve_left (fun h => h.elim (fun h => absurd h.2 (by decide)) (fun h => h.elim (fun h => absurd h.2 (by decide)) (fun h => h.elim (fun h => absurd h.2 (by decide)) (fun h => h.elim (fun h => absurd h.2 (by decide)) (fun h => h.elim (fun h => absurd h.2 (by decide)) (fun h => absurd h.2 (by decide)))))))
    have t139 := (g135 1 17).resolve_left (fun h => h.elim (fun h => absurd h.2 (by decide)) (fun h => h.elim (fun h => absurd h.2 (by decide)) (fun h => h.elim (fun h => absurd h.2 (by decide)) (fun h => h.elim (fun h => absurd h.2 (by decide)) (fun h => h.elim (fun h => absurd h.2 (by decide)) (fun h => absurd h.2 (by decide)))))))
    have t140 := (g135 41 0).resolve_left (fun h => h.elim (fun h => absurd h.2 (by decide)) (fun h => h.elim (fun h => absurd h.2 (by decide)) (fun h => h.elim (fun h => absurd h.2 (by decide)) (fun h => h.elim (fun h => absurd h.2 (by decide)) (fun h => h.elim (fun h => absurd h.2 (by decide)) (fun h => absurd h.2 (by decide)))))))
    have t141 := (g135 41 1).resolve_left (fun h => h.elim (fun h => absurd h.2 (by decide)) (fun h => h.elim (fun h => absurd h.2 (by decide)) (fun h => h.elim (fun h => absurd h.2 (by decide)) (fun h => h.elim (fun h => absurd h.2 (by decide)) (fun h => h.elim (fun h => absurd h.2 (by decide)) (fun h => absurd h.2 (by decide)))))))
    have t142 := (g135 41 2).resolve_left (fun h => h.elim (fun h => absurd h.2 (by decide)) (fun h => h.elim (fun h => absurd h.2 (by decide)) (fun h => h.elim (fun h => absurd h.2 (by decide)) (fun h => h.elim (fun h => absurd h.2 (by decide)) (fun h => h.elim (fun h => absurd h.2 (by decide)) (fun h => absurd h.2 (by decide)))))))
    have t143 := (g135 39 2).resolve_left (fun h => h.elim (fun h => absurd h.2 (by decide)) (fun h => h.elim (fun h => absurd h.2 (by decide)) (fun h => h.elim (fun h => absurd h.2 (by decide)) (fun h => h.elim (fun h => absurd h.2 (by decide)) (fun h => h.elim (fun h => absurd h.2 (by decide)) (fun h => absurd h.2 (by decide)))))))
    have f144 := (show 0 ≤ I136 23 5 ∧ I136 23 5 ≤ 1000 from gc_in hI136 R_23 rfl rfl)
    have f145 := (show 0 ≤ I136 23 6 ∧ I136 23 6 ≤ 1001 from gc_in hI136 R_23 rfl rfl)
    have f146 := (show 0 ≤ I136 23 7 ∧ I136 23 7 ≤ 125 from gc_in hI136 R_23 rfl rfl)
    have t147 := gc_TK_mo KTK_I136
    refine gv_callV hD rfl (As := [.inl 61]) (st := []) rfl B_39 S_39 rfl (gc_lV6 hws rfl) (Nat.le_of_ble_eq_true rfl) (gz_Ev_mono (d := 3) (by decide) E135) ?_
    show gv_X _ _ (14, [(0, .inr (.inr (some 39)))], [.inl z135], sh, gc_h sh I136 J137 A)
    refine gv_if_ne (t := 19) hD rfl rfl ⟨by omega, by omega⟩ (fun c148 => ?_) (fun c148 => ?_)
    · show gv_X _ _ (19, [(0, .inr (.inr (some 39)))], [], sh, gc_h sh I136 J137 A)
      refine gv_run 1 true hD (pc' := 20) (lv' := [(0, .inr (.inr (some 39)))]) (st' := [.inr (.inr (some 39))]) (h' := gc_h sh I136 J137 A) (C := (True ∧ True)) rfl ⟨trivial, trivial⟩ ?_
      refine gv_get hD rfl rfl S_39 ⟨by decide, B_39⟩ (gc_hA S_39 rfl A_39_10) ?_
      show gv_X _ _ (23, [(0, .inr (.inr (some 39)))], [.inr (.inr (some 41))], sh, gc_h sh I136 J137 A)
      refine gv_run 2 true hD (pc' := 25) (lv' := [(0, .inr (.inr (some 39)))]) (st' := [.inr (.inr (some 39)), .inl 0, .inr (.inr (some 41))]) (h' := gc_h sh I136 J137 A) (C := ((True ∧ True) ∧ True)) rfl ⟨⟨trivial, trivial⟩, trivial⟩ ?_
      have f149 := (show 0 ≤ I136 39 6 ∧ I136 39 6 ≤ 16777215 from gc_in hI136 R_39 rfl rfl)
      refine gv_get hD rfl rfl S_39 ⟨by decide, B_39⟩ (gc_hI S_39 rfl) ?_
      show gv_X _ _ (28, [(0, .inr (.inr (some 39)))], [.inl (I136 39 6), .inl 0, .inr (.inr (some 41))], sh, gc_h sh I136 J137 A)
      refine gv_iast hD rfl S_41 ⟨by decide, B_41⟩ ⟨by omega, by omega⟩ ?_
      refine gc_st (k := 0) hI136 S_41 rfl R_41 (lo := (-2147483648)) (hi := 2147483647) rfl rfl (by omega) (by omega) (fun I150 hI150 q151 p151 => ?_)
      have FI150 := gc_frs (W := fun q j => (q = 39 ∧ j = 3) ∨ (q = 39 ∧ j = 4) ∨ (q = 23 ∧ j = 5) ∨ (q = 23 ∧ j = 6) ∨ (q = 23 ∧ j = 7) ∨ (q = 23 ∧ j = 8) ∨ (q = 1 ∧ j = 17) ∨ (q = 1 ∧ j = 18) ∨ q = 20 ∨ (q = 39 ∧ j = 6) ∨ (q = 41 ∧ j = 0) ∨ (q = 41 ∧ j = 1) ∨ (q = 41 ∧ j = 2)) FI136 (Or.inr (Or.inr (Or.inr (Or.inr (Or.inr (Or.inr (Or.inr (Or.inr (Or.inr (Or.inr (Or.inl ⟨rfl, rfl⟩))))))))))) p151
      have t152 := p151 23 1 (fun h => absurd h.2 (by decide))
      have t153 := p151 23 5 (fun h => absurd h.2 (by decide))
      have t154 := p151 23 6 (fun h => absurd h.2 (by decide))
      have t155 := p151 23 7 (fun h => absurd h.2 (by decide))
      have t156 := p151 1 17 (fun h => absurd h.2 (by decide))
      have t157 := p151 41 1 (fun h => absurd h.2 (by decide))
      have t158 := p151 41 2 (fun h => absurd h.2 (by decide))
      have t159 := p151 39 2 (fun h => absurd h.2 (by decide))
      have f160 := (show (-2147483648) ≤ I150 41 0 ∧ I150 41 0 ≤ 2147483647 from gc_in hI150 R_41 rfl rfl)
      have KLT_I150 := gc_LT_fr KLT_I136 (p151 23 5 (fun h => absurd h.2 (by decide))) (p151 23 6 (fun h => absurd h.2 (by decide))) (p151 23 7 (fun h => absurd h.2 (by decide))) (fun k => p151 24 k (fun h => absurd h.1 (by decide)))
      have KTK_I150 := gc_TK_fr KTK_I136 (p151 23 1 (fun h => absurd h.2 (by decide))) (p151 23 5 (fun h => absurd h.2 (by decide))) (p151 23 6 (fun h => absurd h.2 (by decide))) (p151 23 7 (fun h => absurd h.2 (by decide)))
      show gv_X _ _ (29, [(0, .inr (.inr (some 39)))], [], sh, gc_h sh I150 J137 A)
      refine gv_run 1 true hD (pc' := 30) (lv' := [(0, .inr (.inr (some 39)))]) (st' := [.inr (.inr (some 39))]) (h' := gc_h sh I150 J137 A) (C := (True ∧ True)) rfl ⟨trivial, trivial⟩ ?_
      refine gv_get hD rfl rfl S_39 ⟨by decide, B_39⟩ (gc_hA S_39 rfl A_39_10) ?_
      show gv_X _ _ (33, [(0, .inr (.inr (some 39)))], [.inr (.inr (some 41))], sh, gc_h sh I150 J137 A)
      refine gv_run 2 true hD (pc' := 35) (lv' := [(0, .inr (.inr (some 39)))]) (st' := [.inr (.inr (some 39)), .inl 1, .inr (.inr (some 41))]) (h' := gc_h sh I150 J137 A) (C := ((True ∧ True) ∧ True)) rfl ⟨⟨trivial, trivial⟩, trivial⟩ ?_
      refine gv_get hD rfl rfl S_39 ⟨by decide, B_39⟩ (gc_hA S_39 rfl A_39_0) ?_
      show gv_X _ _ (38, [(0, .inr (.inr (some 39)))], [.inr (.inr (some 1)), .inl 1, .inr (.inr (some 41))], sh, gc_h sh I150 J137 A)
      have f161 := (show 0 ≤ I150 1 17 ∧ I150 1 17 ≤ 12000 from gc_in hI150 R_1 rfl rfl)
      refine gv_get hD rfl rfl S_1 ⟨by decide, B_1⟩ (gc_hI S_1 rfl) ?_
      show gv_X _ _ (41, [(0, .inr (.inr (some 39)))], [.inl (I150 1 17), .inl 1, .inr (.inr (some 41))], sh, gc_h sh I150 J137 A)
      refine gv_iast hD rfl S_41 ⟨by decide, B_41⟩ ⟨by omega, by omega⟩ ?_
      refine gc_st (k := 1) hI150 S_41 rfl R_41 (lo := (-2147483648)) (hi := 2147483647) rfl rfl (by omega) (by omega) (fun I162 hI162 q163 p163 => ?_)
      have FI162 := gc_frs (W := fun q j => (q = 39 ∧ j = 3) ∨ (q = 39 ∧ j = 4) ∨ (q = 23 ∧ j = 5) ∨ (q = 23 ∧ j = 6) ∨ (q = 23 ∧ j = 7) ∨ (q = 23 ∧ j = 8) ∨ (q = 1 ∧ j = 17) ∨ (q = 1 ∧ j = 18) ∨ q = 20 ∨ (q = 39 ∧ j = 6) ∨ (q = 41 ∧ j = 0) ∨ (q = 41 ∧ j = 1) ∨ (q = 41 ∧ j = 2)) FI150 (Or.inr (Or.inr (Or.inr (Or.inr (Or.inr (Or.inr (Or.inr (Or.inr (Or.inr (Or.inr (Or.inr (Or.inl ⟨rfl, rfl⟩)))))))))))) p163
      have t164 := p163 23 1 (fun h => absurd h.1 (by decide))
      have t165 := p163 23 5 (fun h => absurd h.2 (by decide))
      have t166 := p163 23 6 (fun h => absurd h.2 (by decide))
      have t167 := p163 23 7 (fun h => absurd h.2 (by decide))
      have t168 := p163 1 17 (fun h => absurd h.2 (by decide))
      have t169 := p163 41 0 (fun h => absurd h.2 (by decide))
      have t170 := p163 41 2 (fun h => absurd h.2 (by decide))
      have t171 := p163 39 2 (fun h => absurd h.2 (by decide))
      have f172 := (show (-2147483648) ≤ I162 41 1 ∧ I162 41 1 ≤ 2147483647 from gc_in hI162 R_41 rfl rfl)
      have KLT_I162 := gc_LT_fr KLT_I150 (p163 23 5 (fun h => absurd h.2 (by decide))) (p163 23 6 (fun h => absurd h.2 (by decide))) (p163 23 7 (fun h => absurd h.2 (by decide))) (fun k => p163 24 k (fun h => absurd h.1 (by decide)))
      have KTK_I162 := gc_TK_fr KTK_I150 (p163 23 1 (fun h => absurd h.1 (by decide))) (p163 23 5 (fun h => absurd h.2 (by decide))) (p163 23 6 (fun h => absurd h.2 (by decide))) (p163 23 7 (fun h => absurd h.2 (by decide)))
      show gv_X _ _ (42, [(0, .inr (.inr (some 39)))], [], sh, gc_h sh I162 J137 A)
      refine gv_run 1 true hD (pc' := 43) (lv' := [(0, .inr (.inr (some 39)))]) (st' := [.inr (.inr (some 39))]) (h' := gc_h sh I162 J137 A) (C := (True ∧ True)) rfl ⟨trivial, trivial⟩ ?_
      refine gv_get hD rfl rfl S_39 ⟨by decide, B_39⟩ (gc_hA S_39 rfl A_39_10) ?_
      show gv_X _ _ (46, [(0, .inr (.inr (some 39)))], [.inr (.inr (some 41))], sh, gc_h sh I162 J137 A)
      refine gv_run 2 true hD (pc' := 48) (lv' := [(0, .inr (.inr (some 39)))]) (st' := [.inl (-1), .inl 2, .inr (.inr (some 41))]) (h' := gc_h sh I162 J137 A) (C := ((True ∧ True) ∧ True)) rfl ⟨⟨trivial, trivial⟩, trivial⟩ ?_
      refine gv_iast hD rfl S_41 ⟨by decide, B_41⟩ ⟨by omega, by omega⟩ ?_
      refine gc_st (k := 2) hI162 S_41 rfl R_41 (lo := (-2147483648)) (hi := 2147483647) rfl rfl (by omega) (by omega) (fun I173 hI173 q174 p174 => ?_)
      have FI173 := gc_frs (W := fun q j => (q = 39 ∧ j = 3) ∨ (q = 39 ∧ j = 4) ∨ (q = 23 ∧ j = 5) ∨ (q = 23 ∧ j = 6) ∨ (q = 23 ∧ j = 7) ∨ (q = 23 ∧ j = 8) ∨ (q = 1 ∧ j = 17) ∨ (q = 1 ∧ j = 18) ∨ q = 20 ∨ (q = 39 ∧ j = 6) ∨ (q = 41 ∧ j = 0) ∨ (q = 41 ∧ j = 1) ∨ (q = 41 ∧ j = 2)) FI162 (Or.inr (Or.inr (Or.inr (Or.inr (Or.inr (Or.inr (Or.inr (Or.inr (Or.inr (Or.inr (Or.inr (Or.inr ⟨rfl, rfl⟩)))))))))))) p174
      have t175 := p174 23 1 (fun h => absurd h.2 (by decide))
      have t176 := p174 23 5 (fun h => absurd h.2 (by decide))
      have t177 := p174 23 6 (fun h => absurd h.2 (by decide))
      have t178 := p174 23 7 (fun h => absurd h.2 (by decide))
      have t179 := p174 1 17 (fun h => absurd h.2 (by decide))
      have t180 := p174 41 0 (fun h => absurd h.2 (by decide))
      have t181 := p174 41 1 (fun h => absurd h.2 (by decide))
      have t182 := p174 39 2 (fun h => absurd h.1 (by decide))
      have f183 := (show (-2147483648) ≤ I173 41 2 ∧ I173 41 2 ≤ 2147483647 from gc_in hI173 R_41 rfl rfl)
      have KLT_I173 := gc_LT_fr KLT_I162 (p174 23 5 (fun h => absurd h.2 (by decide))) (p174 23 6 (fun h => absurd h.2 (by decide))) (p174 23 7 (fun h => absurd h.2 (by decide))) (fun k => p174 24 k (fun h => absurd h.1 (by decide)))
      have KTK_I173 := gc_TK_fr KTK_I162 (p174 23 1 (fun h => absurd h.2 (by decide))) (p174 23 5 (fun h => absurd h.2 (by decide))) (p174 23 6 (fun h => absurd h.2 (by decide))) (p174 23 7 (fun h => absurd h.2 (by decide)))
      show gv_X _ _ (49, [(0, .inr (.inr (some 39)))], [], sh, gc_h sh I173 J137 A)
      refine gv_run 1 true hD (pc' := 50) (lv' := [(0, .inr (.inr (some 39)))]) (st' := [.inr (.inr (some 39))]) (h' := gc_h sh I173 J137 A) (C := (True ∧ True)) rfl ⟨trivial, trivial⟩ ?_
      refine gv_get hD rfl rfl S_39 ⟨by decide, B_39⟩ (gc_hA S_39 rfl A_39_1) ?_
      show gv_X _ _ (53, [(0, .inr (.inr (some 39)))], [.inr (.inr (some 23))], sh, gc_h sh I173 J137 A)
      have f184 := (show 0 ≤ I173 23 7 ∧ I173 23 7 ≤ 125 from gc_in hI173 R_23 rfl rfl)
      refine gv_get hD rfl rfl S_23 ⟨by decide, B_23⟩ (gc_hI S_23 rfl) ?_
      show gv_X _ _ (56, [(0, .inr (.inr (some 39)))], [.inl (I173 23 7)], sh, gc_h sh I173 J137 A)
      refine gv_run 1 true hD (pc' := 58) (lv' := [(0, .inr (.inr (some 39)))]) (st' := [.inl 45, .inl (I173 23 7)]) (h' := gc_h sh I173 J137 A) (C := (True ∧ True)) rfl ⟨trivial, trivial⟩ ?_
      refine gv_icmp_ne (t := 70) hD rfl rfl ⟨⟨by omega, by omega⟩, ⟨by omega, by omega⟩⟩ (fun c185 => ?_) (fun c185 => ?_)
      · show gv_X _ _ (70, [(0, .inr (.inr (some 39)))], [], sh, gc_h sh I173 J137 A)
        refine gv_run 4 true hD (pc' := 74) (lv' := [(2, .inl 0), (1, .inl 1), (0, .inr (.inr (some 39)))]) (st' := []) (h' := gc_h sh I173 J137 A) (C := ((((True ∧ True) ∧ True) ∧ True) ∧ True)) rfl ⟨⟨⟨⟨trivial, trivial⟩, trivial⟩, trivial⟩, trivial⟩ ?_
        refine gv_pick [2, 1, 0] rfl ?_
        exact L74 _ I173 J137 1 0 (Nat.lt_succ_self _) hI173 FI173 FJ137 KLT_I173 KTK_I173 (by omega)
      · show gv_X _ _ (61, [(0, .inr (.inr (some 39)))], [], sh, gc_h sh I173 J137 A)
        refine gv_run 1 true hD (pc' := 62) (lv' := [(0, .inr (.inr (some 39)))]) (st' := [.inr (.inr (some 39))]) (h' := gc_h sh I173 J137 A) (C := (True ∧ True)) rfl ⟨trivial, trivial⟩ ?_
        refine gv_get hD rfl rfl S_39 ⟨by decide, B_39⟩ (gc_hA S_39 rfl A_39_1) ?_
        show gv_X _ _ (65, [(0, .inr (.inr (some 39)))], [.inr (.inr (some 23))], sh, gc_h sh I173 J137 A)
        have t187 := gc_TK_nx KTK_I173 (by omega)
        have t188 := gc_TK_st KTK_I173 (by omega)
        obtain ⟨r186, h186, E186, P186⟩ := d_X9_advance (ws0 := ws0) (tb := tb) hws htb sh ro I173 J137 A hI173 23  (gc_b23 hb)    (by omega) 
        obtain ⟨I189, J190, rfl, hI189, g186, k186, ⟨rfl, V186_0, V186_1, V186_2, V186_3, V186_4, q186⟩⟩ := P186
        have FI189 := gc_frc (W := fun q j => (q = 39 ∧ j = 3) ∨ (q = 39 ∧ j = 4) ∨ (q = 23 ∧ j = 5) ∨ (q = 23 ∧ j = 6) ∨ (q = 23 ∧ j = 7) ∨ (q = 23 ∧ j = 8) ∨ (q = 1 ∧ j = 17) ∨ (q = 1 ∧ j = 18) ∨ q = 20 ∨ (q = 39 ∧ j = 6) ∨ (q = 41 ∧ j = 0) ∨ (q = 41 ∧ j = 1) ∨ (q = 41 ∧ j = 2)) (V := fun q j => (q = 23 ∧ j = 5) ∨ (q = 23 ∧ j = 6) ∨ (q = 23 ∧ j = 7) ∨ (q = 23 ∧ j = 8)) FI173 (fun q j h => (h.elim (fun h => (Or.inr (Or.inr (Or.inl h)))) (fun h => (h.elim (fun h => (Or.inr (Or.inr (Or.inr (Or.inl h))))) (fun h => (h.elim (fun h => (Or.inr (Or.inr (Or.inr (Or.inr (Or.inl h)))))) (fun h => (Or.inr (Or.inr (Or.inr (Or.inr (Or.inr (Or.inl h))))))))))))) g186
        have FJ190 := gc_frc (W := fun q j => (q = 23 ∧ j = 9)) (V := fun q j => (q = 23 ∧ j = 9)) FJ137 (fun q j h => h) k186
        have t191 := (g186 23 1).resolve_left (fun h => h.elim (fun h => absurd h.2 (by decide)) (fun h => h.elim (fun h => absurd h.2 (by decide)) (fun h => h.elim (fun h => absurd h.2 (by decide)) (fun h => absurd h.2 (by decide)))))
        have t192 := (g186 1 17).resolve_left (fun h => h.elim (fun h => absurd h.2 (by decide)) (fun h => h.elim (fun h => absurd h.2 (by decide)) (fun h => h.elim (fun h => absurd h.2 (by decide)) (fun h => absurd h.2 (by decide)))))
        have t193 := (g186 41 0).resolve_left (fun h => h.elim (fun h => absurd h.2 (by decide)) (fun h => h.elim (fun h => absurd h.2 (by decide)) (fun h => h.elim (fun h => absurd h.2 (by decide)) (fun h => absurd h.2 (by decide)))))
        have t194 := (g186 41 1).resolve_left (fun h => h.elim (fun h => absurd h.2 (by decide)) (fun h => h.elim (fun h => absurd h.2 (by decide)) (fun h => h.elim (fun h => absurd h.2 (by decide)) (fun h => absurd h.2 (by decide)))))
        have t195 := (g186 41 2).resolve_left (fun h => h.elim (fun h => absurd h.2 (by decide)) (fun h => h.elim (fun h => absurd h.2 (by decide)) (fun h => h.elim (fun h => absurd h.2 (by decide)) (fun h => absurd h.2 (by decide)))))
        have t196 := (g186 39 2).resolve_left (fun h => h.elim (fun h => absurd h.2 (by decide)) (fun h => h.elim (fun h => absurd h.2 (by decide)) (fun h => h.elim (fun h => absurd h.2 (by decide)) (fun h => absurd h.2 (by decide)))))
        have f197 := (show 0 ≤ I189 23 5 ∧ I189 23 5 ≤ 1000 from gc_in hI189 R_23 rfl rfl)
        have f198 := (show 0 ≤ I189 23 6 ∧ I189 23 6 ≤ 1001 from gc_in hI189 R_23 rfl rfl)
        have f199 := (show 0 ≤ I189 23 7 ∧ I189 23 7 ≤ 125 from gc_in hI189 R_23 rfl rfl)
        have KLT_I189 : gc_LT I189 := q186.2.2
        have KTK_I189 : gc_TK I189 := And.intro V186_0 (And.intro V186_1 (And.intro V186_2 (And.intro V186_3 V186_4)))
        have t200 := gc_TK_mo KTK_I189
        clear V186_0 V186_1 V186_2 V186_3 V186_4
        refine gv_callV hD rfl (As := []) (st := []) rfl B_23 S_23 rfl (gc_lV6 hws rfl) (Nat.le_of_ble_eq_true rfl) (gz_Ev_mono (d := 2) (by decide) E186) ?_
        show gv_X _ _ (68, [(0, .inr (.inr (some 39)))], [], sh, gc_h sh I189 J190 A)
        refine gv_run 1 true hD (pc' := 69) (lv' := [(0, .inr (.inr (some 39)))]) (st' := [.inl 1]) (h' := gc_h sh I189 J190 A) (C := (True ∧ True)) rfl ⟨trivial, trivial⟩ ?_
        exact gv_zret hD rfl (by omega) ⟨I189, J190, rfl, hI189, FI189, FJ190, KLT_I189, KTK_I189, ⟨_, rfl, by omega⟩⟩
    · show gv_X _ _ (17, [(0, .inr (.inr (some 39)))], [], sh, gc_h sh I136 J137 A)
      refine gv_pick [] rfl ?_
      exact L17 I136 J137 hI136 FI136 FJ137 KLT_I136 KTK_I136 (by omega)
