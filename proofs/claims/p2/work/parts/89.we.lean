set_option maxHeartbeats 4000000 in
set_option maxRecDepth 100000 in
theorem d_X6_readTongue_h {ws0 : List Cond} {tb : String → gz_T} (hws : gc_Ws ws0) (htb : gc_tbs tb) (sh : gz_Sh) (ro : Nat → Nat) (I : gr_I) (J : gr_J) (A : gc_A) (hI : gc_Inv ro I)  (hb : gc_Base sh ro A)  (KLT_I : gc_LT I) (KTK_I : gc_TK I) {Q : gz_S → Prop} (hQ : ∀ v, gv_Q cX6_readTongue (some .boolean) sh (fun r h' => (∃ (I' : gr_I) (J' : gr_J), h' = gc_h sh I' J' A ∧ gc_Inv ro I' ∧ (∀ q j : Nat, ((q = 39 ∧ j = 3) ∨ (q = 39 ∧ j = 4) ∨ (q = 23 ∧ j = 5) ∨ (q = 23 ∧ j = 6) ∨ (q = 23 ∧ j = 7) ∨ (q = 23 ∧ j = 8) ∨ (q = 1 ∧ j = 5)) ∨ I' q j = I q j) ∧ (∀ q j : Nat, ((q = 23 ∧ j = 9)) ∨ J' q j = J q j) ∧ gc_LT I' ∧ gc_TK I' ∧ (∃ z : Int, r = some (.inl z) ∧ 0 ≤ z ∧ z ≤ 1 ∧ (I' 23 1 = I 23 1) ∧ (I 23 5 ≤ I' 23 5) ∧ (z = 0 ∨ (0 ≤ I' 1 5 ∧ I' 1 5 < I 8 1)) ∧ (z = 1 ∨ I' 1 5 = I 1 5)))) v → Q v) (L88 : ∀ (I8 : gr_I) (J9 : gr_J) (v1_10 : Int64) (v3_10 : Int) (s1_10 : Int64), gc_Inv ro I8 → (∀ q j : Nat, ((q = 39 ∧ j = 3) ∨ (q = 39 ∧ j = 4) ∨ (q = 23 ∧ j = 5) ∨ (q = 23 ∧ j = 6) ∨ (q = 23 ∧ j = 7) ∨ (q = 23 ∧ j = 8) ∨ (q = 1 ∧ j = 5)) ∨ I8 q j = I q j) → (∀ q j : Nat, ((q = 23 ∧ j = 9)) ∨ J9 q j = J q j) → gc_LT I8 → gc_TK I8 → ((0 ≤ v3_10 ∧ v3_10 ≤ 8) ∧ (v3_10 = I 8 1) ∧ (I 8 1 ≤ 7) ∧ (I8 1 5 = I 1 5) ∧ (I8 23 1 = I 23 1) ∧ (I 23 5 ≤ I8 23 5) ∧ (I8 8 1 = I 8 1)) → gv_X (gc_E6 ws0 tb 9 (yX6_readTongue, cX6_readTongue, 4, (some .boolean)) kX6_readTongue) Q (88, [(0, .inr (.inr (some 39))), (1, .inr (.inl v1_10)), (3, .inl v3_10)], [.inr (.inl s1_10), .inr (.inr (some 1))], sh, gc_h sh I8 J9 A)) : gv_X (gc_E6 ws0 tb 9 (yX6_readTongue, cX6_readTongue, 4, (some .boolean)) kX6_readTongue) Q (0, [(0, .inr (.inr (some 39)))], [], sh, gc_h sh I J A) := by
  have FI : ∀ q j : Nat, ((q = 39 ∧ j = 3) ∨ (q = 39 ∧ j = 4) ∨ (q = 23 ∧ j = 5) ∨ (q = 23 ∧ j = 6) ∨ (q = 23 ∧ j = 7) ∨ (q = 23 ∧ j = 8) ∨ (q = 1 ∧ j = 5)) ∨ I q j = I q j := fun _ _ => Or.inr rfl
  have FJ : ∀ q j : Nat, ((q = 23 ∧ j = 9)) ∨ J q j = J q j := fun _ _ => Or.inr rfl
  have A_1_3 : A 1 3 = some 8 := gc_bA hb rfl
  have A_39_0 : A 39 0 = some 1 := gc_bA hb rfl
  have A_39_1 : A 39 1 = some 23 := gc_bA hb rfl
  have B_1 : 1 < 1000000 := by decide
  have B_23 : 23 < 1000000 := by decide
  have B_39 : 39 < 1000000 := by decide
  have B_8 : 8 < 1000000 := by decide
  have R_1 : ro 1 = 22 := gc_bR hb (by decide) rfl
  have R_23 : ro 23 = 3 := gc_bR hb (by decide) rfl
  have R_8 : ro 8 = 6 := gc_bR hb (by decide) rfl
  have S_1 : sh[1]? = some (false, 8, 21) := gc_bS hb rfl
  have S_23 : sh[23]? = some (false, 9, 10) := gc_bS hb rfl
  have S_39 : sh[39]? = some (false, 6, 19) := gc_bS hb rfl
  have S_8 : sh[8]? = some (false, 4, 2) := gc_bS hb rfl
  have hD : gv_D (gc_E6 ws0 tb 9 (yX6_readTongue, cX6_readTongue, 4, (some .boolean)) kX6_readTongue) := gq_ok oX6_readTongue
  have t1 := gc_TK_mo KTK_I
  have f2 := (show 0 ≤ I 23 1 ∧ I 23 1 ≤ 1000 from gc_in hI R_23 rfl rfl)
  have f3 := (show 0 ≤ I 23 5 ∧ I 23 5 ≤ 1000 from gc_in hI R_23 rfl rfl)
  have f4 := (show 0 ≤ I 23 6 ∧ I 23 6 ≤ 1001 from gc_in hI R_23 rfl rfl)
  have f5 := (show 0 ≤ I 23 7 ∧ I 23 7 ≤ 125 from gc_in hI R_23 rfl rfl)
  have f6 := (show 0 ≤ I 8 1 ∧ I 8 1 ≤ 8 from gc_in hI R_8 rfl rfl)
  have f7 := (show (-1) ≤ I 1 5 ∧ I 1 5 ≤ 7 from gc_in hI R_1 rfl rfl)
  have L60 : ∀ (I11 : gr_I) (J12 : gr_J) (v1_13 : Int64) (v3_13 : Int) (s1_13 : Int), gc_Inv ro I11 → (∀ q j : Nat, ((q = 39 ∧ j = 3) ∨ (q = 39 ∧ j = 4) ∨ (q = 23 ∧ j = 5) ∨ (q = 23 ∧ j = 6) ∨ (q = 23 ∧ j = 7) ∨ (q = 23 ∧ j = 8) ∨ (q = 1 ∧ j = 5)) ∨ I11 q j = I q j) → (∀ q j : Nat, ((q = 23 ∧ j = 9)) ∨ J12 q j = J q j) → gc_LT I11 → gc_TK I11 → (((-1) ≤ v3_13 ∧ v3_13 ≤ 8) ∧ (0 ≤ s1_13 ∧ s1_13 ≤ 1) ∧ (v3_13 < I 8 1) ∧ (s1_13 = 1 ∨ 0 ≤ v3_13 ∨ I 8 1 < 8) ∧ (I11 1 5 = I 1 5) ∧ (I11 23 1 = I 23 1) ∧ (I 23 5 ≤ I11 23 5) ∧ (I11 8 1 = I 8 1)) → gv_X (gc_E6 ws0 tb 9 (yX6_readTongue, cX6_readTongue, 4, (some .boolean)) kX6_readTongue) Q (60, [(0, .inr (.inr (some 39))), (1, .inr (.inl v1_13)), (3, .inl v3_13)], [.inl s1_13, .inr (.inr (some 39))], sh, gc_h sh I11 J12 A) := by
    intro I11 J12 v1_13 v3_13 s1_13 hI11 FI11 FJ12 KLT_I11 KTK_I11 m_13
    obtain ⟨hv3_13, hs1_13, e0_13, e1_13, e2_13, e3_13, e4_13, e5_13⟩ := m_13
    have t14 := gc_TK_mo KTK_I11
    have f15 := (show 0 ≤ I11 23 1 ∧ I11 23 1 ≤ 1000 from gc_in hI11 R_23 rfl rfl)
    have f16 := (show 0 ≤ I11 23 5 ∧ I11 23 5 ≤ 1000 from gc_in hI11 R_23 rfl rfl)
    have f17 := (show 0 ≤ I11 23 6 ∧ I11 23 6 ≤ 1001 from gc_in hI11 R_23 rfl rfl)
    have f18 := (show 0 ≤ I11 23 7 ∧ I11 23 7 ≤ 125 from gc_in hI11 R_23 rfl rfl)
    have f19 := (show 0 ≤ I11 8 1 ∧ I11 8 1 ≤ 8 from gc_in hI11 R_8 rfl rfl)
    have f20 := (show (-1) ≤ I11 1 5 ∧ I11 1 5 ≤ 7 from gc_in hI11 R_1 rfl rfl)
    obtain ⟨r21, h21, E21, P21⟩ := d_X6_closes (ws0 := ws0) (tb := tb) hws htb sh ro I11 J12 A hI11  s1_13 hb   ⟨by omega, by omega⟩  KLT_I11 KTK_I11
    obtain ⟨I22, J23, rfl, hI22, g21, k21, KLT_I22, KTK_I22, ⟨z21, rfl, q21⟩⟩ := P21
    have FI22 := gc_frc (W := fun q j => (q = 39 ∧ j = 3) ∨ (q = 39 ∧ j = 4) ∨ (q = 23 ∧ j = 5) ∨ (q = 23 ∧ j = 6) ∨ (q = 23 ∧ j = 7) ∨ (q = 23 ∧ j = 8) ∨ (q = 1 ∧ j = 5)) (V := fun q j => (q = 39 ∧ j = 3) ∨ (q = 39 ∧ j = 4) ∨ (q = 23 ∧ j = 5) ∨ (q = 23 ∧ j = 6) ∨ (q = 23 ∧ j = 7) ∨ (q = 23 ∧ j = 8)) FI11 (fun q j h => (h.elim (fun h => (Or.inl h)) (fun h => (h.elim (fun h => (Or.inr (Or.inl h))) (fun h => (h.elim (fun h => (Or.inr (Or.inr (Or.inl h)))) (fun h => (h.elim (fun h => (Or.inr (Or.inr (Or.inr (Or.inl h))))) (fun h => (h.elim (fun h => (Or.inr (Or.inr (Or.inr (Or.inr (Or.inl h)))))) (fun h => (Or.inr (Or.inr (Or.inr (Or.inr (Or.inr (Or.inl h))))))))))))))))) g21
    have FJ23 := gc_frc (W := fun q j => (q = 23 ∧ j = 9)) (V := fun q j => (q = 23 ∧ j = 9)) FJ12 (fun q j h => h) k21
    have t24 := (g21 23 1).resolve_left (fun h => h.elim (fun h => absurd h.2 (by decide)) (fun h => h.elim (fun h => absurd h.2 (by decide)) (fun h => h.elim (fun h => absurd h.2 (by decide)) (fun h => h.elim (fun h => absurd h.2 (by decide)) (fun h => h.elim (fun h => absurd h.2 (by decide)) (fun h => absurd h.2 (by decide)))))))
    have t25 := (g21 8 1).resolve_left (fun h => h.elim (fun h => absurd h.2 (by decide)) (fun h => h.elim (fun h => absurd h.2 (by decide)) (fun h => h.elim (fun h => absurd h.2 (by decide)) (fun h => h.elim (fun h => absurd h.2 (by decide)) (fun h => h.elim (fun h => absurd h.2 (by decide)) (fun h => absurd h.2 (by decide)))))))
    have t26 := (g21 1 5).resolve_left (fun h => h.elim (fun h => absurd h.2 (by decide)) (fun h => h.elim (fun h => absurd h.2 (by decide)) (fun h => h.elim (fun h => absurd h.1 (by decide)) (fun h => h.elim (fun h => absurd h.2 (by decide)) (fun h => h.elim (fun h => absurd h.2 (by decide)) (fun h => absurd h.2 (by decide)))))))
    have f27 := (show 0 ≤ I22 23 5 ∧ I22 23 5 ≤ 1000 from gc_in hI22 R_23 rfl rfl)
    have f28 := (show 0 ≤ I22 23 6 ∧ I22 23 6 ≤ 1001 from gc_in hI22 R_23 rfl rfl)
    have f29 := (show 0 ≤ I22 23 7 ∧ I22 23 7 ≤ 125 from gc_in hI22 R_23 rfl rfl)
    have t30 := gc_TK_mo KTK_I22
    refine gv_callV hD rfl (As := [.inl s1_13]) (st := []) rfl B_39 S_39 rfl (gc_lV6 hws rfl) (Nat.le_of_ble_eq_true rfl) (gz_Ev_mono (d := 4) (by decide) E21) ?_
    show gv_X _ _ (63, [(0, .inr (.inr (some 39))), (1, .inr (.inl v1_13)), (3, .inl v3_13)], [.inl z21], sh, gc_h sh I22 J23 A)
    refine gv_if_ne (t := 68) hD rfl rfl ⟨by omega, by omega⟩ (fun c31 => ?_) (fun c31 => ?_)
    · show gv_X _ _ (68, [(0, .inr (.inr (some 39))), (1, .inr (.inl v1_13)), (3, .inl v3_13)], [], sh, gc_h sh I22 J23 A)
      refine gv_run 1 true hD (pc' := 69) (lv' := [(0, .inr (.inr (some 39))), (1, .inr (.inl v1_13)), (3, .inl v3_13)]) (st' := [.inl v3_13]) (h' := gc_h sh I22 J23 A) (C := (True ∧ True)) rfl ⟨trivial, trivial⟩ ?_
      refine gv_if_ge (t := 91) hD rfl rfl ⟨by omega, by omega⟩ (fun c32 => ?_) (fun c32 => ?_)
      · show gv_X _ _ (91, [(0, .inr (.inr (some 39))), (1, .inr (.inl v1_13)), (3, .inl v3_13)], [], sh, gc_h sh I22 J23 A)
        refine gv_run 1 true hD (pc' := 92) (lv' := [(0, .inr (.inr (some 39))), (1, .inr (.inl v1_13)), (3, .inl v3_13)]) (st' := [.inr (.inr (some 39))]) (h' := gc_h sh I22 J23 A) (C := (True ∧ True)) rfl ⟨trivial, trivial⟩ ?_
        refine gv_get hD rfl rfl S_39 ⟨by decide, B_39⟩ (gc_hA S_39 rfl A_39_0) ?_
        show gv_X _ _ (95, [(0, .inr (.inr (some 39))), (1, .inr (.inl v1_13)), (3, .inl v3_13)], [.inr (.inr (some 1))], sh, gc_h sh I22 J23 A)
        refine gv_run 1 true hD (pc' := 96) (lv' := [(0, .inr (.inr (some 39))), (1, .inr (.inl v1_13)), (3, .inl v3_13)]) (st' := [.inl v3_13, .inr (.inr (some 1))]) (h' := gc_h sh I22 J23 A) (C := (True ∧ True)) rfl ⟨trivial, trivial⟩ ?_
        refine gv_put hD rfl rfl S_1 ⟨by decide, B_1⟩ rfl trivial ?_
        refine gc_st (k := 5) hI22 S_1 rfl R_1 (lo := (-1)) (hi := 7) rfl rfl (by omega) (by omega) (fun I33 hI33 q34 p34 => ?_)
        have FI33 := gc_frs (W := fun q j => (q = 39 ∧ j = 3) ∨ (q = 39 ∧ j = 4) ∨ (q = 23 ∧ j = 5) ∨ (q = 23 ∧ j = 6) ∨ (q = 23 ∧ j = 7) ∨ (q = 23 ∧ j = 8) ∨ (q = 1 ∧ j = 5)) FI22 (Or.inr (Or.inr (Or.inr (Or.inr (Or.inr (Or.inr ⟨rfl, rfl⟩)))))) p34
        have t35 := p34 23 1 (fun h => absurd h.2 (by decide))
        have t36 := p34 23 5 (fun h => absurd h.1 (by decide))
        have t37 := p34 23 6 (fun h => absurd h.2 (by decide))
        have t38 := p34 23 7 (fun h => absurd h.2 (by decide))
        have t39 := p34 8 1 (fun h => absurd h.2 (by decide))
        have f40 := (show (-1) ≤ I33 1 5 ∧ I33 1 5 ≤ 7 from gc_in hI33 R_1 rfl rfl)
        have KLT_I33 := gc_LT_fr KLT_I22 (p34 23 5 (fun h => absurd h.1 (by decide))) (p34 23 6 (fun h => absurd h.2 (by decide))) (p34 23 7 (fun h => absurd h.2 (by decide))) (fun k => p34 24 k (fun h => absurd h.1 (by decide)))
        have KTK_I33 := gc_TK_fr KTK_I22 (p34 23 1 (fun h => absurd h.2 (by decide))) (p34 23 5 (fun h => absurd h.1 (by decide))) (p34 23 6 (fun h => absurd h.2 (by decide))) (p34 23 7 (fun h => absurd h.2 (by decide)))
        show gv_X _ _ (99, [(0, .inr (.inr (some 39))), (1, .inr (.inl v1_13)), (3, .inl v3_13)], [], sh, gc_h sh I33 J23 A)
        refine gv_run 1 true hD (pc' := 100) (lv' := [(0, .inr (.inr (some 39))), (1, .inr (.inl v1_13)), (3, .inl v3_13)]) (st' := [.inl 1]) (h' := gc_h sh I33 J23 A) (C := (True ∧ True)) rfl ⟨trivial, trivial⟩ ?_
        exact gv_Xm hQ (gv_zret hD rfl (by omega) ⟨I33, J23, rfl, hI33, FI33, FJ23, KLT_I33, KTK_I33, ⟨_, rfl, by omega⟩⟩)
      · show gv_X _ _ (72, [(0, .inr (.inr (some 39))), (1, .inr (.inl v1_13)), (3, .inl v3_13)], [], sh, gc_h sh I22 J23 A)
        refine gv_run 1 true hD (pc' := 73) (lv' := [(0, .inr (.inr (some 39))), (1, .inr (.inl v1_13)), (3, .inl v3_13)]) (st' := [.inr (.inr (some 39))]) (h' := gc_h sh I22 J23 A) (C := (True ∧ True)) rfl ⟨trivial, trivial⟩ ?_
        refine gv_get hD rfl rfl S_39 ⟨by decide, B_39⟩ (gc_hA S_39 rfl A_39_0) ?_
        show gv_X _ _ (76, [(0, .inr (.inr (some 39))), (1, .inr (.inl v1_13)), (3, .inl v3_13)], [.inr (.inr (some 1))], sh, gc_h sh I22 J23 A)
        refine gv_get hD rfl rfl S_1 ⟨by decide, B_1⟩ (gc_hA S_1 rfl A_1_3) ?_
        show gv_X _ _ (79, [(0, .inr (.inr (some 39))), (1, .inr (.inl v1_13)), (3, .inl v3_13)], [.inr (.inr (some 8))], sh, gc_h sh I22 J23 A)
        have f41 := (show 0 ≤ I22 8 1 ∧ I22 8 1 ≤ 8 from gc_in hI22 R_8 rfl rfl)
        refine gv_get hD rfl rfl S_8 ⟨by decide, B_8⟩ (gc_hI S_8 rfl) ?_
        show gv_X _ _ (82, [(0, .inr (.inr (some 39))), (1, .inr (.inl v1_13)), (3, .inl v3_13)], [.inl (I22 8 1)], sh, gc_h sh I22 J23 A)
        refine gv_run 2 true hD (pc' := 84) (lv' := [(3, .inl (I22 8 1)), (0, .inr (.inr (some 39))), (1, .inr (.inl v1_13))]) (st' := [.inr (.inr (some 39))]) (h' := gc_h sh I22 J23 A) (C := ((True ∧ True) ∧ True)) rfl ⟨⟨trivial, trivial⟩, trivial⟩ ?_
        refine gv_get hD rfl rfl S_39 ⟨by decide, B_39⟩ (gc_hA S_39 rfl A_39_0) ?_
        show gv_X _ _ (87, [(3, .inl (I22 8 1)), (0, .inr (.inr (some 39))), (1, .inr (.inl v1_13))], [.inr (.inr (some 1))], sh, gc_h sh I22 J23 A)
        refine gv_run 1 true hD (pc' := 88) (lv' := [(3, .inl (I22 8 1)), (0, .inr (.inr (some 39))), (1, .inr (.inl v1_13))]) (st' := [.inr (.inl v1_13), .inr (.inr (some 1))]) (h' := gc_h sh I22 J23 A) (C := (True ∧ True)) rfl ⟨trivial, trivial⟩ ?_
        refine gv_pick [1, 2, 0] rfl ?_
        exact L88 I22 J23 v1_13 (I22 8 1) v1_13 hI22 FI22 FJ23 KLT_I22 KTK_I22 (by omega)
    · show gv_X _ _ (66, [(0, .inr (.inr (some 39))), (1, .inr (.inl v1_13)), (3, .inl v3_13)], [], sh, gc_h sh I22 J23 A)
      refine gv_run 1 true hD (pc' := 67) (lv' := [(0, .inr (.inr (some 39))), (1, .inr (.inl v1_13)), (3, .inl v3_13)]) (st' := [.inl 0]) (h' := gc_h sh I22 J23 A) (C := (True ∧ True)) rfl ⟨trivial, trivial⟩ ?_
      exact gv_Xm hQ (gv_zret hD rfl (by omega) ⟨I22, J23, rfl, hI22, FI22, FJ23, KLT_I22, KTK_I22, ⟨_, rfl, by omega⟩⟩)
  have L59 : ∀ (I42 : gr_I) (J43 : gr_J) (v1_44 : Int64) (v3_44 : Int), gc_Inv ro I42 → (∀ q j : Nat, ((q = 39 ∧ j = 3) ∨ (q = 39 ∧ j = 4) ∨ (q = 23 ∧ j = 5) ∨ (q = 23 ∧ j = 6) ∨ (q = 23 ∧ j = 7) ∨ (q = 23 ∧ j = 8) ∨ (q = 1 ∧ j = 5)) ∨ I42 q j = I q j) → (∀ q j : Nat, ((q = 23 ∧ j = 9)) ∨ J43 q j = J q j) → gc_LT I42 → gc_TK I42 → (((-1) ≤ v3_44 ∧ v3_44 ≤ 8) ∧ (v3_44 < I 8 1) ∧ (I42 1 5 = I 1 5) ∧ (0 ≤ v3_44 ∨ I 8 1 < 8) ∧ (I42 23 1 = I 23 1) ∧ (I 23 5 ≤ I42 23 5) ∧ (I42 8 1 = I 8 1)) → gv_X (gc_E6 ws0 tb 9 (yX6_readTongue, cX6_readTongue, 4, (some .boolean)) kX6_readTongue) Q (59, [(0, .inr (.inr (some 39))), (1, .inr (.inl v1_44)), (3, .inl v3_44)], [.inr (.inr (some 39))], sh, gc_h sh I42 J43 A) := by
    intro I42 J43 v1_44 v3_44 hI42 FI42 FJ43 KLT_I42 KTK_I42 m_44
    obtain ⟨hv3_44, e0_44, e1_44, e2_44, e3_44, e4_44, e5_44⟩ := m_44
    have t45 := gc_TK_mo KTK_I42
    have f46 := (show 0 ≤ I42 23 1 ∧ I42 23 1 ≤ 1000 from gc_in hI42 R_23 rfl rfl)
    have f47 := (show 0 ≤ I42 23 5 ∧ I42 23 5 ≤ 1000 from gc_in hI42 R_23 rfl rfl)
    have f48 := (show 0 ≤ I42 23 6 ∧ I42 23 6 ≤ 1001 from gc_in hI42 R_23 rfl rfl)
    have f49 := (show 0 ≤ I42 23 7 ∧ I42 23 7 ≤ 125 from gc_in hI42 R_23 rfl rfl)
    have f50 := (show 0 ≤ I42 8 1 ∧ I42 8 1 ≤ 8 from gc_in hI42 R_8 rfl rfl)
    have f51 := (show (-1) ≤ I42 1 5 ∧ I42 1 5 ≤ 7 from gc_in hI42 R_1 rfl rfl)
    refine gv_run 1 true hD (pc' := 60) (lv' := [(0, .inr (.inr (some 39))), (1, .inr (.inl v1_44)), (3, .inl v3_44)]) (st' := [.inl 0, .inr (.inr (some 39))]) (h' := gc_h sh I42 J43 A) (C := (True ∧ True)) rfl ⟨trivial, trivial⟩ ?_
    exact L60 I42 J43 v1_44 v3_44 0 hI42 FI42 FJ43 KLT_I42 KTK_I42 (by omega)
  refine gv_run 2 true hD (pc' := 2) (lv' := [(0, .inr (.inr (some 39)))]) (st' := [.inl 1, .inr (.inr (some 39))]) (h' := gc_h sh I J A) (C := ((True ∧ True) ∧ True)) rfl ⟨⟨trivial, trivial⟩, trivial⟩ ?_
  obtain ⟨r52, h52, E52, P52⟩ := d_X6_need (ws0 := ws0) (tb := tb) hws htb sh ro I J A hI  1 hb   ⟨by omega, by omega⟩  
  obtain ⟨I53, J54, rfl, hI53, g52, k52, ⟨z52, rfl, q52⟩⟩ := P52
  have FI53 := gc_frc (W := fun q j => (q = 39 ∧ j = 3) ∨ (q = 39 ∧ j = 4) ∨ (q = 23 ∧ j = 5) ∨ (q = 23 ∧ j = 6) ∨ (q = 23 ∧ j = 7) ∨ (q = 23 ∧ j = 8) ∨ (q = 1 ∧ j = 5)) (V := fun q j => (q = 39 ∧ j = 3) ∨ (q = 39 ∧ j = 4)) FI (fun q j h => (h.elim (fun h => (Or.inl h)) (fun h => (Or.inr (Or.inl h))))) g52
  have t55 := (g52 23 1).resolve_left (fun h => h.elim (fun h => absurd h.2 (by decide)) (fun h => absurd h.2 (by decide)))
  have t56 := (g52 23 5).resolve_left (fun h => h.elim (fun h => absurd h.2 (by decide)) (fun h => absurd h.2 (by decide)))
  have t57 := (g52 23 6).resolve_left (fun h => h.elim (fun h => absurd h.2 (by decide)) (fun h => absurd h.2 (by decide)))
  have t58 := (g52 23 7).resolve_left (fun h => h.elim (fun h => absurd h.2 (by decide)) (fun h => absurd h.2 (by decide)))
  have t59 := (g52 8 1).resolve_left (fun h => h.elim (fun h => absurd h.2 (by decide)) (fun h => absurd h.2 (by decide)))
  have t60 := (g52 1 5).resolve_left (fun h => h.elim (fun h => absurd h.2 (by decide)) (fun h => absurd h.2 (by decide)))
  obtain rfl : J = J54 := funext fun q => funext fun j => ((k52 q j).resolve_left id).symm
  have KLT_I53 := gc_LT_fr KLT_I ((g52 23 5).resolve_left (fun h => h.elim (fun h => absurd h.2 (by decide)) (fun h => absurd h.2 (by decide)))) ((g52 23 6).resolve_left (fun h => h.elim (fun h => absurd h.2 (by decide)) (fun h => absurd h.2 (by decide)))) ((g52 23 7).resolve_left (fun h => h.elim (fun h => absurd h.2 (by decide)) (fun h => absurd h.2 (by decide)))) (fun k => (g52 24 k).resolve_left (fun h => h.elim (fun h => absurd h.1 (by decide)) (fun h => absurd h.1 (by decide))))
  have KTK_I53 := gc_TK_fr KTK_I ((g52 23 1).resolve_left (fun h => h.elim (fun h => absurd h.2 (by decide)) (fun h => absurd h.2 (by decide)))) ((g52 23 5).resolve_left (fun h => h.elim (fun h => absurd h.2 (by decide)) (fun h => absurd h.2 (by decide)))) ((g52 23 6).resolve_left (fun h => h.elim (fun h => absurd h.2 (by decide)) (fun h => absurd h.2 (by decide)))) ((g52 23 7).resolve_left (fun h => h.elim (fun h => absurd h.2 (by decide)) (fun h => absurd h.2 (by decide))))
  refine gv_callV hD rfl (As := [.inl 1]) (st := []) rfl B_39 S_39 rfl (gc_lV6 hws rfl) (Nat.le_of_ble_eq_true rfl) (gz_Ev_mono (d := 2) (by decide) E52) ?_
  show gv_X _ _ (5, [(0, .inr (.inr (some 39)))], [.inl z52], sh, gc_h sh I53 J A)
  refine gv_if_ne (t := 10) hD rfl rfl ⟨by omega, by omega⟩ (fun c61 => ?_) (fun c61 => ?_)
  · show gv_X _ _ (10, [(0, .inr (.inr (some 39)))], [], sh, gc_h sh I53 J A)
    refine gv_run 1 true hD (pc' := 11) (lv' := [(0, .inr (.inr (some 39)))]) (st' := [.inr (.inr (some 39))]) (h' := gc_h sh I53 J A) (C := (True ∧ True)) rfl ⟨trivial, trivial⟩ ?_
    refine gv_get hD rfl rfl S_39 ⟨by decide, B_39⟩ (gc_hA S_39 rfl A_39_1) ?_
    show gv_X _ _ (14, [(0, .inr (.inr (some 39)))], [.inr (.inr (some 23))], sh, gc_h sh I53 J A)
    refine gv_get hD rfl rfl S_23 ⟨by decide, B_23⟩ (gc_hJ S_23 rfl) ?_
    show gv_X _ _ (17, [(0, .inr (.inr (some 39)))], [.inr (.inl (J 23 9))], sh, gc_h sh I53 J A)
    refine gv_run 2 true hD (pc' := 19) (lv' := [(1, .inr (.inl (J 23 9))), (0, .inr (.inr (some 39)))]) (st' := [.inr (.inr (some 39))]) (h' := gc_h sh I53 J A) (C := ((True ∧ True) ∧ True)) rfl ⟨⟨trivial, trivial⟩, trivial⟩ ?_
    refine gv_get hD rfl rfl S_39 ⟨by decide, B_39⟩ (gc_hA S_39 rfl A_39_0) ?_
    show gv_X _ _ (22, [(1, .inr (.inl (J 23 9))), (0, .inr (.inr (some 39)))], [.inr (.inr (some 1))], sh, gc_h sh I53 J A)
    refine gv_get hD rfl rfl S_1 ⟨by decide, B_1⟩ (gc_hA S_1 rfl A_1_3) ?_
    show gv_X _ _ (25, [(1, .inr (.inl (J 23 9))), (0, .inr (.inr (some 39)))], [.inr (.inr (some 8))], sh, gc_h sh I53 J A)
    refine gv_run 1 true hD (pc' := 26) (lv' := [(1, .inr (.inl (J 23 9))), (0, .inr (.inr (some 39)))]) (st' := [.inr (.inl (J 23 9)), .inr (.inr (some 8))]) (h' := gc_h sh I53 J A) (C := (True ∧ True)) rfl ⟨trivial, trivial⟩ ?_
    obtain ⟨r62, h62, E62, P62⟩ := d_X4_find (ws0 := ws0) (tb := tb) hws htb sh ro I53 J A hI53 8 8 6 (J 23 9) (gc_b8 hb)     
    obtain ⟨rfl, ⟨z62, rfl, q62⟩⟩ := P62
    refine gv_callV hD rfl (As := [.inr (.inl (J 23 9))]) (st := []) rfl B_8 S_8 rfl (gc_lV6 hws rfl) (Nat.le_of_ble_eq_true rfl) (gz_Ev_mono (d := 1) (by decide) E62) ?_
    show gv_X _ _ (29, [(1, .inr (.inl (J 23 9))), (0, .inr (.inr (some 39)))], [.inl z62], sh, gc_h sh I53 J A)
    refine gv_run 2 true hD (pc' := 31) (lv' := [(3, .inl z62), (1, .inr (.inl (J 23 9))), (0, .inr (.inr (some 39)))]) (st' := [.inr (.inr (some 39))]) (h' := gc_h sh I53 J A) (C := ((True ∧ True) ∧ True)) rfl ⟨⟨trivial, trivial⟩, trivial⟩ ?_
    refine gv_get hD rfl rfl S_39 ⟨by decide, B_39⟩ (gc_hA S_39 rfl A_39_1) ?_
    show gv_X _ _ (34, [(3, .inl z62), (1, .inr (.inl (J 23 9))), (0, .inr (.inr (some 39)))], [.inr (.inr (some 23))], sh, gc_h sh I53 J A)
    have t64 := gc_TK_nx KTK_I53 (by omega)
    obtain ⟨r63, h63, E63, P63⟩ := d_X9_advance (ws0 := ws0) (tb := tb) hws htb sh ro I53 J A hI53 23  (gc_b23 hb)    (by omega) 
    obtain ⟨I65, J66, rfl, hI65, g63, k63, ⟨rfl, V63_0, V63_1, V63_2, V63_3, V63_4, q63⟩⟩ := P63
    have FI65 := gc_frc (W := fun q j => (q = 39 ∧ j = 3) ∨ (q = 39 ∧ j = 4) ∨ (q = 23 ∧ j = 5) ∨ (q = 23 ∧ j = 6) ∨ (q = 23 ∧ j = 7) ∨ (q = 23 ∧ j = 8) ∨ (q = 1 ∧ j = 5)) (V := fun q j => (q = 23 ∧ j = 5) ∨ (q = 23 ∧ j = 6) ∨ (q = 23 ∧ j = 7) ∨ (q = 23 ∧ j = 8)) FI53 (fun q j h => (h.elim (fun h => (Or.inr (Or.inr (Or.inl h)))) (fun h => (h.elim (fun h => (Or.inr (Or.inr (Or.inr (Or.inl h))))) (fun h => (h.elim (fun h => (Or.inr (Or.inr (Or.inr (Or.inr (Or.inl h)))))) (fun h => (Or.inr (Or.inr (Or.inr (Or.inr (Or.inr (Or.inl h))))))))))))) g63
    have FJ66 := gc_frc (W := fun q j => (q = 23 ∧ j = 9)) (V := fun q j => (q = 23 ∧ j = 9)) FJ (fun q j h => h) k63
    have t67 := (g63 23 1).resolve_left (fun h => h.elim (fun h => absurd h.2 (by decide)) (fun h => h.elim (fun h => absurd h.2 (by decide)) (fun h => h.elim (fun h => absurd h.2 (by decide)) (fun h => absurd h.2 (by decide)))))
    have t68 := (g63 8 1).resolve_left (fun h => h.elim (fun h => absurd h.2 (by decide)) (fun h => h.elim (fun h => absurd h.2 (by decide)) (fun h => h.elim (fun h => absurd h.2 (by decide)) (fun h => absurd h.2 (by decide)))))
    have t69 := (g63 1 5).resolve_left (fun h => h.elim (fun h => absurd h.1 (by decide)) (fun h => h.elim (fun h => absurd h.2 (by decide)) (fun h => h.elim (fun h => absurd h.2 (by decide)) (fun h => absurd h.2 (by decide)))))
    have f70 := (show 0 ≤ I65 23 5 ∧ I65 23 5 ≤ 1000 from gc_in hI65 R_23 rfl rfl)
    have f71 := (show 0 ≤ I65 23 6 ∧ I65 23 6 ≤ 1001 from gc_in hI65 R_23 rfl rfl)
    have f72 := (show 0 ≤ I65 23 7 ∧ I65 23 7 ≤ 125 from gc_in hI65 R_23 rfl rfl)
    have KLT_I65 : gc_LT I65 := q63.2.2
    have KTK_I65 : gc_TK I65 := And.intro V63_0 (And.intro V63_1 (And.intro V63_2 (And.intro V63_3 V63_4)))
    have t73 := gc_TK_mo KTK_I65
    clear V63_0 V63_1 V63_2 V63_3 V63_4
    refine gv_callV hD rfl (As := []) (st := []) rfl B_23 S_23 rfl (gc_lV6 hws rfl) (Nat.le_of_ble_eq_true rfl) (gz_Ev_mono (d := 2) (by decide) E63) ?_
    show gv_X _ _ (37, [(3, .inl z62), (1, .inr (.inl (J 23 9))), (0, .inr (.inr (some 39)))], [], sh, gc_h sh I65 J66 A)
    refine gv_run 2 true hD (pc' := 39) (lv' := [(3, .inl z62), (1, .inr (.inl (J 23 9))), (0, .inr (.inr (some 39)))]) (st' := [.inl z62, .inr (.inr (some 39))]) (h' := gc_h sh I65 J66 A) (C := ((True ∧ True) ∧ True)) rfl ⟨⟨trivial, trivial⟩, trivial⟩ ?_
    refine gv_if_ge (t := 59) hD rfl rfl ⟨by omega, by omega⟩ (fun c74 => ?_) (fun c74 => ?_)
    · show gv_X _ _ (59, [(3, .inl z62), (1, .inr (.inl (J 23 9))), (0, .inr (.inr (some 39)))], [.inr (.inr (some 39))], sh, gc_h sh I65 J66 A)
      refine gv_pick [2, 1, 0] rfl ?_
      exact L59 I65 J66 (J 23 9) z62 hI65 FI65 FJ66 KLT_I65 KTK_I65 (by omega)
    · show gv_X _ _ (42, [(3, .inl z62), (1, .inr (.inl (J 23 9))), (0, .inr (.inr (some 39)))], [.inr (.inr (some 39))], sh, gc_h sh I65 J66 A)
      refine gv_run 1 true hD (pc' := 43) (lv' := [(3, .inl z62), (1, .inr (.inl (J 23 9))), (0, .inr (.inr (some 39)))]) (st' := [.inr (.inr (some 39)), .inr (.inr (some 39))]) (h' := gc_h sh I65 J66 A) (C := (True ∧ True)) rfl ⟨trivial, trivial⟩ ?_
      refine gv_get hD rfl rfl S_39 ⟨by decide, B_39⟩ (gc_hA S_39 rfl A_39_0) ?_
      show gv_X _ _ (46, [(3, .inl z62), (1, .inr (.inl (J 23 9))), (0, .inr (.inr (some 39)))], [.inr (.inr (some 1)), .inr (.inr (some 39))], sh, gc_h sh I65 J66 A)
      refine gv_get hD rfl rfl S_1 ⟨by decide, B_1⟩ (gc_hA S_1 rfl A_1_3) ?_
      show gv_X _ _ (49, [(3, .inl z62), (1, .inr (.inl (J 23 9))), (0, .inr (.inr (some 39)))], [.inr (.inr (some 8)), .inr (.inr (some 39))], sh, gc_h sh I65 J66 A)
      obtain ⟨r75, h75, E75, P75⟩ := d_X4_isFull (ws0 := ws0) (tb := tb) hws htb sh ro I65 J66 A hI65 8 8 6  (gc_b8 hb)     
      obtain ⟨rfl, ⟨z75, rfl, q75⟩⟩ := P75
      refine gv_callV hD rfl (As := []) (st := [.inr (.inr (some 39))]) rfl B_8 S_8 rfl (gc_lV6 hws rfl) (Nat.le_of_ble_eq_true rfl) (gz_Ev_mono (d := 1) (by decide) E75) ?_
      show gv_X _ _ (52, [(3, .inl z62), (1, .inr (.inl (J 23 9))), (0, .inr (.inr (some 39)))], [.inl z75, .inr (.inr (some 39))], sh, gc_h sh I65 J66 A)
      refine gv_if_eq (t := 59) hD rfl rfl ⟨by omega, by omega⟩ (fun c76 => ?_) (fun c76 => ?_)
      · show gv_X _ _ (59, [(3, .inl z62), (1, .inr (.inl (J 23 9))), (0, .inr (.inr (some 39)))], [.inr (.inr (some 39))], sh, gc_h sh I65 J66 A)
        refine gv_pick [2, 1, 0] rfl ?_
        exact L59 I65 J66 (J 23 9) z62 hI65 FI65 FJ66 KLT_I65 KTK_I65 (by omega)
      · show gv_X _ _ (55, [(3, .inl z62), (1, .inr (.inl (J 23 9))), (0, .inr (.inr (some 39)))], [.inr (.inr (some 39))], sh, gc_h sh I65 J66 A)
        refine gv_run 2 true hD (pc' := 60) (lv' := [(3, .inl z62), (1, .inr (.inl (J 23 9))), (0, .inr (.inr (some 39)))]) (st' := [.inl 1, .inr (.inr (some 39))]) (h' := gc_h sh I65 J66 A) (C := ((True ∧ True) ∧ True)) rfl ⟨⟨trivial, trivial⟩, trivial⟩ ?_
        refine gv_pick [2, 1, 0] rfl ?_
        exact L60 I65 J66 (J 23 9) z62 1 hI65 FI65 FJ66 KLT_I65 KTK_I65 (by omega)
  · show gv_X _ _ (8, [(0, .inr (.inr (some 39)))], [], sh, gc_h sh I53 J A)
    refine gv_run 1 true hD (pc' := 9) (lv' := [(0, .inr (.inr (some 39)))]) (st' := [.inl 0]) (h' := gc_h sh I53 J A) (C := (True ∧ True)) rfl ⟨trivial, trivial⟩ ?_
    exact gv_Xm hQ (gv_zret hD rfl (by omega) ⟨I53, J, rfl, hI53, FI53, FJ, KLT_I53, KTK_I53, ⟨_, rfl, by omega⟩⟩)
set_option maxHeartbeats 4000000 in
set_option maxRecDepth 100000 in
theorem d_X6_readStatement_h {ws0 : List Cond} {tb : String → gz_T} (hws : gc_Ws ws0) (htb : gc_tbs tb) (sh : gz_Sh) (ro : Nat → Nat) (I : gr_I) (J : gr_J) (A : gc_A) (hI : gc_Inv ro I)  (hb : gc_Base sh ro A)  (KLT_I : gc_LT I) (KTK_I : gc_TK I) {Q : gz_S → Prop} (hQ : ∀ v, gv_Q cX6_readStatement (some .boolean) sh (fun r h' => (∃ (I' : gr_I) (J' : gr_J), h' = gc_h sh I' J' A ∧ gc_Inv ro I' ∧ (∀ q j : Nat, ((q = 39 ∧ j = 3) ∨ (q = 39 ∧ j = 4) ∨ (q = 23 ∧ j = 5) ∨ (q = 23 ∧ j = 6) ∨ (q = 23 ∧ j = 7) ∨ (q = 23 ∧ j = 8) ∨ (q = 39 ∧ j = 5)) ∨ I' q j = I q j) ∧ (∀ q j : Nat, ((q = 23 ∧ j = 9)) ∨ J' q j = J q j) ∧ gc_LT I' ∧ gc_TK I' ∧ (∃ z : Int, r = some (.inl z) ∧ 0 ≤ z ∧ z ≤ 1 ∧ (I' 23 1 = I 23 1) ∧ (I 23 5 ≤ I' 23 5) ∧ (z = 0)))) v → Q v) (L47 : ∀ (I6 : gr_I) (J7 : gr_J) (v1_8 : Int64), gc_Inv ro I6 → (∀ q j : Nat, ((q = 39 ∧ j = 3) ∨ (q = 39 ∧ j = 4) ∨ (q = 23 ∧ j = 5) ∨ (q = 23 ∧ j = 6) ∨ (q = 23 ∧ j = 7) ∨ (q = 23 ∧ j = 8) ∨ (q = 39 ∧ j = 5)) ∨ I6 q j = I q j) → (∀ q j : Nat, ((q = 23 ∧ j = 9)) ∨ J7 q j = J q j) → gc_LT I6 → gc_TK I6 → ((I 23 5 < I6 23 5) ∧ (I6 23 1 = I 23 1) ∧ (I 23 5 ≤ I6 23 5)) → gv_X (gc_E6 ws0 tb 91 (yX6_readStatement, cX6_readStatement, 4, (some .boolean)) kX6_readStatement) Q (47, [(0, .inr (.inr (some 39))), (1, .inr (.inl v1_8))], [], sh, gc_h sh I6 J7 A)) : gv_X (gc_E6 ws0 tb 91 (yX6_readStatement, cX6_readStatement, 4, (some .boolean)) kX6_readStatement) Q (0, [(0, .inr (.inr (some 39)))], [], sh, gc_h sh I J A) := by
  have FI : ∀ q j : Nat, ((q = 39 ∧ j = 3) ∨ (q = 39 ∧ j = 4) ∨ (q = 23 ∧ j = 5) ∨ (q = 23 ∧ j = 6) ∨ (q = 23 ∧ j = 7) ∨ (q = 23 ∧ j = 8) ∨ (q = 39 ∧ j = 5)) ∨ I q j = I q j := fun _ _ => Or.inr rfl
  have FJ : ∀ q j : Nat, ((q = 23 ∧ j = 9)) ∨ J q j = J q j := fun _ _ => Or.inr rfl
  have A_39_1 : A 39 1 = some 23 := gc_bA hb rfl
  have B_23 : 23 < 1000000 := by decide
  have B_39 : 39 < 1000000 := by decide
  have R_23 : ro 23 = 3 := gc_bR hb (by decide) rfl
  have R_39 : ro 39 = 42 := gc_bR hb (by decide) rfl
  have S_23 : sh[23]? = some (false, 9, 10) := gc_bS hb rfl
  have S_39 : sh[39]? = some (false, 6, 19) := gc_bS hb rfl
  have hD : gv_D (gc_E6 ws0 tb 91 (yX6_readStatement, cX6_readStatement, 4, (some .boolean)) kX6_readStatement) := gq_ok oX6_readStatement
  have t1 := gc_TK_mo KTK_I
  have f2 := (show 0 ≤ I 23 1 ∧ I 23 1 ≤ 1000 from gc_in hI R_23 rfl rfl)
  have f3 := (show 0 ≤ I 23 5 ∧ I 23 5 ≤ 1000 from gc_in hI R_23 rfl rfl)
  have f4 := (show 0 ≤ I 23 6 ∧ I 23 6 ≤ 1001 from gc_in hI R_23 rfl rfl)
  have f5 := (show 0 ≤ I 23 7 ∧ I 23 7 ≤ 125 from gc_in hI R_23 rfl rfl)
  refine gv_run 2 true hD (pc' := 2) (lv' := [(0, .inr (.inr (some 39)))]) (st' := [.inr (.inr (some 39)), .inr (.inr (some 39))]) (h' := gc_h sh I J A) (C := ((True ∧ True) ∧ True)) rfl ⟨⟨trivial, trivial⟩, trivial⟩ ?_
  refine gv_get hD rfl rfl S_39 ⟨by decide, B_39⟩ (gc_hA S_39 rfl A_39_1) ?_
  show gv_X _ _ (5, [(0, .inr (.inr (some 39)))], [.inr (.inr (some 23)), .inr (.inr (some 39))], sh, gc_h sh I J A)
  have f9 := (show 0 ≤ I 23 5 ∧ I 23 5 ≤ 1000 from gc_in hI R_23 rfl rfl)
  refine gv_get hD rfl rfl S_23 ⟨by decide, B_23⟩ (gc_hI S_23 rfl) ?_
  show gv_X _ _ (8, [(0, .inr (.inr (some 39)))], [.inl (I 23 5), .inr (.inr (some 39))], sh, gc_h sh I J A)
  refine gv_put hD rfl rfl S_39 ⟨by decide, B_39⟩ rfl trivial ?_
  refine gc_st (k := 5) hI S_39 rfl R_39 (lo := 0) (hi := 1000) rfl rfl (by omega) (by omega) (fun I10 hI10 q11 p11 => ?_)
  have FI10 := gc_frs (W := fun q j => (q = 39 ∧ j = 3) ∨ (q = 39 ∧ j = 4) ∨ (q = 23 ∧ j = 5) ∨ (q = 23 ∧ j = 6) ∨ (q = 23 ∧ j = 7) ∨ (q = 23 ∧ j = 8) ∨ (q = 39 ∧ j = 5)) FI (Or.inr (Or.inr (Or.inr (Or.inr (Or.inr (Or.inr ⟨rfl, rfl⟩)))))) p11
  have t12 := p11 23 1 (fun h => absurd h.2 (by decide))
  have t13 := p11 23 5 (fun h => absurd h.1 (by decide))
  have t14 := p11 23 6 (fun h => absurd h.2 (by decide))
  have t15 := p11 23 7 (fun h => absurd h.2 (by decide))
  have KLT_I10 := gc_LT_fr KLT_I (p11 23 5 (fun h => absurd h.1 (by decide))) (p11 23 6 (fun h => absurd h.2 (by decide))) (p11 23 7 (fun h => absurd h.2 (by decide))) (fun k => p11 24 k (fun h => absurd h.1 (by decide)))
  have KTK_I10 := gc_TK_fr KTK_I (p11 23 1 (fun h => absurd h.2 (by decide))) (p11 23 5 (fun h => absurd h.1 (by decide))) (p11 23 6 (fun h => absurd h.2 (by decide))) (p11 23 7 (fun h => absurd h.2 (by decide)))
  show gv_X _ _ (11, [(0, .inr (.inr (some 39)))], [], sh, gc_h sh I10 J A)
  refine gv_run 1 true hD (pc' := 12) (lv' := [(0, .inr (.inr (some 39)))]) (st' := [.inr (.inr (some 39))]) (h' := gc_h sh I10 J A) (C := (True ∧ True)) rfl ⟨trivial, trivial⟩ ?_
  refine gv_get hD rfl rfl S_39 ⟨by decide, B_39⟩ (gc_hA S_39 rfl A_39_1) ?_
  show gv_X _ _ (15, [(0, .inr (.inr (some 39)))], [.inr (.inr (some 23))], sh, gc_h sh I10 J A)
  have f16 := (show 0 ≤ I10 23 7 ∧ I10 23 7 ≤ 125 from gc_in hI10 R_23 rfl rfl)
  refine gv_get hD rfl rfl S_23 ⟨by decide, B_23⟩ (gc_hI S_23 rfl) ?_
  show gv_X _ _ (18, [(0, .inr (.inr (some 39)))], [.inl (I10 23 7)], sh, gc_h sh I10 J A)
  refine gv_run 1 true hD (pc' := 19) (lv' := [(0, .inr (.inr (some 39)))]) (st' := [.inl 1, .inl (I10 23 7)]) (h' := gc_h sh I10 J A) (C := (True ∧ True)) rfl ⟨trivial, trivial⟩ ?_
  refine gv_icmp_eq (t := 32) hD rfl rfl ⟨⟨by omega, by omega⟩, ⟨by omega, by omega⟩⟩ (fun c17 => ?_) (fun c17 => ?_)
  · show gv_X _ _ (32, [(0, .inr (.inr (some 39)))], [], sh, gc_h sh I10 J A)
    refine gv_run 1 true hD (pc' := 33) (lv' := [(0, .inr (.inr (some 39)))]) (st' := [.inr (.inr (some 39))]) (h' := gc_h sh I10 J A) (C := (True ∧ True)) rfl ⟨trivial, trivial⟩ ?_
    refine gv_get hD rfl rfl S_39 ⟨by decide, B_39⟩ (gc_hA S_39 rfl A_39_1) ?_
    show gv_X _ _ (36, [(0, .inr (.inr (some 39)))], [.inr (.inr (some 23))], sh, gc_h sh I10 J A)
    refine gv_get hD rfl rfl S_23 ⟨by decide, B_23⟩ (gc_hJ S_23 rfl) ?_
    show gv_X _ _ (39, [(0, .inr (.inr (some 39)))], [.inr (.inl (J 23 9))], sh, gc_h sh I10 J A)
    refine gv_run 2 true hD (pc' := 41) (lv' := [(1, .inr (.inl (J 23 9))), (0, .inr (.inr (some 39)))]) (st' := [.inr (.inr (some 39))]) (h' := gc_h sh I10 J A) (C := ((True ∧ True) ∧ True)) rfl ⟨⟨trivial, trivial⟩, trivial⟩ ?_
    refine gv_get hD rfl rfl S_39 ⟨by decide, B_39⟩ (gc_hA S_39 rfl A_39_1) ?_
    show gv_X _ _ (44, [(1, .inr (.inl (J 23 9))), (0, .inr (.inr (some 39)))], [.inr (.inr (some 23))], sh, gc_h sh I10 J A)
    have t19 := gc_TK_nx KTK_I10 (by omega)
    have t20 := gc_TK_st KTK_I10 (by omega)
    obtain ⟨r18, h18, E18, P18⟩ := d_X9_advance (ws0 := ws0) (tb := tb) hws htb sh ro I10 J A hI10 23  (gc_b23 hb)    (by omega) 
    obtain ⟨I21, J22, rfl, hI21, g18, k18, ⟨rfl, V18_0, V18_1, V18_2, V18_3, V18_4, q18⟩⟩ := P18
    have FI21 := gc_frc (W := fun q j => (q = 39 ∧ j = 3) ∨ (q = 39 ∧ j = 4) ∨ (q = 23 ∧ j = 5) ∨ (q = 23 ∧ j = 6) ∨ (q = 23 ∧ j = 7) ∨ (q = 23 ∧ j = 8) ∨ (q = 39 ∧ j = 5)) (V := fun q j => (q = 23 ∧ j = 5) ∨ (q = 23 ∧ j = 6) ∨ (q = 23 ∧ j = 7) ∨ (q = 23 ∧ j = 8)) FI10 (fun q j h => (h.elim (fun h => (Or.inr (Or.inr (Or.inl h)))) (fun h => (h.elim (fun h => (Or.inr (Or.inr (Or.inr (Or.inl h))))) (fun h => (h.elim (fun h => (Or.inr (Or.inr (Or.inr (Or.inr (Or.inl h)))))) (fun h => (Or.inr (Or.inr (Or.inr (Or.inr (Or.inr (Or.inl h))))))))))))) g18
    have FJ22 := gc_frc (W := fun q j => (q = 23 ∧ j = 9)) (V := fun q j => (q = 23 ∧ j = 9)) FJ (fun q j h => h) k18
    have t23 := (g18 23 1).resolve_left (fun h => h.elim (fun h => absurd h.2 (by decide)) (fun h => h.elim (fun h => absurd h.2 (by decide)) (fun h => h.elim (fun h => absurd h.2 (by decide)) (fun h => absurd h.2 (by decide)))))
    have f24 := (show 0 ≤ I21 23 5 ∧ I21 23 5 ≤ 1000 from gc_in hI21 R_23 rfl rfl)
    have f25 := (show 0 ≤ I21 23 6 ∧ I21 23 6 ≤ 1001 from gc_in hI21 R_23 rfl rfl)
    have f26 := (show 0 ≤ I21 23 7 ∧ I21 23 7 ≤ 125 from gc_in hI21 R_23 rfl rfl)
    have KLT_I21 : gc_LT I21 := q18.2.2
    have KTK_I21 : gc_TK I21 := And.intro V18_0 (And.intro V18_1 (And.intro V18_2 (And.intro V18_3 V18_4)))
    have t27 := gc_TK_mo KTK_I21
    clear V18_0 V18_1 V18_2 V18_3 V18_4
    refine gv_callV hD rfl (As := []) (st := []) rfl B_23 S_23 rfl (gc_lV6 hws rfl) (Nat.le_of_ble_eq_true rfl) (gz_Ev_mono (d := 2) (by decide) E18) ?_
    show gv_X _ _ (47, [(1, .inr (.inl (J 23 9))), (0, .inr (.inr (some 39)))], [], sh, gc_h sh I21 J22 A)
    refine gv_pick [1, 0] rfl ?_
    exact L47 I21 J22 (J 23 9) hI21 FI21 FJ22 KLT_I21 KTK_I21 (by omega)
  · show gv_X _ _ (22, [(0, .inr (.inr (some 39)))], [], sh, gc_h sh I10 J A)
    refine gv_run 3 true hD (pc' := 25) (lv' := [(0, .inr (.inr (some 39)))]) (st' := [.inr (.inr (some 39)), .inl 1, .inr (.inr (some 39))]) (h' := gc_h sh I10 J A) (C := (((True ∧ True) ∧ True) ∧ True)) rfl ⟨⟨⟨trivial, trivial⟩, trivial⟩, trivial⟩ ?_
    have f28 := (show 0 ≤ I10 39 5 ∧ I10 39 5 ≤ 1000 from gc_in hI10 R_39 rfl rfl)
    refine gv_get hD rfl rfl S_39 ⟨by decide, B_39⟩ (gc_hI S_39 rfl) ?_
    show gv_X _ _ (28, [(0, .inr (.inr (some 39)))], [.inl (I10 39 5), .inl 1, .inr (.inr (some 39))], sh, gc_h sh I10 J A)
    obtain ⟨r29, h29, E29, P29⟩ := d_X6_wrong (ws0 := ws0) (tb := tb) hws htb sh ro I10 J A hI10  1 (I10 39 5) hb   ⟨by omega, by omega⟩ ⟨by omega, by omega⟩  
    obtain ⟨I30, J31, rfl, hI30, g29, k29, ⟨z29, rfl, q29⟩⟩ := P29
    have FI30 := gc_frc (W := fun q j => (q = 39 ∧ j = 3) ∨ (q = 39 ∧ j = 4) ∨ (q = 23 ∧ j = 5) ∨ (q = 23 ∧ j = 6) ∨ (q = 23 ∧ j = 7) ∨ (q = 23 ∧ j = 8) ∨ (q = 39 ∧ j = 5)) (V := fun q j => (q = 39 ∧ j = 3) ∨ (q = 39 ∧ j = 4)) FI10 (fun q j h => (h.elim (fun h => (Or.inl h)) (fun h => (Or.inr (Or.inl h))))) g29
    have t32 := (g29 23 1).resolve_left (fun h => h.elim (fun h => absurd h.2 (by decide)) (fun h => absurd h.2 (by decide)))
    have t33 := (g29 23 5).resolve_left (fun h => h.elim (fun h => absurd h.2 (by decide)) (fun h => absurd h.2 (by decide)))
    have t34 := (g29 23 6).resolve_left (fun h => h.elim (fun h => absurd h.2 (by decide)) (fun h => absurd h.2 (by decide)))
    have t35 := (g29 23 7).resolve_left (fun h => h.elim (fun h => absurd h.2 (by decide)) (fun h => absurd h.2 (by decide)))
    obtain rfl : J = J31 := funext fun q => funext fun j => ((k29 q j).resolve_left id).symm
    have KLT_I30 := gc_LT_fr KLT_I10 ((g29 23 5).resolve_left (fun h => h.elim (fun h => absurd h.2 (by decide)) (fun h => absurd h.2 (by decide)))) ((g29 23 6).resolve_left (fun h => h.elim (fun h => absurd h.2 (by decide)) (fun h => absurd h.2 (by decide)))) ((g29 23 7).resolve_left (fun h => h.elim (fun h => absurd h.2 (by decide)) (fun h => absurd h.2 (by decide)))) (fun k => (g29 24 k).resolve_left (fun h => h.elim (fun h => absurd h.1 (by decide)) (fun h => absurd h.1 (by decide))))
    have KTK_I30 := gc_TK_fr KTK_I10 ((g29 23 1).resolve_left (fun h => h.elim (fun h => absurd h.2 (by decide)) (fun h => absurd h.2 (by decide)))) ((g29 23 5).resolve_left (fun h => h.elim (fun h => absurd h.2 (by decide)) (fun h => absurd h.2 (by decide)))) ((g29 23 6).resolve_left (fun h => h.elim (fun h => absurd h.2 (by decide)) (fun h => absurd h.2 (by decide)))) ((g29 23 7).resolve_left (fun h => h.elim (fun h => absurd h.2 (by decide)) (fun h => absurd h.2 (by decide))))
    refine gv_callV hD rfl (As := [.inl 1, .inl (I10 39 5)]) (st := []) rfl B_39 S_39 rfl (gc_lV6 hws rfl) (Nat.le_of_ble_eq_true rfl) (gz_Ev_mono (d := 1) (by decide) E29) ?_
    show gv_X _ _ (31, [(0, .inr (.inr (some 39)))], [.inl z29], sh, gc_h sh I30 J A)
    exact gv_Xm hQ (gv_zret hD rfl (by omega) ⟨I30, J, rfl, hI30, FI30, FJ, KLT_I30, KTK_I30, ⟨_, rfl, by omega⟩⟩)
set_option maxHeartbeats 4000000 in
set_option maxRecDepth 100000 in
theorem d_X6_readStatement_m {ws0 : List Cond} {tb : String → gz_T} (hws : gc_Ws ws0) (htb : gc_tbs tb) (sh : gz_Sh) (ro : Nat → Nat) (I : gr_I) (J : gr_J) (A : gc_A) (hI : gc_Inv ro I) (a1 : Int64) (hb : gc_Base sh ro A)  (KLT_I : gc_LT I) (KTK_I : gc_TK I) {Q : gz_S → Prop} (hQ : ∀ v, gv_Q cX6_readStatement (some .boolean) sh (fun r h' => (∃ (I' : gr_I) (J' : gr_J), h' = gc_h sh I' J' A ∧ gc_Inv ro I' ∧ (∀ q j : Nat, ((q = 39 ∧ j = 3) ∨ (q = 39 ∧ j = 4) ∨ (q = 23 ∧ j = 5) ∨ (q = 23 ∧ j = 6) ∨ (q = 23 ∧ j = 7) ∨ (q = 23 ∧ j = 8)) ∨ I' q j = I q j) ∧ (∀ q j : Nat, ((q = 23 ∧ j = 9)) ∨ J' q j = J q j) ∧ gc_LT I' ∧ gc_TK I' ∧ (∃ z : Int, r = some (.inl z) ∧ 0 ≤ z ∧ z ≤ 1 ∧ (I' 23 1 = I 23 1) ∧ (I 23 5 ≤ I' 23 5) ∧ (z = 0)))) v → Q v) (L207 : ((I 23 1 = I 23 1) ∧ (I 23 5 ≤ I 23 5)) → gv_X (gc_E6 ws0 tb 91 (yX6_readStatement, cX6_readStatement, 4, (some .boolean)) kX6_readStatement) Q (207, [(0, .inr (.inr (some 39))), (1, .inr (.inl a1))], [], sh, gc_h sh I J A)) : gv_X (gc_E6 ws0 tb 91 (yX6_readStatement, cX6_readStatement, 4, (some .boolean)) kX6_readStatement) Q (139, [(0, .inr (.inr (some 39))), (1, .inr (.inl a1))], [], sh, gc_h sh I J A) := by
  have FI : ∀ q j : Nat, ((q = 39 ∧ j = 3) ∨ (q = 39 ∧ j = 4) ∨ (q = 23 ∧ j = 5) ∨ (q = 23 ∧ j = 6) ∨ (q = 23 ∧ j = 7) ∨ (q = 23 ∧ j = 8)) ∨ I q j = I q j := fun _ _ => Or.inr rfl
  have FJ : ∀ q j : Nat, ((q = 23 ∧ j = 9)) ∨ J q j = J q j := fun _ _ => Or.inr rfl
  have B_39 : 39 < 1000000 := by decide
  have R_23 : ro 23 = 3 := gc_bR hb (by decide) rfl
  have R_39 : ro 39 = 42 := gc_bR hb (by decide) rfl
  have S_39 : sh[39]? = some (false, 6, 19) := gc_bS hb rfl
  have hD : gv_D (gc_E6 ws0 tb 91 (yX6_readStatement, cX6_readStatement, 4, (some .boolean)) kX6_readStatement) := gq_ok oX6_readStatement
  have t1 := gc_TK_mo KTK_I
  have f2 := (show 0 ≤ I 23 1 ∧ I 23 1 ≤ 1000 from gc_in hI R_23 rfl rfl)
  have f3 := (show 0 ≤ I 23 5 ∧ I 23 5 ≤ 1000 from gc_in hI R_23 rfl rfl)
  have f4 := (show 0 ≤ I 23 6 ∧ I 23 6 ≤ 1001 from gc_in hI R_23 rfl rfl)
  have f5 := (show 0 ≤ I 23 7 ∧ I 23 7 ≤ 125 from gc_in hI R_23 rfl rfl)
  have f6 := (show 0 ≤ I 39 5 ∧ I 39 5 ≤ 1000 from gc_in hI R_39 rfl rfl)
  have L168 : ∀ (s0_8 : Int), ((0 ≤ s0_8 ∧ s0_8 ≤ 1) ∧ (I 23 1 = I 23 1) ∧ (I 23 5 ≤ I 23 5)) → gv_X (gc_E6 ws0 tb 91 (yX6_readStatement, cX6_readStatement, 4, (some .boolean)) kX6_readStatement) Q (168, [(0, .inr (.inr (some 39))), (1, .inr (.inl a1))], [.inl s0_8], sh, gc_h sh I J A) := by
    intro s0_8 m_8
    obtain ⟨hs0_8, e0_8, e1_8⟩ := m_8
    have t9 := gc_TK_mo KTK_I
    have f10 := (show 0 ≤ I 23 1 ∧ I 23 1 ≤ 1000 from gc_in hI R_23 rfl rfl)
    have f11 := (show 0 ≤ I 23 5 ∧ I 23 5 ≤ 1000 from gc_in hI R_23 rfl rfl)
    have f12 := (show 0 ≤ I 23 6 ∧ I 23 6 ≤ 1001 from gc_in hI R_23 rfl rfl)
    have f13 := (show 0 ≤ I 23 7 ∧ I 23 7 ≤ 125 from gc_in hI R_23 rfl rfl)
    have f14 := (show 0 ≤ I 39 5 ∧ I 39 5 ≤ 1000 from gc_in hI R_39 rfl rfl)
    refine gv_run 2 true hD (pc' := 170) (lv' := [(3, .inl s0_8), (0, .inr (.inr (some 39))), (1, .inr (.inl a1))]) (st' := [.inl s0_8]) (h' := gc_h sh I J A) (C := ((True ∧ True) ∧ True)) rfl ⟨⟨trivial, trivial⟩, trivial⟩ ?_
    refine gv_if_ne (t := 207) hD rfl rfl ⟨by omega, by omega⟩ (fun c15 => ?_) (fun c15 => ?_)
    · show gv_X _ _ (207, [(3, .inl s0_8), (0, .inr (.inr (some 39))), (1, .inr (.inl a1))], [], sh, gc_h sh I J A)
      refine gv_pick [1, 2] rfl ?_
      exact L207 (by omega)
    · show gv_X _ _ (173, [(3, .inl s0_8), (0, .inr (.inr (some 39))), (1, .inr (.inl a1))], [], sh, gc_h sh I J A)
      have f16 := gw_cmp (a1) ((31632350188499566))
      refine gv_run 3 true hD (pc' := 178) (lv' := [(3, .inl s0_8), (0, .inr (.inr (some 39))), (1, .inr (.inl a1))]) (st' := [.inl ((lg_cmp (a1) ((31632350188499566))).toInt)]) (h' := gc_h sh I J A) (C := (((True ∧ True) ∧ True) ∧ True)) rfl ⟨⟨⟨trivial, trivial⟩, trivial⟩, trivial⟩ ?_
      refine gv_if_eq (t := 207) hD rfl rfl ⟨by omega, by omega⟩ (fun c17 => ?_) (fun c17 => ?_)
      · show gv_X _ _ (207, [(3, .inl s0_8), (0, .inr (.inr (some 39))), (1, .inr (.inl a1))], [], sh, gc_h sh I J A)
        refine gv_pick [1, 2] rfl ?_
        exact L207 (by omega)
      · show gv_X _ _ (181, [(3, .inl s0_8), (0, .inr (.inr (some 39))), (1, .inr (.inl a1))], [], sh, gc_h sh I J A)
        have f18 := gw_cmp (a1) ((2003792484))
        refine gv_run 3 true hD (pc' := 186) (lv' := [(3, .inl s0_8), (0, .inr (.inr (some 39))), (1, .inr (.inl a1))]) (st' := [.inl ((lg_cmp (a1) ((2003792484))).toInt)]) (h' := gc_h sh I J A) (C := (((True ∧ True) ∧ True) ∧ True)) rfl ⟨⟨⟨trivial, trivial⟩, trivial⟩, trivial⟩ ?_
        refine gv_if_eq (t := 207) hD rfl rfl ⟨by omega, by omega⟩ (fun c19 => ?_) (fun c19 => ?_)
        · show gv_X _ _ (207, [(3, .inl s0_8), (0, .inr (.inr (some 39))), (1, .inr (.inl a1))], [], sh, gc_h sh I J A)
          refine gv_pick [1, 2] rfl ?_
          exact L207 (by omega)
        · show gv_X _ _ (189, [(3, .inl s0_8), (0, .inr (.inr (some 39))), (1, .inr (.inl a1))], [], sh, gc_h sh I J A)
          have f20 := gw_cmp (a1) ((7104878))
          refine gv_run 3 true hD (pc' := 194) (lv' := [(3, .inl s0_8), (0, .inr (.inr (some 39))), (1, .inr (.inl a1))]) (st' := [.inl ((lg_cmp (a1) ((7104878))).toInt)]) (h' := gc_h sh I J A) (C := (((True ∧ True) ∧ True) ∧ True)) rfl ⟨⟨⟨trivial, trivial⟩, trivial⟩, trivial⟩ ?_
          refine gv_if_eq (t := 207) hD rfl rfl ⟨by omega, by omega⟩ (fun c21 => ?_) (fun c21 => ?_)
          · show gv_X _ _ (207, [(3, .inl s0_8), (0, .inr (.inr (some 39))), (1, .inr (.inl a1))], [], sh, gc_h sh I J A)
            refine gv_pick [1, 2] rfl ?_
            exact L207 (by omega)
          · show gv_X _ _ (197, [(3, .inl s0_8), (0, .inr (.inr (some 39))), (1, .inr (.inl a1))], [], sh, gc_h sh I J A)
            refine gv_run 3 true hD (pc' := 200) (lv' := [(3, .inl s0_8), (0, .inr (.inr (some 39))), (1, .inr (.inl a1))]) (st' := [.inr (.inr (some 39)), .inl 1, .inr (.inr (some 39))]) (h' := gc_h sh I J A) (C := (((True ∧ True) ∧ True) ∧ True)) rfl ⟨⟨⟨trivial, trivial⟩, trivial⟩, trivial⟩ ?_
            have f22 := (show 0 ≤ I 39 5 ∧ I 39 5 ≤ 1000 from gc_in hI R_39 rfl rfl)
            refine gv_get hD rfl rfl S_39 ⟨by decide, B_39⟩ (gc_hI S_39 rfl) ?_
            show gv_X _ _ (203, [(3, .inl s0_8), (0, .inr (.inr (some 39))), (1, .inr (.inl a1))], [.inl (I 39 5), .inl 1, .inr (.inr (some 39))], sh, gc_h sh I J A)
            obtain ⟨r23, h23, E23, P23⟩ := d_X6_wrong (ws0 := ws0) (tb := tb) hws htb sh ro I J A hI  1 (I 39 5) hb   ⟨by omega, by omega⟩ ⟨by omega, by omega⟩  
            obtain ⟨I24, J25, rfl, hI24, g23, k23, ⟨z23, rfl, q23⟩⟩ := P23
            have FI24 := gc_frc (W := fun q j => (q = 39 ∧ j = 3) ∨ (q = 39 ∧ j = 4) ∨ (q = 23 ∧ j = 5) ∨ (q = 23 ∧ j = 6) ∨ (q = 23 ∧ j = 7) ∨ (q = 23 ∧ j = 8)) (V := fun q j => (q = 39 ∧ j = 3) ∨ (q = 39 ∧ j = 4)) FI (fun q j h => (h.elim (fun h => (Or.inl h)) (fun h => (Or.inr (Or.inl h))))) g23
            have t26 := (g23 23 1).resolve_left (fun h => h.elim (fun h => absurd h.2 (by decide)) (fun h => absurd h.2 (by decide)))
            have t27 := (g23 23 5).resolve_left (fun h => h.elim (fun h => absurd h.2 (by decide)) (fun h => absurd h.2 (by decide)))
            have t28 := (g23 23 6).resolve_left (fun h => h.elim (fun h => absurd h.2 (by decide)) (fun h => absurd h.2 (by decide)))
            have t29 := (g23 23 7).resolve_left (fun h => h.elim (fun h => absurd h.2 (by decide)) (fun h => absurd h.2 (by decide)))
            have t30 := (g23 39 5).resolve_left (fun h => h.elim (fun h => absurd h.2 (by decide)) (fun h => absurd h.2 (by decide)))
            obtain rfl : J = J25 := funext fun q => funext fun j => ((k23 q j).resolve_left id).symm
            have KLT_I24 := gc_LT_fr KLT_I ((g23 23 5).resolve_left (fun h => h.elim (fun h => absurd h.2 (by decide)) (fun h => absurd h.2 (by decide)))) ((g23 23 6).resolve_left (fun h => h.elim (fun h => absurd h.2 (by decide)) (fun h => absurd h.2 (by decide)))) ((g23 23 7).resolve_left (fun h => h.elim (fun h => absurd h.2 (by decide)) (fun h => absurd h.2 (by decide)))) (fun k => (g23 24 k).resolve_left (fun h => h.elim (fun h => absurd h.1 (by decide)) (fun h => absurd h.1 (by decide))))
            have KTK_I24 := gc_TK_fr KTK_I ((g23 23 1).resolve_left (fun h => h.elim (fun h => absurd h.2 (by decide)) (fun h => absurd h.2 (by decide)))) ((g23 23 5).resolve_left (fun h => h.elim (fun h => absurd h.2 (by decide)) (fun h => absurd h.2 (by decide)))) ((g23 23 6).resolve_left (fun h => h.elim (fun h => absurd h.2 (by decide)) (fun h => absurd h.2 (by decide)))) ((g23 23 7).resolve_left (fun h => h.elim (fun h => absurd h.2 (by decide)) (fun h => absurd h.2 (by decide))))
            refine gv_callV hD rfl (As := [.inl 1, .inl (I 39 5)]) (st := []) rfl B_39 S_39 rfl (gc_lV6 hws rfl) (Nat.le_of_ble_eq_true rfl) (gz_Ev_mono (d := 1) (by decide) E23) ?_
            show gv_X _ _ (206, [(3, .inl s0_8), (0, .inr (.inr (some 39))), (1, .inr (.inl a1))], [.inl z23], sh, gc_h sh I24 J A)
            exact gv_Xm hQ (gv_zret hD rfl (by omega) ⟨I24, J, rfl, hI24, FI24, FJ, KLT_I24, KTK_I24, ⟨_, rfl, by omega⟩⟩)
  have L163 : ((I 23 1 = I 23 1) ∧ (I 23 5 ≤ I 23 5)) → gv_X (gc_E6 ws0 tb 91 (yX6_readStatement, cX6_readStatement, 4, (some .boolean)) kX6_readStatement) Q (163, [(0, .inr (.inr (some 39))), (1, .inr (.inl a1))], [], sh, gc_h sh I J A) := by
    intro m_31
    obtain ⟨e0_31, e1_31⟩ := m_31
    have t32 := gc_TK_mo KTK_I
    have f33 := (show 0 ≤ I 23 1 ∧ I 23 1 ≤ 1000 from gc_in hI R_23 rfl rfl)
    have f34 := (show 0 ≤ I 23 5 ∧ I 23 5 ≤ 1000 from gc_in hI R_23 rfl rfl)
    have f35 := (show 0 ≤ I 23 6 ∧ I 23 6 ≤ 1001 from gc_in hI R_23 rfl rfl)
    have f36 := (show 0 ≤ I 23 7 ∧ I 23 7 ≤ 125 from gc_in hI R_23 rfl rfl)
    have f37 := (show 0 ≤ I 39 5 ∧ I 39 5 ≤ 1000 from gc_in hI R_39 rfl rfl)
    refine gv_run 2 true hD (pc' := 168) (lv' := [(0, .inr (.inr (some 39))), (1, .inr (.inl a1))]) (st' := [.inl 1]) (h' := gc_h sh I J A) (C := ((True ∧ True) ∧ True)) rfl ⟨⟨trivial, trivial⟩, trivial⟩ ?_
    exact L168 1 (by omega)
  have f38 := gw_cmp (a1) ((28821916864574053))
  refine gv_run 3 true hD (pc' := 144) (lv' := [(0, .inr (.inr (some 39))), (1, .inr (.inl a1))]) (st' := [.inl ((lg_cmp (a1) ((28821916864574053))).toInt)]) (h' := gc_h sh I J A) (C := (((True ∧ True) ∧ True) ∧ True)) rfl ⟨⟨⟨trivial, trivial⟩, trivial⟩, trivial⟩ ?_
  refine gv_if_eq (t := 163) hD rfl rfl ⟨by omega, by omega⟩ (fun c39 => ?_) (fun c39 => ?_)
  · show gv_X _ _ (163, [(0, .inr (.inr (some 39))), (1, .inr (.inl a1))], [], sh, gc_h sh I J A)
    exact L163 (by omega)
  · show gv_X _ _ (147, [(0, .inr (.inr (some 39))), (1, .inr (.inl a1))], [], sh, gc_h sh I J A)
    have f40 := gw_cmp (a1) ((30510848328168051))
    refine gv_run 3 true hD (pc' := 152) (lv' := [(0, .inr (.inr (some 39))), (1, .inr (.inl a1))]) (st' := [.inl ((lg_cmp (a1) ((30510848328168051))).toInt)]) (h' := gc_h sh I J A) (C := (((True ∧ True) ∧ True) ∧ True)) rfl ⟨⟨⟨trivial, trivial⟩, trivial⟩, trivial⟩ ?_
    refine gv_if_eq (t := 163) hD rfl rfl ⟨by omega, by omega⟩ (fun c41 => ?_) (fun c41 => ?_)
    · show gv_X _ _ (163, [(0, .inr (.inr (some 39))), (1, .inr (.inl a1))], [], sh, gc_h sh I J A)
      exact L163 (by omega)
    · show gv_X _ _ (155, [(0, .inr (.inr (some 39))), (1, .inr (.inl a1))], [], sh, gc_h sh I J A)
      have f42 := gw_cmp (a1) ((495791205988))
      refine gv_run 3 true hD (pc' := 160) (lv' := [(0, .inr (.inr (some 39))), (1, .inr (.inl a1))]) (st' := [.inl ((lg_cmp (a1) ((495791205988))).toInt)]) (h' := gc_h sh I J A) (C := (((True ∧ True) ∧ True) ∧ True)) rfl ⟨⟨⟨trivial, trivial⟩, trivial⟩, trivial⟩ ?_
      refine gv_if_ne (t := 167) hD rfl rfl ⟨by omega, by omega⟩ (fun c43 => ?_) (fun c43 => ?_)
      · show gv_X _ _ (167, [(0, .inr (.inr (some 39))), (1, .inr (.inl a1))], [], sh, gc_h sh I J A)
        refine gv_run 1 true hD (pc' := 168) (lv' := [(0, .inr (.inr (some 39))), (1, .inr (.inl a1))]) (st' := [.inl 0]) (h' := gc_h sh I J A) (C := (True ∧ True)) rfl ⟨trivial, trivial⟩ ?_
        exact L168 0 (by omega)
      · show gv_X _ _ (163, [(0, .inr (.inr (some 39))), (1, .inr (.inl a1))], [], sh, gc_h sh I J A)
        exact L163 (by omega)
