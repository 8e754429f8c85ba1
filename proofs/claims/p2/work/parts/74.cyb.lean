set_option maxHeartbeats 4000000 in
set_option maxRecDepth 100000 in
theorem d_X6_readAgree {ws0 : List Cond} {tb : String → gz_T} (hws : gc_Ws ws0) (htb : gc_tbs tb) (sh : gz_Sh) (ro : Nat → Nat) (I : gr_I) (J : gr_J) (A : gc_A) (hI : gc_Inv ro I) (t : Nat) (a1 : Nat) (hb : gc_Base sh ro A) (h_a1 : gc_isLin sh ro A a1) (G_a1 : 144 ≤ a1) (h_t : gc_isTongue sh ro A t) (G_t : 144 ≤ t)  (x0 : I 23 5 ≤ I 23 6) (x1 : I 23 7 = 5 ∨ I 23 6 ≤ I 23 1) (x2 : I 23 5 ≤ I 23 1) (x3 : I 23 7 = 4 ∨ (I 23 5 < I 23 6 ∧ I 23 5 < I 23 1)) (x4 : I 23 7 = 3 → 2 ≤ I 23 6 - I 23 5 ∧ I 23 6 - I 23 5 ≤ 14) (x5 : I a1 12 ≤ 5) (x6 : I 39 2 = (t : Int)) (KLT_I : gc_LT I) : ∃ r h', gz_Ev ws0 tb 4 (yX6_readAgree, cX6_readAgree, 4, (some .boolean)) [.inr (.inr (some 39)), .inr (.inr (some a1))] sh (gc_h sh I J A) r sh h' 0 0 ∧ (∃ (I' : gr_I) (J' : gr_J), h' = gc_h sh I' J' A ∧ gc_Inv ro I' ∧ (∀ q j : Nat, ((q = 39 ∧ j = 3) ∨ (q = 39 ∧ j = 4) ∨ (q = 23 ∧ j = 5) ∨ (q = 23 ∧ j = 6) ∨ (q = 23 ∧ j = 7) ∨ (q = 23 ∧ j = 8) ∨ q = (a1 + 7) ∨ (q = a1 ∧ j = 12)) ∨ I' q j = I q j) ∧ (∀ q j : Nat, ((q = 23 ∧ j = 9)) ∨ J' q j = J q j) ∧ gc_LT I' ∧ (∃ z : Int, r = some (.inl z) ∧ 0 ≤ z ∧ z ≤ 1 ∧ (I' 23 5 ≤ I' 23 6) ∧ (I' 23 7 = 5 ∨ I' 23 6 ≤ I' 23 1) ∧ (I' 23 5 ≤ I' 23 1) ∧ (I' 23 7 = 4 ∨ (I' 23 5 < I' 23 6 ∧ I' 23 5 < I' 23 1)) ∧ (I' 23 7 = 3 → 2 ≤ I' 23 6 - I' 23 5 ∧ I' 23 6 - I' 23 5 ≤ 14) ∧ (I' 23 1 = I 23 1) ∧ (I 23 5 ≤ I' 23 5) ∧ (I' a1 12 ≤ I a1 12 + 1))) := by
  have FI : ∀ q j : Nat, ((q = 39 ∧ j = 3) ∨ (q = 39 ∧ j = 4) ∨ (q = 23 ∧ j = 5) ∨ (q = 23 ∧ j = 6) ∨ (q = 23 ∧ j = 7) ∨ (q = 23 ∧ j = 8) ∨ q = (a1 + 7) ∨ (q = a1 ∧ j = 12)) ∨ I q j = I q j := fun _ _ => Or.inr rfl
  have FJ : ∀ q j : Nat, ((q = 23 ∧ j = 9)) ∨ J q j = J q j := fun _ _ => Or.inr rfl
  have A_39_1 : A 39 1 = some 23 := gc_bA hb rfl
  have B_23 : 23 < 1000000 := by decide
  have B_39 : 39 < 1000000 := by decide
  have R_23 : ro 23 = 3 := gc_bR hb (by decide) rfl
  have R_39 : ro 39 = 42 := gc_bR hb (by decide) rfl
  have S_23 : sh[23]? = some (false, 9, 10) := gc_bS hb rfl
  have S_39 : sh[39]? = some (false, 6, 19) := gc_bS hb rfl
  obtain ⟨S_a1, R_a1, B_a1, A_a1_5, S_a1_1, R_a1_1, B_a1_1, A_a1_6, S_a1_2, R_a1_2, B_a1_2, A_a1_7, S_a1_3, R_a1_3, B_a1_3, A_a1_9, S_a1_4, R_a1_4, B_a1_4, A_a1_10, S_a1_5, R_a1_5, B_a1_5, A_a1_11, S_a1_6, R_a1_6, B_a1_6, A_a1_13, S_a1_7, R_a1_7, B_a1_7, A_a1_15, S_a1_8, R_a1_8, B_a1_8⟩ := id h_a1
  obtain ⟨S_t, R_t, B_t, A_t_0, h_t_1, A_t_1, h_t_3, A_t_2, S_t_5, R_t_5, B_t_5, A_t_3, S_t_6, R_t_6, B_t_6, A_t_4, h_t_7, A_t_5, S_t_9, R_t_9, B_t_9, A_t_7, S_t_10, R_t_10, B_t_10, A_t_8, h_t_11, A_t_9, S_t_13, R_t_13, B_t_13, A_t_10, S_t_14, R_t_14, B_t_14, A_t_12, S_t_15, R_t_15, B_t_15, A_t_14, S_t_16, R_t_16, B_t_16, A_t_15, h_t_17⟩ := id h_t
  obtain ⟨S_t_1, R_t_1, B_t_1, A_t_1_0, S_t_1_1, R_t_1_1, B_t_1_1, Q0_t_1, Q1_t_1, Q2_t_1⟩ := id h_t_1
  obtain ⟨S_t_3, R_t_3, B_t_3, A_t_3_0, S_t_3_1, R_t_3_1, B_t_3_1, Q0_t_3, Q1_t_3, Q2_t_3⟩ := id h_t_3
  obtain ⟨S_t_7, R_t_7, B_t_7, A_t_7_0, S_t_7_1, R_t_7_1, B_t_7_1, Q0_t_7, Q1_t_7, Q2_t_7⟩ := id h_t_7
  obtain ⟨S_t_11, R_t_11, B_t_11, A_t_11_0, S_t_11_1, R_t_11_1, B_t_11_1, Q0_t_11, Q1_t_11, Q2_t_11⟩ := id h_t_11
  obtain ⟨S_t_17, R_t_17, B_t_17, A_t_17_0, S_20, R_20, B_20, A_t_17_1, S_t_17_1, R_t_17_1, B_t_17_1, A_t_17_2, S_t_17_2, R_t_17_2, B_t_17_2, A_t_17_3, S_t_17_3, R_t_17_3, B_t_17_3, A_t_17_4, S_t_17_4, R_t_17_4, B_t_17_4, A_t_17_5, S_t_17_5, R_t_17_5, B_t_17_5, S_t_17_6, R_t_17_6, B_t_17_6, S_t_17_7, R_t_17_7, B_t_17_7⟩ := id h_t_17
  have N1 := gc_dj_LT h_a1 h_t
  have hD : gv_D (gc_E6 ws0 tb 3 (yX6_readAgree, cX6_readAgree, 4, (some .boolean)) kX6_readAgree) := gq_ok oX6_readAgree
  refine gc_ev6 (d := 3) (l := kX6_readAgree) (Po := fun r h' => (∃ (I' : gr_I) (J' : gr_J), h' = gc_h sh I' J' A ∧ gc_Inv ro I' ∧ (∀ q j : Nat, ((q = 39 ∧ j = 3) ∨ (q = 39 ∧ j = 4) ∨ (q = 23 ∧ j = 5) ∨ (q = 23 ∧ j = 6) ∨ (q = 23 ∧ j = 7) ∨ (q = 23 ∧ j = 8) ∨ q = (a1 + 7) ∨ (q = a1 ∧ j = 12)) ∨ I' q j = I q j) ∧ (∀ q j : Nat, ((q = 23 ∧ j = 9)) ∨ J' q j = J q j) ∧ gc_LT I' ∧ (∃ z : Int, r = some (.inl z) ∧ 0 ≤ z ∧ z ≤ 1 ∧ (I' 23 5 ≤ I' 23 6) ∧ (I' 23 7 = 5 ∨ I' 23 6 ≤ I' 23 1) ∧ (I' 23 5 ≤ I' 23 1) ∧ (I' 23 7 = 4 ∨ (I' 23 5 < I' 23 6 ∧ I' 23 5 < I' 23 1)) ∧ (I' 23 7 = 3 → 2 ≤ I' 23 6 - I' 23 5 ∧ I' 23 6 - I' 23 5 ≤ 14) ∧ (I' 23 1 = I 23 1) ∧ (I 23 5 ≤ I' 23 5) ∧ (I' a1 12 ≤ I a1 12 + 1)))) htb rfl (Nat.le_of_ble_eq_true rfl) ?_
  have f1 := (show 0 ≤ I 23 1 ∧ I 23 1 ≤ 1000 from gc_in hI R_23 rfl rfl)
  have f2 := (show 0 ≤ I 23 5 ∧ I 23 5 ≤ 1000 from gc_in hI R_23 rfl rfl)
  have f3 := (show 0 ≤ I 23 6 ∧ I 23 6 ≤ 1001 from gc_in hI R_23 rfl rfl)
  have f4 := (show 0 ≤ I 23 7 ∧ I 23 7 ≤ 125 from gc_in hI R_23 rfl rfl)
  have f5 := (show 0 ≤ I a1 12 ∧ I a1 12 ≤ 6 from gc_in hI R_a1 rfl rfl)
  have f6 := (show 0 ≤ I 23 8 ∧ I 23 8 ≤ 999999 from gc_in hI R_23 rfl rfl)
  have f7 := (show 0 ≤ I (t + 1) 1 ∧ I (t + 1) 1 ≤ 8 from gc_in hI R_t_1 rfl rfl)
  have f8 := (show (-1) ≤ I 39 2 ∧ I 39 2 ≤ 999999 from gc_in hI R_39 rfl rfl)
  have L9 : ∀ (n9 : Nat) (I9 : gr_I) (J10 : gr_J) (v2_11 : Int) (v3_11 : Int), (3 - v3_11).toNat < n9 → gc_Inv ro I9 → (∀ q j : Nat, ((q = 39 ∧ j = 3) ∨ (q = 39 ∧ j = 4) ∨ (q = 23 ∧ j = 5) ∨ (q = 23 ∧ j = 6) ∨ (q = 23 ∧ j = 7) ∨ (q = 23 ∧ j = 8) ∨ q = (a1 + 7) ∨ (q = a1 ∧ j = 12)) ∨ I9 q j = I q j) → (∀ q j : Nat, ((q = 23 ∧ j = 9)) ∨ J10 q j = J q j) → gc_LT I9 → ((0 ≤ v2_11 ∧ v2_11 ≤ 15) ∧ (0 ≤ v3_11 ∧ v3_11 ≤ 2) ∧ (v2_11 = 3 * I9 a1 12) ∧ (I9 a1 12 = I a1 12) ∧ (I9 23 5 ≤ I9 23 6) ∧ (I9 23 7 = 5 ∨ I9 23 6 ≤ I9 23 1) ∧ (I9 23 5 ≤ I9 23 1) ∧ (I9 23 7 = 4 ∨ (I9 23 5 < I9 23 6 ∧ I9 23 5 < I9 23 1)) ∧ (I9 23 7 = 3 → 2 ≤ I9 23 6 - I9 23 5 ∧ I9 23 6 - I9 23 5 ≤ 14) ∧ (I9 23 1 = I 23 1) ∧ (I 23 5 ≤ I9 23 5) ∧ (I9 39 2 = (t : Int))) → gv_X (gc_E6 ws0 tb 3 (yX6_readAgree, cX6_readAgree, 4, (some .boolean)) kX6_readAgree) (gv_Q cX6_readAgree (some .boolean) sh (fun r h' => (∃ (I' : gr_I) (J' : gr_J), h' = gc_h sh I' J' A ∧ gc_Inv ro I' ∧ (∀ q j : Nat, ((q = 39 ∧ j = 3) ∨ (q = 39 ∧ j = 4) ∨ (q = 23 ∧ j = 5) ∨ (q = 23 ∧ j = 6) ∨ (q = 23 ∧ j = 7) ∨ (q = 23 ∧ j = 8) ∨ q = (a1 + 7) ∨ (q = a1 ∧ j = 12)) ∨ I' q j = I q j) ∧ (∀ q j : Nat, ((q = 23 ∧ j = 9)) ∨ J' q j = J q j) ∧ gc_LT I' ∧ (∃ z : Int, r = some (.inl z) ∧ 0 ≤ z ∧ z ≤ 1 ∧ (I' 23 5 ≤ I' 23 6) ∧ (I' 23 7 = 5 ∨ I' 23 6 ≤ I' 23 1) ∧ (I' 23 5 ≤ I' 23 1) ∧ (I' 23 7 = 4 ∨ (I' 23 5 < I' 23 6 ∧ I' 23 5 < I' 23 1)) ∧ (I' 23 7 = 3 → 2 ≤ I' 23 6 - I' 23 5 ∧ I' 23 6 - I' 23 5 ≤ 14) ∧ (I' 23 1 = I 23 1) ∧ (I 23 5 ≤ I' 23 5) ∧ (I' a1 12 ≤ I a1 12 + 1))))) (9, [(0, .inr (.inr (some 39))), (1, .inr (.inr (some a1))), (2, .inl v2_11), (3, .inl v3_11)], [], sh, gc_h sh I9 J10 A) := by
    intro n9
    induction n9 with
    | zero => intro I9 J10 v2_11 v3_11 hn; omega
    | succ n9 ih9 =>
      intro I9 J10 v2_11 v3_11 hn hI9 FI9 FJ10 KLT_I9 m_11
      clear x0 x1 x2 x3 x4
      obtain ⟨hv2_11, hv3_11, e0_11, e1_11, e2_11, e3_11, e4_11, e5_11, e6_11, e7_11, e8_11, e9_11⟩ := m_11
      have f12 := (show 0 ≤ I9 23 1 ∧ I9 23 1 ≤ 1000 from gc_in hI9 R_23 rfl rfl)
      have f13 := (show 0 ≤ I9 23 5 ∧ I9 23 5 ≤ 1000 from gc_in hI9 R_23 rfl rfl)
      have f14 := (show 0 ≤ I9 23 6 ∧ I9 23 6 ≤ 1001 from gc_in hI9 R_23 rfl rfl)
      have f15 := (show 0 ≤ I9 23 7 ∧ I9 23 7 ≤ 125 from gc_in hI9 R_23 rfl rfl)
      have f16 := (show 0 ≤ I9 a1 12 ∧ I9 a1 12 ≤ 6 from gc_in hI9 R_a1 rfl rfl)
      have f17 := (show 0 ≤ I9 23 8 ∧ I9 23 8 ≤ 999999 from gc_in hI9 R_23 rfl rfl)
      have f18 := (show 0 ≤ I9 (t + 1) 1 ∧ I9 (t + 1) 1 ≤ 8 from gc_in hI9 R_t_1 rfl rfl)
      have f19 := (show (-1) ≤ I9 39 2 ∧ I9 39 2 ≤ 999999 from gc_in hI9 R_39 rfl rfl)
      refine gv_run 2 true hD (pc' := 11) (lv' := [(0, .inr (.inr (some 39))), (1, .inr (.inr (some a1))), (2, .inl v2_11), (3, .inl v3_11)]) (st' := [.inl 2, .inl v3_11]) (h' := gc_h sh I9 J10 A) (C := ((True ∧ True) ∧ True)) rfl ⟨⟨trivial, trivial⟩, trivial⟩ ?_
      refine gv_icmp_ge (t := 59) hD rfl rfl ⟨⟨by omega, by omega⟩, ⟨by omega, by omega⟩⟩ (fun c20 => ?_) (fun c20 => ?_)
      · show gv_X _ _ (59, [(0, .inr (.inr (some 39))), (1, .inr (.inr (some a1))), (2, .inl v2_11), (3, .inl v3_11)], [], sh, gc_h sh I9 J10 A)
        refine gv_run 2 true hD (pc' := 61) (lv' := [(0, .inr (.inr (some 39))), (1, .inr (.inr (some a1))), (2, .inl v2_11), (3, .inl v3_11)]) (st' := [.inr (.inr (some 39)), .inr (.inr (some 39))]) (h' := gc_h sh I9 J10 A) (C := ((True ∧ True) ∧ True)) rfl ⟨⟨trivial, trivial⟩, trivial⟩ ?_
        refine gv_get hD rfl rfl S_39 ⟨by decide, B_39⟩ (gc_h5 (t := t) S_39 rfl (by omega)) ?_
        show gv_X _ _ (64, [(0, .inr (.inr (some 39))), (1, .inr (.inr (some a1))), (2, .inl v2_11), (3, .inl v3_11)], [.inr (.inr (some t)), .inr (.inr (some 39))], sh, gc_h sh I9 J10 A)
        refine gv_get hD rfl rfl S_t ⟨by decide, B_t⟩ (gc_hA S_t rfl A_t_0) ?_
        show gv_X _ _ (67, [(0, .inr (.inr (some 39))), (1, .inr (.inr (some a1))), (2, .inl v2_11), (3, .inl v3_11)], [.inr (.inr (some (t + 1))), .inr (.inr (some 39))], sh, gc_h sh I9 J10 A)
        obtain ⟨r21, h21, E21, P21⟩ := d_X6_needKnown (ws0 := ws0) (tb := tb) hws htb sh ro I9 J10 A hI9  8 6 (t + 1) hb h_t_1    
        obtain ⟨I22, J23, rfl, hI22, g21, k21, ⟨z21, rfl, q21⟩⟩ := P21
        have FI22 := gc_frc (W := fun q j => (q = 39 ∧ j = 3) ∨ (q = 39 ∧ j = 4) ∨ (q = 23 ∧ j = 5) ∨ (q = 23 ∧ j = 6) ∨ (q = 23 ∧ j = 7) ∨ (q = 23 ∧ j = 8) ∨ q = (a1 + 7) ∨ (q = a1 ∧ j = 12)) (V := fun q j => (q = 39 ∧ j = 3) ∨ (q = 39 ∧ j = 4)) FI9 (fun q j h => (h.elim (fun h => (Or.inl h)) (fun h => (Or.inr (Or.inl h))))) g21
        have t24 := (g21 23 1).resolve_left (by omega)
        have t25 := (g21 23 5).resolve_left (by omega)
        have t26 := (g21 23 6).resolve_left (by omega)
        have t27 := (g21 23 7).resolve_left (by omega)
        have t28 := (g21 a1 12).resolve_left (by omega)
        have t29 := (g21 23 8).resolve_left (by omega)
        have t30 := (g21 (t + 1) 1).resolve_left (by omega)
        have t31 := (g21 39 2).resolve_left (by omega)
        have f32 := (show 0 ≤ I22 23 1 ∧ I22 23 1 ≤ 1000 from gc_in hI22 R_23 rfl rfl)
        have f33 := (show 0 ≤ I22 23 5 ∧ I22 23 5 ≤ 1000 from gc_in hI22 R_23 rfl rfl)
        have f34 := (show 0 ≤ I22 23 6 ∧ I22 23 6 ≤ 1001 from gc_in hI22 R_23 rfl rfl)
        have f35 := (show 0 ≤ I22 23 7 ∧ I22 23 7 ≤ 125 from gc_in hI22 R_23 rfl rfl)
        have f36 := (show 0 ≤ I22 a1 12 ∧ I22 a1 12 ≤ 6 from gc_in hI22 R_a1 rfl rfl)
        have f37 := (show 0 ≤ I22 23 8 ∧ I22 23 8 ≤ 999999 from gc_in hI22 R_23 rfl rfl)
        have f38 := (show 0 ≤ I22 (t + 1) 1 ∧ I22 (t + 1) 1 ≤ 8 from gc_in hI22 R_t_1 rfl rfl)
        have f39 := (show (-1) ≤ I22 39 2 ∧ I22 39 2 ≤ 999999 from gc_in hI22 R_39 rfl rfl)
        obtain rfl : J10 = J23 := funext fun q => funext fun j => ((k21 q j).resolve_left id).symm
        have KLT_I22 := gc_LT_fr KLT_I9 ((g21 23 5).resolve_left (by omega)) ((g21 23 6).resolve_left (by omega)) ((g21 23 7).resolve_left (by omega)) (fun k => (g21 24 k).resolve_left (by omega))
        refine gv_callV hD rfl (As := [.inr (.inr (some (t + 1)))]) (st := []) rfl B_39 S_39 rfl (gc_lV6 hws rfl) (Nat.le_of_ble_eq_true rfl) (gz_Ev_mono (d := 3) (by decide) E21) ?_
        show gv_X _ _ (70, [(0, .inr (.inr (some 39))), (1, .inr (.inr (some a1))), (2, .inl v2_11), (3, .inl v3_11)], [.inl z21], sh, gc_h sh I22 J10 A)
        refine gv_if_ne (t := 75) hD rfl rfl ⟨by omega, by omega⟩ (fun c40 => ?_) (fun c40 => ?_)
        · show gv_X _ _ (75, [(0, .inr (.inr (some 39))), (1, .inr (.inr (some a1))), (2, .inl v2_11), (3, .inl v3_11)], [], sh, gc_h sh I22 J10 A)
          refine gv_run 1 true hD (pc' := 76) (lv' := [(0, .inr (.inr (some 39))), (1, .inr (.inr (some a1))), (2, .inl v2_11), (3, .inl v3_11)]) (st' := [.inr (.inr (some a1))]) (h' := gc_h sh I22 J10 A) (C := (True ∧ True)) rfl ⟨trivial, trivial⟩ ?_
          refine gv_get hD rfl rfl S_a1 ⟨by decide, B_a1⟩ (gc_hA S_a1 rfl A_a1_13) ?_
          show gv_X _ _ (79, [(0, .inr (.inr (some 39))), (1, .inr (.inr (some a1))), (2, .inl v2_11), (3, .inl v3_11)], [.inr (.inr (some (a1 + 7)))], sh, gc_h sh I22 J10 A)
          refine gv_run 4 true hD (pc' := 83) (lv' := [(0, .inr (.inr (some 39))), (1, .inr (.inr (some a1))), (2, .inl v2_11), (3, .inl v3_11)]) (st' := [.inr (.inr (some 39)), .inl (v2_11 + 2), .inr (.inr (some (a1 + 7)))]) (h' := gc_h sh I22 J10 A) (C := ((((True ∧ True) ∧ True) ∧ True) ∧ True)) rfl ⟨⟨⟨⟨trivial, trivial⟩, trivial⟩, trivial⟩, trivial⟩ ?_
          refine gv_get hD rfl rfl S_39 ⟨by decide, B_39⟩ (gc_h5 (t := t) S_39 rfl (by omega)) ?_
          show gv_X _ _ (86, [(0, .inr (.inr (some 39))), (1, .inr (.inr (some a1))), (2, .inl v2_11), (3, .inl v3_11)], [.inr (.inr (some t)), .inl (v2_11 + 2), .inr (.inr (some (a1 + 7)))], sh, gc_h sh I22 J10 A)
          refine gv_get hD rfl rfl S_t ⟨by decide, B_t⟩ (gc_hA S_t rfl A_t_0) ?_
          show gv_X _ _ (89, [(0, .inr (.inr (some 39))), (1, .inr (.inr (some a1))), (2, .inl v2_11), (3, .inl v3_11)], [.inr (.inr (some (t + 1))), .inl (v2_11 + 2), .inr (.inr (some (a1 + 7)))], sh, gc_h sh I22 J10 A)
          refine gv_run 1 true hD (pc' := 90) (lv' := [(0, .inr (.inr (some 39))), (1, .inr (.inr (some a1))), (2, .inl v2_11), (3, .inl v3_11)]) (st' := [.inr (.inr (some 39)), .inr (.inr (some (t + 1))), .inl (v2_11 + 2), .inr (.inr (some (a1 + 7)))]) (h' := gc_h sh I22 J10 A) (C := (True ∧ True)) rfl ⟨trivial, trivial⟩ ?_
          refine gv_get hD rfl rfl S_39 ⟨by decide, B_39⟩ (gc_hA S_39 rfl A_39_1) ?_
          show gv_X _ _ (93, [(0, .inr (.inr (some 39))), (1, .inr (.inr (some a1))), (2, .inl v2_11), (3, .inl v3_11)], [.inr (.inr (some 23)), .inr (.inr (some (t + 1))), .inl (v2_11 + 2), .inr (.inr (some (a1 + 7)))], sh, gc_h sh I22 J10 A)
          refine gv_get hD rfl rfl S_23 ⟨by decide, B_23⟩ (gc_hJ S_23 rfl) ?_
          show gv_X _ _ (96, [(0, .inr (.inr (some 39))), (1, .inr (.inr (some a1))), (2, .inl v2_11), (3, .inl v3_11)], [.inr (.inl (J10 23 9)), .inr (.inr (some (t + 1))), .inl (v2_11 + 2), .inr (.inr (some (a1 + 7)))], sh, gc_h sh I22 J10 A)
          obtain ⟨r41, h41, E41, P41⟩ := d_X4_find (ws0 := ws0) (tb := tb) hws htb sh ro I22 J10 A hI22 (t + 1) 8 6 (J10 23 9) h_t_1     
          obtain ⟨rfl, ⟨z41, rfl, q41⟩⟩ := P41
          refine gv_callV hD rfl (As := [.inr (.inl (J10 23 9))]) (st := [.inl (v2_11 + 2), .inr (.inr (some (a1 + 7)))]) rfl B_t_1 S_t_1 rfl (gc_lV6 hws rfl) (Nat.le_of_ble_eq_true rfl) (gz_Ev_mono (d := 1) (by decide) E41) ?_
          show gv_X _ _ (99, [(0, .inr (.inr (some 39))), (1, .inr (.inr (some a1))), (2, .inl v2_11), (3, .inl v3_11)], [.inl z41, .inl (v2_11 + 2), .inr (.inr (some (a1 + 7)))], sh, gc_h sh I22 J10 A)
          obtain ⟨r42, h42, E42, P42⟩ := d_X11_shiftOf (ws0 := ws0) (tb := tb) hws htb sh ro I22 J10 A hI22  z41    ⟨by omega, by omega⟩  
          obtain ⟨rfl, ⟨z42, rfl, q42⟩⟩ := P42
          refine gv_callS hD rfl (As := [.inl z41]) (st := [.inl (v2_11 + 2), .inr (.inr (some (a1 + 7)))]) rfl (gc_lS6 hws rfl) (Nat.le_of_ble_eq_true rfl) (gz_Ev_mono (d := 1) (by decide) E42) ?_
          show gv_X _ _ (102, [(0, .inr (.inr (some 39))), (1, .inr (.inr (some a1))), (2, .inl v2_11), (3, .inl v3_11)], [.inl z42, .inl (v2_11 + 2), .inr (.inr (some (a1 + 7)))], sh, gc_h sh I22 J10 A)
          refine gv_iast hD rfl S_a1_7 ⟨by decide, B_a1_7⟩ ⟨by omega, by omega⟩ ?_
          refine gc_st hI22 S_a1_7 rfl R_a1_7 (lo := 0) (hi := 21) (gc_lom (c := 2) rfl (by omega) rfl) (gc_him (c := 2) rfl (by omega) rfl) (by omega) (by omega) (fun I43 hI43 q44 p44 => ?_)
          have FI43 := gc_frs (W := fun q j => (q = 39 ∧ j = 3) ∨ (q = 39 ∧ j = 4) ∨ (q = 23 ∧ j = 5) ∨ (q = 23 ∧ j = 6) ∨ (q = 23 ∧ j = 7) ∨ (q = 23 ∧ j = 8) ∨ q = (a1 + 7) ∨ (q = a1 ∧ j = 12)) FI22 (Or.inr (Or.inr (Or.inr (Or.inr (Or.inr (Or.inr (Or.inl rfl))))))) p44
          have t45 := p44 23 1 (fun h => absurd h.1 (by omega))
          have t46 := p44 23 5 (fun h => absurd h.1 (by omega))
          have t47 := p44 23 6 (fun h => absurd h.1 (by omega))
          have t48 := p44 23 7 (fun h => absurd h.1 (by omega))
          have t49 := p44 a1 12 (fun h => absurd h.1 (by omega))
          have t50 := p44 23 8 (fun h => absurd h.1 (by omega))
          have t51 := p44 (t + 1) 1 (fun h => absurd h.1 (by omega))
          have t52 := p44 39 2 (fun h => absurd h.1 (by omega))
          have f53 := (show 0 ≤ I43 23 1 ∧ I43 23 1 ≤ 1000 from gc_in hI43 R_23 rfl rfl)
          have f54 := (show 0 ≤ I43 23 5 ∧ I43 23 5 ≤ 1000 from gc_in hI43 R_23 rfl rfl)
          have f55 := (show 0 ≤ I43 23 6 ∧ I43 23 6 ≤ 1001 from gc_in hI43 R_23 rfl rfl)
          have f56 := (show 0 ≤ I43 23 7 ∧ I43 23 7 ≤ 125 from gc_in hI43 R_23 rfl rfl)
          have f57 := (show 0 ≤ I43 a1 12 ∧ I43 a1 12 ≤ 6 from gc_in hI43 R_a1 rfl rfl)
          have f58 := (show 0 ≤ I43 23 8 ∧ I43 23 8 ≤ 999999 from gc_in hI43 R_23 rfl rfl)
          have f59 := (show 0 ≤ I43 (t + 1) 1 ∧ I43 (t + 1) 1 ≤ 8 from gc_in hI43 R_t_1 rfl rfl)
          have f60 := (show (-1) ≤ I43 39 2 ∧ I43 39 2 ≤ 999999 from gc_in hI43 R_39 rfl rfl)
          have KLT_I43 := gc_LT_fr KLT_I22 (p44 23 5 (fun h => absurd h.1 (by omega))) (p44 23 6 (fun h => absurd h.1 (by omega))) (p44 23 7 (fun h => absurd h.1 (by omega))) (fun k => p44 24 k (fun h => absurd h.1 (by omega)))
          show gv_X _ _ (103, [(0, .inr (.inr (some 39))), (1, .inr (.inr (some a1))), (2, .inl v2_11), (3, .inl v3_11)], [], sh, gc_h sh I43 J10 A)
          refine gv_run 1 true hD (pc' := 104) (lv' := [(0, .inr (.inr (some 39))), (1, .inr (.inr (some a1))), (2, .inl v2_11), (3, .inl v3_11)]) (st' := [.inr (.inr (some 39))]) (h' := gc_h sh I43 J10 A) (C := (True ∧ True)) rfl ⟨trivial, trivial⟩ ?_
          refine gv_get hD rfl rfl S_39 ⟨by decide, B_39⟩ (gc_hA S_39 rfl A_39_1) ?_
          show gv_X _ _ (107, [(0, .inr (.inr (some 39))), (1, .inr (.inr (some a1))), (2, .inl v2_11), (3, .inl v3_11)], [.inr (.inr (some 23))], sh, gc_h sh I43 J10 A)
          obtain ⟨r61, h61, E61, P61⟩ := d_X9_advance (ws0 := ws0) (tb := tb) hws htb sh ro I43 J10 A hI43 23  (gc_b23 hb)    (by omega) 
          obtain ⟨I62, J63, rfl, hI62, g61, k61, ⟨rfl, q61⟩⟩ := P61
          have FI62 := gc_frc (W := fun q j => (q = 39 ∧ j = 3) ∨ (q = 39 ∧ j = 4) ∨ (q = 23 ∧ j = 5) ∨ (q = 23 ∧ j = 6) ∨ (q = 23 ∧ j = 7) ∨ (q = 23 ∧ j = 8) ∨ q = (a1 + 7) ∨ (q = a1 ∧ j = 12)) (V := fun q j => (q = 23 ∧ j = 5) ∨ (q = 23 ∧ j = 6) ∨ (q = 23 ∧ j = 7) ∨ (q = 23 ∧ j = 8)) FI43 (fun q j h => (h.elim (fun h => (Or.inr (Or.inr (Or.inl h)))) (fun h => (h.elim (fun h => (Or.inr (Or.inr (Or.inr (Or.inl h))))) (fun h => (h.elim (fun h => (Or.inr (Or.inr (Or.inr (Or.inr (Or.inl h)))))) (fun h => (Or.inr (Or.inr (Or.inr (Or.inr (Or.inr (Or.inl h))))))))))))) g61
          have FJ63 := gc_frc (W := fun q j => (q = 23 ∧ j = 9)) (V := fun q j => (q = 23 ∧ j = 9)) FJ10 (fun q j h => h) k61
          have t64 := (g61 23 1).resolve_left (by omega)
          have t65 := (g61 a1 12).resolve_left (by omega)
          have t66 := (g61 (t + 1) 1).resolve_left (by omega)
          have t67 := (g61 39 2).resolve_left (by omega)
          have f68 := (show 0 ≤ I62 23 1 ∧ I62 23 1 ≤ 1000 from gc_in hI62 R_23 rfl rfl)
          have f69 := (show 0 ≤ I62 23 5 ∧ I62 23 5 ≤ 1000 from gc_in hI62 R_23 rfl rfl)
          have f70 := (show 0 ≤ I62 23 6 ∧ I62 23 6 ≤ 1001 from gc_in hI62 R_23 rfl rfl)
          have f71 := (show 0 ≤ I62 23 7 ∧ I62 23 7 ≤ 125 from gc_in hI62 R_23 rfl rfl)
          have f72 := (show 0 ≤ I62 a1 12 ∧ I62 a1 12 ≤ 6 from gc_in hI62 R_a1 rfl rfl)
          have f73 := (show 0 ≤ I62 23 8 ∧ I62 23 8 ≤ 999999 from gc_in hI62 R_23 rfl rfl)
          have f74 := (show 0 ≤ I62 (t + 1) 1 ∧ I62 (t + 1) 1 ≤ 8 from gc_in hI62 R_t_1 rfl rfl)
          have f75 := (show (-1) ≤ I62 39 2 ∧ I62 39 2 ≤ 999999 from gc_in hI62 R_39 rfl rfl)
          have KLT_I62 : gc_LT I62 := q61.2.2.2.2.2.2.2
          refine gv_callV hD rfl (As := []) (st := []) rfl B_23 S_23 rfl (gc_lV6 hws rfl) (Nat.le_of_ble_eq_true rfl) (gz_Ev_mono (d := 2) (by decide) E61) ?_
          show gv_X _ _ (110, [(0, .inr (.inr (some 39))), (1, .inr (.inr (some a1))), (2, .inl v2_11), (3, .inl v3_11)], [], sh, gc_h sh I62 J63 A)
          refine gv_run 2 true hD (pc' := 112) (lv' := [(0, .inr (.inr (some 39))), (1, .inr (.inr (some a1))), (2, .inl v2_11), (3, .inl v3_11)]) (st' := [.inr (.inr (some a1)), .inr (.inr (some a1))]) (h' := gc_h sh I62 J63 A) (C := ((True ∧ True) ∧ True)) rfl ⟨⟨trivial, trivial⟩, trivial⟩ ?_
          have f76 := (show 0 ≤ I62 a1 12 ∧ I62 a1 12 ≤ 6 from gc_in hI62 R_a1 rfl rfl)
          refine gv_get hD rfl rfl S_a1 ⟨by decide, B_a1⟩ (gc_hI S_a1 rfl) ?_
          show gv_X _ _ (115, [(0, .inr (.inr (some 39))), (1, .inr (.inr (some a1))), (2, .inl v2_11), (3, .inl v3_11)], [.inl (I62 a1 12), .inr (.inr (some a1))], sh, gc_h sh I62 J63 A)
          refine gv_run 2 true hD (pc' := 117) (lv' := [(0, .inr (.inr (some 39))), (1, .inr (.inr (some a1))), (2, .inl v2_11), (3, .inl v3_11)]) (st' := [.inl ((I62 a1 12) + 1), .inr (.inr (some a1))]) (h' := gc_h sh I62 J63 A) (C := ((True ∧ True) ∧ True)) rfl ⟨⟨trivial, trivial⟩, trivial⟩ ?_
          refine gv_put hD rfl rfl S_a1 ⟨by decide, B_a1⟩ rfl trivial ?_
          refine gc_st (k := 12) hI62 S_a1 rfl R_a1 (lo := 0) (hi := 6) rfl rfl (by omega) (by omega) (fun I77 hI77 q78 p78 => ?_)
          have FI77 := gc_frs (W := fun q j => (q = 39 ∧ j = 3) ∨ (q = 39 ∧ j = 4) ∨ (q = 23 ∧ j = 5) ∨ (q = 23 ∧ j = 6) ∨ (q = 23 ∧ j = 7) ∨ (q = 23 ∧ j = 8) ∨ q = (a1 + 7) ∨ (q = a1 ∧ j = 12)) FI62 (Or.inr (Or.inr (Or.inr (Or.inr (Or.inr (Or.inr (Or.inr ⟨rfl, rfl⟩))))))) p78
          have t79 := p78 23 1 (fun h => absurd h.1 (by omega))
          have t80 := p78 23 5 (fun h => absurd h.1 (by omega))
          have t81 := p78 23 6 (fun h => absurd h.1 (by omega))
          have t82 := p78 23 7 (fun h => absurd h.1 (by omega))
          have t83 := p78 23 8 (fun h => absurd h.1 (by omega))
          have t84 := p78 (t + 1) 1 (fun h => absurd h.1 (by omega))
          have t85 := p78 39 2 (fun h => absurd h.1 (by omega))
          have f86 := (show 0 ≤ I77 23 1 ∧ I77 23 1 ≤ 1000 from gc_in hI77 R_23 rfl rfl)
          have f87 := (show 0 ≤ I77 23 5 ∧ I77 23 5 ≤ 1000 from gc_in hI77 R_23 rfl rfl)
          have f88 := (show 0 ≤ I77 23 6 ∧ I77 23 6 ≤ 1001 from gc_in hI77 R_23 rfl rfl)
          have f89 := (show 0 ≤ I77 23 7 ∧ I77 23 7 ≤ 125 from gc_in hI77 R_23 rfl rfl)
          have f90 := (show 0 ≤ I77 a1 12 ∧ I77 a1 12 ≤ 6 from gc_in hI77 R_a1 rfl rfl)
          have f91 := (show 0 ≤ I77 23 8 ∧ I77 23 8 ≤ 999999 from gc_in hI77 R_23 rfl rfl)
          have f92 := (show 0 ≤ I77 (t + 1) 1 ∧ I77 (t + 1) 1 ≤ 8 from gc_in hI77 R_t_1 rfl rfl)
          have f93 := (show (-1) ≤ I77 39 2 ∧ I77 39 2 ≤ 999999 from gc_in hI77 R_39 rfl rfl)
          have KLT_I77 := gc_LT_fr KLT_I62 (p78 23 5 (fun h => absurd h.1 (by omega))) (p78 23 6 (fun h => absurd h.1 (by omega))) (p78 23 7 (fun h => absurd h.1 (by omega))) (fun k => p78 24 k (fun h => absurd h.1 (by omega)))
          show gv_X _ _ (120, [(0, .inr (.inr (some 39))), (1, .inr (.inr (some a1))), (2, .inl v2_11), (3, .inl v3_11)], [], sh, gc_h sh I77 J63 A)
          refine gv_run 1 true hD (pc' := 121) (lv' := [(0, .inr (.inr (some 39))), (1, .inr (.inr (some a1))), (2, .inl v2_11), (3, .inl v3_11)]) (st' := [.inl 1]) (h' := gc_h sh I77 J63 A) (C := (True ∧ True)) rfl ⟨trivial, trivial⟩ ?_
          exact gv_zret hD rfl (by omega) ⟨I77, J63, rfl, hI77, FI77, FJ63, KLT_I77, ⟨_, rfl, by omega⟩⟩
        · show gv_X _ _ (73, [(0, .inr (.inr (some 39))), (1, .inr (.inr (some a1))), (2, .inl v2_11), (3, .inl v3_11)], [], sh, gc_h sh I22 J10 A)
          refine gv_run 1 true hD (pc' := 74) (lv' := [(0, .inr (.inr (some 39))), (1, .inr (.inr (some a1))), (2, .inl v2_11), (3, .inl v3_11)]) (st' := [.inl 0]) (h' := gc_h sh I22 J10 A) (C := (True ∧ True)) rfl ⟨trivial, trivial⟩ ?_
          exact gv_zret hD rfl (by omega) ⟨I22, J10, rfl, hI22, FI22, FJ10, KLT_I22, ⟨_, rfl, by omega⟩⟩
      · show gv_X _ _ (14, [(0, .inr (.inr (some 39))), (1, .inr (.inr (some a1))), (2, .inl v2_11), (3, .inl v3_11)], [], sh, gc_h sh I9 J10 A)
        refine gv_run 2 true hD (pc' := 16) (lv' := [(0, .inr (.inr (some 39))), (1, .inr (.inr (some a1))), (2, .inl v2_11), (3, .inl v3_11)]) (st' := [.inr (.inr (some a1)), .inr (.inr (some 39))]) (h' := gc_h sh I9 J10 A) (C := ((True ∧ True) ∧ True)) rfl ⟨⟨trivial, trivial⟩, trivial⟩ ?_
        obtain ⟨r94, h94, E94, P94⟩ := d_X6_needArgument (ws0 := ws0) (tb := tb) hws htb sh ro I9 J10 A hI9  a1 hb h_a1 G_a1    
        obtain ⟨I95, J96, rfl, hI95, g94, k94, ⟨z94, rfl, q94⟩⟩ := P94
        have FI95 := gc_frc (W := fun q j => (q = 39 ∧ j = 3) ∨ (q = 39 ∧ j = 4) ∨ (q = 23 ∧ j = 5) ∨ (q = 23 ∧ j = 6) ∨ (q = 23 ∧ j = 7) ∨ (q = 23 ∧ j = 8) ∨ q = (a1 + 7) ∨ (q = a1 ∧ j = 12)) (V := fun q j => (q = 39 ∧ j = 3) ∨ (q = 39 ∧ j = 4)) FI9 (fun q j h => (h.elim (fun h => (Or.inl h)) (fun h => (Or.inr (Or.inl h))))) g94
        have t97 := (g94 23 1).resolve_left (by omega)
        have t98 := (g94 23 5).resolve_left (by omega)
        have t99 := (g94 23 6).resolve_left (by omega)
        have t100 := (g94 23 7).resolve_left (by omega)
        have t101 := (g94 a1 12).resolve_left (by omega)
        have t102 := (g94 23 8).resolve_left (by omega)
        have t103 := (g94 (t + 1) 1).resolve_left (by omega)
        have t104 := (g94 39 2).resolve_left (by omega)
        have f105 := (show 0 ≤ I95 23 1 ∧ I95 23 1 ≤ 1000 from gc_in hI95 R_23 rfl rfl)
        have f106 := (show 0 ≤ I95 23 5 ∧ I95 23 5 ≤ 1000 from gc_in hI95 R_23 rfl rfl)
        have f107 := (show 0 ≤ I95 23 6 ∧ I95 23 6 ≤ 1001 from gc_in hI95 R_23 rfl rfl)
        have f108 := (show 0 ≤ I95 23 7 ∧ I95 23 7 ≤ 125 from gc_in hI95 R_23 rfl rfl)
        have f109 := (show 0 ≤ I95 a1 12 ∧ I95 a1 12 ≤ 6 from gc_in hI95 R_a1 rfl rfl)
        have f110 := (show 0 ≤ I95 23 8 ∧ I95 23 8 ≤ 999999 from gc_in hI95 R_23 rfl rfl)
        have f111 := (show 0 ≤ I95 (t + 1) 1 ∧ I95 (t + 1) 1 ≤ 8 from gc_in hI95 R_t_1 rfl rfl)
        have f112 := (show (-1) ≤ I95 39 2 ∧ I95 39 2 ≤ 999999 from gc_in hI95 R_39 rfl rfl)
        obtain rfl : J10 = J96 := funext fun q => funext fun j => ((k94 q j).resolve_left id).symm
        have KLT_I95 := gc_LT_fr KLT_I9 ((g94 23 5).resolve_left (by omega)) ((g94 23 6).resolve_left (by omega)) ((g94 23 7).resolve_left (by omega)) (fun k => (g94 24 k).resolve_left (by omega))
        refine gv_callV hD rfl (As := [.inr (.inr (some a1))]) (st := []) rfl B_39 S_39 rfl (gc_lV6 hws rfl) (Nat.le_of_ble_eq_true rfl) (gz_Ev_mono (d := 3) (by decide) E94) ?_
        show gv_X _ _ (19, [(0, .inr (.inr (some 39))), (1, .inr (.inr (some a1))), (2, .inl v2_11), (3, .inl v3_11)], [.inl z94], sh, gc_h sh I95 J10 A)
        refine gv_if_ne (t := 24) hD rfl rfl ⟨by omega, by omega⟩ (fun c113 => ?_) (fun c113 => ?_)
        · show gv_X _ _ (24, [(0, .inr (.inr (some 39))), (1, .inr (.inr (some a1))), (2, .inl v2_11), (3, .inl v3_11)], [], sh, gc_h sh I95 J10 A)
          refine gv_run 1 true hD (pc' := 25) (lv' := [(0, .inr (.inr (some 39))), (1, .inr (.inr (some a1))), (2, .inl v2_11), (3, .inl v3_11)]) (st' := [.inr (.inr (some a1))]) (h' := gc_h sh I95 J10 A) (C := (True ∧ True)) rfl ⟨trivial, trivial⟩ ?_
          refine gv_get hD rfl rfl S_a1 ⟨by decide, B_a1⟩ (gc_hA S_a1 rfl A_a1_13) ?_
          show gv_X _ _ (28, [(0, .inr (.inr (some 39))), (1, .inr (.inr (some a1))), (2, .inl v2_11), (3, .inl v3_11)], [.inr (.inr (some (a1 + 7)))], sh, gc_h sh I95 J10 A)
          refine gv_run 4 true hD (pc' := 32) (lv' := [(0, .inr (.inr (some 39))), (1, .inr (.inr (some a1))), (2, .inl v2_11), (3, .inl v3_11)]) (st' := [.inr (.inr (some a1)), .inl (v2_11 + v3_11), .inr (.inr (some (a1 + 7)))]) (h' := gc_h sh I95 J10 A) (C := ((((True ∧ True) ∧ True) ∧ True) ∧ True)) rfl ⟨⟨⟨⟨trivial, trivial⟩, trivial⟩, trivial⟩, trivial⟩ ?_
          refine gv_get hD rfl rfl S_a1 ⟨by decide, B_a1⟩ (gc_hA S_a1 rfl A_a1_11) ?_
          show gv_X _ _ (35, [(0, .inr (.inr (some 39))), (1, .inr (.inr (some a1))), (2, .inl v2_11), (3, .inl v3_11)], [.inr (.inr (some (a1 + 6))), .inl (v2_11 + v3_11), .inr (.inr (some (a1 + 7)))], sh, gc_h sh I95 J10 A)
          refine gv_run 1 true hD (pc' := 36) (lv' := [(0, .inr (.inr (some 39))), (1, .inr (.inr (some a1))), (2, .inl v2_11), (3, .inl v3_11)]) (st' := [.inr (.inr (some 39)), .inr (.inr (some (a1 + 6))), .inl (v2_11 + v3_11), .inr (.inr (some (a1 + 7)))]) (h' := gc_h sh I95 J10 A) (C := (True ∧ True)) rfl ⟨trivial, trivial⟩ ?_
          refine gv_get hD rfl rfl S_39 ⟨by decide, B_39⟩ (gc_hA S_39 rfl A_39_1) ?_
          show gv_X _ _ (39, [(0, .inr (.inr (some 39))), (1, .inr (.inr (some a1))), (2, .inl v2_11), (3, .inl v3_11)], [.inr (.inr (some 23)), .inr (.inr (some (a1 + 6))), .inl (v2_11 + v3_11), .inr (.inr (some (a1 + 7)))], sh, gc_h sh I95 J10 A)
          have f114 := (show 0 ≤ I95 23 8 ∧ I95 23 8 ≤ 999999 from gc_in hI95 R_23 rfl rfl)
          refine gv_get hD rfl rfl S_23 ⟨by decide, B_23⟩ (gc_hI S_23 rfl) ?_
          show gv_X _ _ (42, [(0, .inr (.inr (some 39))), (1, .inr (.inr (some a1))), (2, .inl v2_11), (3, .inl v3_11)], [.inl (I95 23 8), .inr (.inr (some (a1 + 6))), .inl (v2_11 + v3_11), .inr (.inr (some (a1 + 7)))], sh, gc_h sh I95 J10 A)
          refine gv_run 2 true hD (pc' := 44) (lv' := [(0, .inr (.inr (some 39))), (1, .inr (.inr (some a1))), (2, .inl v2_11), (3, .inl v3_11)]) (st' := [.inl ((I95 23 8) - 1), .inr (.inr (some (a1 + 6))), .inl (v2_11 + v3_11), .inr (.inr (some (a1 + 7)))]) (h' := gc_h sh I95 J10 A) (C := ((True ∧ True) ∧ True)) rfl ⟨⟨trivial, trivial⟩, trivial⟩ ?_
          have f115 := (show (-1) ≤ I95 (a1 + 6) (Int.toNat (((I95 23 8) - 1))) ∧ I95 (a1 + 6) (Int.toNat (((I95 23 8) - 1))) ≤ 3 from gc_in hI95 R_a1_6 rfl rfl)
          refine gv_iald hD rfl S_a1_6 rfl ⟨by decide, B_a1_6⟩ ⟨by omega, by omega⟩ (gc_iI S_a1_6 rfl) ?_
          show gv_X _ _ (45, [(0, .inr (.inr (some 39))), (1, .inr (.inr (some a1))), (2, .inl v2_11), (3, .inl v3_11)], [.inl (I95 (a1 + 6) (Int.toNat (((I95 23 8) - 1)))), .inl (v2_11 + v3_11), .inr (.inr (some (a1 + 7)))], sh, gc_h sh I95 J10 A)
          refine gv_iast hD rfl S_a1_7 ⟨by decide, B_a1_7⟩ ⟨by omega, by omega⟩ ?_
          refine gc_st hI95 S_a1_7 rfl R_a1_7 (lo := 0) (hi := 3) ((show (Int.toNat (v2_11 + v3_11)) % 3 = 0 ∨ (Int.toNat (v2_11 + v3_11)) % 3 = 1 from by omega).elim (fun h => gc_lom rfl h rfl) (fun h => gc_lom rfl h rfl)) ((show (Int.toNat (v2_11 + v3_11)) % 3 = 0 ∨ (Int.toNat (v2_11 + v3_11)) % 3 = 1 from by omega).elim (fun h => gc_him rfl h rfl) (fun h => gc_him rfl h rfl)) (by omega) (by omega) (fun I116 hI116 q117 p117 => ?_)
          have FI116 := gc_frs (W := fun q j => (q = 39 ∧ j = 3) ∨ (q = 39 ∧ j = 4) ∨ (q = 23 ∧ j = 5) ∨ (q = 23 ∧ j = 6) ∨ (q = 23 ∧ j = 7) ∨ (q = 23 ∧ j = 8) ∨ q = (a1 + 7) ∨ (q = a1 ∧ j = 12)) FI95 (Or.inr (Or.inr (Or.inr (Or.inr (Or.inr (Or.inr (Or.inl rfl))))))) p117
          have t118 := p117 23 1 (fun h => absurd h.1 (by omega))
          have t119 := p117 23 5 (fun h => absurd h.1 (by omega))
          have t120 := p117 23 6 (fun h => absurd h.1 (by omega))
          have t121 := p117 23 7 (fun h => absurd h.1 (by omega))
          have t122 := p117 a1 12 (fun h => absurd h.1 (by omega))
          have t123 := p117 23 8 (fun h => absurd h.1 (by omega))
          have t124 := p117 (t + 1) 1 (fun h => absurd h.1 (by omega))
          have t125 := p117 39 2 (fun h => absurd h.1 (by omega))
          have f126 := (show 0 ≤ I116 23 1 ∧ I116 23 1 ≤ 1000 from gc_in hI116 R_23 rfl rfl)
          have f127 := (show 0 ≤ I116 23 5 ∧ I116 23 5 ≤ 1000 from gc_in hI116 R_23 rfl rfl)
          have f128 := (show 0 ≤ I116 23 6 ∧ I116 23 6 ≤ 1001 from gc_in hI116 R_23 rfl rfl)
          have f129 := (show 0 ≤ I116 23 7 ∧ I116 23 7 ≤ 125 from gc_in hI116 R_23 rfl rfl)
          have f130 := (show 0 ≤ I116 a1 12 ∧ I116 a1 12 ≤ 6 from gc_in hI116 R_a1 rfl rfl)
          have f131 := (show 0 ≤ I116 23 8 ∧ I116 23 8 ≤ 999999 from gc_in hI116 R_23 rfl rfl)
          have f132 := (show 0 ≤ I116 (t + 1) 1 ∧ I116 (t + 1) 1 ≤ 8 from gc_in hI116 R_t_1 rfl rfl)
          have f133 := (show (-1) ≤ I116 39 2 ∧ I116 39 2 ≤ 999999 from gc_in hI116 R_39 rfl rfl)
          have KLT_I116 := gc_LT_fr KLT_I95 (p117 23 5 (fun h => absurd h.1 (by omega))) (p117 23 6 (fun h => absurd h.1 (by omega))) (p117 23 7 (fun h => absurd h.1 (by omega))) (fun k => p117 24 k (fun h => absurd h.1 (by omega)))
          show gv_X _ _ (46, [(0, .inr (.inr (some 39))), (1, .inr (.inr (some a1))), (2, .inl v2_11), (3, .inl v3_11)], [], sh, gc_h sh I116 J10 A)
          refine gv_run 1 true hD (pc' := 47) (lv' := [(0, .inr (.inr (some 39))), (1, .inr (.inr (some a1))), (2, .inl v2_11), (3, .inl v3_11)]) (st' := [.inr (.inr (some 39))]) (h' := gc_h sh I116 J10 A) (C := (True ∧ True)) rfl ⟨trivial, trivial⟩ ?_
          refine gv_get hD rfl rfl S_39 ⟨by decide, B_39⟩ (gc_hA S_39 rfl A_39_1) ?_
          show gv_X _ _ (50, [(0, .inr (.inr (some 39))), (1, .inr (.inr (some a1))), (2, .inl v2_11), (3, .inl v3_11)], [.inr (.inr (some 23))], sh, gc_h sh I116 J10 A)
          obtain ⟨r134, h134, E134, P134⟩ := d_X9_advance (ws0 := ws0) (tb := tb) hws htb sh ro I116 J10 A hI116 23  (gc_b23 hb)    (by omega) 
          obtain ⟨I135, J136, rfl, hI135, g134, k134, ⟨rfl, q134⟩⟩ := P134
          have FI135 := gc_frc (W := fun q j => (q = 39 ∧ j = 3) ∨ (q = 39 ∧ j = 4) ∨ (q = 23 ∧ j = 5) ∨ (q = 23 ∧ j = 6) ∨ (q = 23 ∧ j = 7) ∨ (q = 23 ∧ j = 8) ∨ q = (a1 + 7) ∨ (q = a1 ∧ j = 12)) (V := fun q j => (q = 23 ∧ j = 5) ∨ (q = 23 ∧ j = 6) ∨ (q = 23 ∧ j = 7) ∨ (q = 23 ∧ j = 8)) FI116 (fun q j h => (h.elim (fun h => (Or.inr (Or.inr (Or.inl h)))) (fun h => (h.elim (fun h => (Or.inr (Or.inr (Or.inr (Or.inl h))))) (fun h => (h.elim (fun h => (Or.inr (Or.inr (Or.inr (Or.inr (Or.inl h)))))) (fun h => (Or.inr (Or.inr (Or.inr (Or.inr (Or.inr (Or.inl h))))))))))))) g134
          have FJ136 := gc_frc (W := fun q j => (q = 23 ∧ j = 9)) (V := fun q j => (q = 23 ∧ j = 9)) FJ10 (fun q j h => h) k134
          have t137 := (g134 23 1).resolve_left (by omega)
          have t138 := (g134 a1 12).resolve_left (by omega)
          have t139 := (g134 (t + 1) 1).resolve_left (by omega)
          have t140 := (g134 39 2).resolve_left (by omega)
          have f141 := (show 0 ≤ I135 23 1 ∧ I135 23 1 ≤ 1000 from gc_in hI135 R_23 rfl rfl)
          have f142 := (show 0 ≤ I135 23 5 ∧ I135 23 5 ≤ 1000 from gc_in hI135 R_23 rfl rfl)
          have f143 := (show 0 ≤ I135 23 6 ∧ I135 23 6 ≤ 1001 from gc_in hI135 R_23 rfl rfl)
          have f144 := (show 0 ≤ I135 23 7 ∧ I135 23 7 ≤ 125 from gc_in hI135 R_23 rfl rfl)
          have f145 := (show 0 ≤ I135 a1 12 ∧ I135 a1 12 ≤ 6 from gc_in hI135 R_a1 rfl rfl)
          have f146 := (show 0 ≤ I135 23 8 ∧ I135 23 8 ≤ 999999 from gc_in hI135 R_23 rfl rfl)
          have f147 := (show 0 ≤ I135 (t + 1) 1 ∧ I135 (t + 1) 1 ≤ 8 from gc_in hI135 R_t_1 rfl rfl)
          have f148 := (show (-1) ≤ I135 39 2 ∧ I135 39 2 ≤ 999999 from gc_in hI135 R_39 rfl rfl)
          have KLT_I135 : gc_LT I135 := q134.2.2.2.2.2.2.2
          refine gv_callV hD rfl (As := []) (st := []) rfl B_23 S_23 rfl (gc_lV6 hws rfl) (Nat.le_of_ble_eq_true rfl) (gz_Ev_mono (d := 2) (by decide) E134) ?_
          show gv_X _ _ (53, [(0, .inr (.inr (some 39))), (1, .inr (.inr (some a1))), (2, .inl v2_11), (3, .inl v3_11)], [], sh, gc_h sh I135 J136 A)
          refine gv_run 2 true hD (pc' := 9) (lv' := [(3, .inl (v3_11 + 1)), (0, .inr (.inr (some 39))), (1, .inr (.inr (some a1))), (2, .inl v2_11)]) (st' := []) (h' := gc_h sh I135 J136 A) (C := ((True ∧ True) ∧ True)) rfl ⟨⟨trivial, trivial⟩, trivial⟩ ?_
          refine gv_pick [1, 2, 3, 0] rfl ?_
          exact ih9 I135 J136 v2_11 (v3_11 + 1) (by omega) hI135 FI135 FJ136 KLT_I135 (by omega)
        · show gv_X _ _ (22, [(0, .inr (.inr (some 39))), (1, .inr (.inr (some a1))), (2, .inl v2_11), (3, .inl v3_11)], [], sh, gc_h sh I95 J10 A)
          refine gv_run 1 true hD (pc' := 23) (lv' := [(0, .inr (.inr (some 39))), (1, .inr (.inr (some a1))), (2, .inl v2_11), (3, .inl v3_11)]) (st' := [.inl 0]) (h' := gc_h sh I95 J10 A) (C := (True ∧ True)) rfl ⟨trivial, trivial⟩ ?_
          exact gv_zret hD rfl (by omega) ⟨I95, J10, rfl, hI95, FI95, FJ10, KLT_I95, ⟨_, rfl, by omega⟩⟩
  refine gv_run 2 true hD (pc' := 2) (lv' := [(0, .inr (.inr (some 39))), (1, .inr (.inr (some a1)))]) (st' := [.inr (.inr (some a1)), .inl 3]) (h' := gc_h sh I J A) (C := ((True ∧ True) ∧ True)) rfl ⟨⟨trivial, trivial⟩, trivial⟩ ?_
  have f149 := (show 0 ≤ I a1 12 ∧ I a1 12 ≤ 6 from gc_in hI R_a1 rfl rfl)
  refine gv_get hD rfl rfl S_a1 ⟨by decide, B_a1⟩ (gc_hI S_a1 rfl) ?_
  show gv_X _ _ (5, [(0, .inr (.inr (some 39))), (1, .inr (.inr (some a1)))], [.inl (I a1 12), .inl 3], sh, gc_h sh I J A)
  refine gv_run 4 true hD (pc' := 9) (lv' := [(3, .inl 0), (2, .inl (3 * (I a1 12))), (0, .inr (.inr (some 39))), (1, .inr (.inr (some a1)))]) (st' := []) (h' := gc_h sh I J A) (C := ((((True ∧ True) ∧ True) ∧ True) ∧ True)) rfl ⟨⟨⟨⟨trivial, trivial⟩, trivial⟩, trivial⟩, trivial⟩ ?_
  refine gv_pick [2, 3, 1, 0] rfl ?_
  exact L9 _ I J ((3 * (I a1 12))) 0 (Nat.lt_succ_self _) hI FI FJ KLT_I (by omega)
