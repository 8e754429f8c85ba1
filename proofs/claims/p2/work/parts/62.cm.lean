def gc_Ls (sh : gz_Sh) (ro : Nat → Nat) (A : gc_A) (p : Nat) (I : gr_I) : Prop := ∀ i : Nat, (i : Int) < I p 13 → ∃ q, A (p + 16) i = some q ∧ gc_isLin sh ro A q ∧ 144 ≤ q
theorem gc_Ls_fr {sh : gz_Sh} {ro : Nat → Nat} {A : gc_A} {p : Nat} {I I' : gr_I} (h : gc_Ls sh ro A p I) (e : I' p 13 = I p 13) : gc_Ls sh ro A p I' := fun i hi => h i (by omega)
def gc_Ts (sh : gz_Sh) (ro : Nat → Nat) (A : gc_A) (I : gr_I) : Prop := ∀ i : Nat, (i : Int) < I 8 1 → ∃ q, A 10 i = some q ∧ gc_isTongue sh ro A q ∧ 144 ≤ q
theorem gc_Ts_fr {sh : gz_Sh} {ro : Nat → Nat} {A : gc_A} {I I' : gr_I} (h : gc_Ts sh ro A I) (e : I' 8 1 = I 8 1) : gc_Ts sh ro A I' := fun i hi => h i (by omega)
set_option maxHeartbeats 4000000 in
set_option maxRecDepth 100000 in
theorem d_X11_linsOf {ws0 : List Cond} {tb : String → gz_T} (hws : gc_Ws ws0) (htb : gc_tbs tb) (sh : gz_Sh) (ro : Nat → Nat) (I : gr_I) (J : gr_J) (A : gc_A) (hI : gc_Inv ro I) (p : Nat) (a1 : Int) (hp : gc_isTongue sh ro A p) (ha1 : (-2147483648) ≤ a1 ∧ a1 ≤ 2147483647) (x0 : gc_Ls sh ro A p I) : ∃ r h', gz_Ev ws0 tb 1 (yX11_linsOf, cX11_linsOf, 4, (some .int)) [.inr (.inr (some p)), .inl a1] sh (gc_h sh I J A) r sh h' 0 0 ∧ (h' = gc_h sh I J A ∧ (∃ z : Int, r = some (.inl z) ∧ 0 ≤ z ∧ z ≤ 384)) := by
  obtain ⟨S_p, R_p, B_p, A_p_0, h_p_1, A_p_1, h_p_3, A_p_2, S_p_5, R_p_5, B_p_5, A_p_3, S_p_6, R_p_6, B_p_6, A_p_4, h_p_7, A_p_5, S_p_9, R_p_9, B_p_9, A_p_7, S_p_10, R_p_10, B_p_10, A_p_8, h_p_11, A_p_9, S_p_13, R_p_13, B_p_13, A_p_10, S_p_14, R_p_14, B_p_14, A_p_12, S_p_15, R_p_15, B_p_15, A_p_14, S_p_16, R_p_16, B_p_16, A_p_15, h_p_17⟩ := id hp
  obtain ⟨S_p_1, R_p_1, B_p_1, A_p_1_0, S_p_1_1, R_p_1_1, B_p_1_1, Q0_p_1, Q1_p_1, Q2_p_1⟩ := id h_p_1
  obtain ⟨S_p_3, R_p_3, B_p_3, A_p_3_0, S_p_3_1, R_p_3_1, B_p_3_1, Q0_p_3, Q1_p_3, Q2_p_3⟩ := id h_p_3
  obtain ⟨S_p_7, R_p_7, B_p_7, A_p_7_0, S_p_7_1, R_p_7_1, B_p_7_1, Q0_p_7, Q1_p_7, Q2_p_7⟩ := id h_p_7
  obtain ⟨S_p_11, R_p_11, B_p_11, A_p_11_0, S_p_11_1, R_p_11_1, B_p_11_1, Q0_p_11, Q1_p_11, Q2_p_11⟩ := id h_p_11
  obtain ⟨S_p_17, R_p_17, B_p_17, A_p_17_0, S_20, R_20, B_20, A_p_17_1, S_p_17_1, R_p_17_1, B_p_17_1, A_p_17_2, S_p_17_2, R_p_17_2, B_p_17_2, A_p_17_3, S_p_17_3, R_p_17_3, B_p_17_3, A_p_17_4, S_p_17_4, R_p_17_4, B_p_17_4, A_p_17_5, S_p_17_5, R_p_17_5, B_p_17_5, S_p_17_6, R_p_17_6, B_p_17_6, S_p_17_7, R_p_17_7, B_p_17_7⟩ := id h_p_17
  have hD : gv_D (gc_E11 ws0 tb 0 (yX11_linsOf, cX11_linsOf, 4, (some .int)) kX11_linsOf) := gq_ok oX11_linsOf
  refine gc_ev11 (d := 0) (l := kX11_linsOf) (Po := fun r h' => (h' = gc_h sh I J A ∧ (∃ z : Int, r = some (.inl z) ∧ 0 ≤ z ∧ z ≤ 384))) htb rfl (Nat.le_of_ble_eq_true rfl) ?_
  have f1 := (show 0 ≤ I p 13 ∧ I p 13 ≤ 384 from gc_in hI R_p rfl rfl)
  have L4 : ∀ (n9 : Nat) (v2_2 : Int) (v3_2 : Int), (385 - v3_2).toNat < n9 → (((-2147483648) ≤ a1 ∧ a1 ≤ 2147483647) ∧ (0 ≤ v2_2 ∧ v2_2 ≤ 384) ∧ (0 ≤ v3_2 ∧ v3_2 ≤ 384) ∧ (v2_2 ≤ v3_2)) → gv_X (gc_E11 ws0 tb 0 (yX11_linsOf, cX11_linsOf, 4, (some .int)) kX11_linsOf) (gv_Q cX11_linsOf (some .int) sh (fun r h' => (h' = gc_h sh I J A ∧ (∃ z : Int, r = some (.inl z) ∧ 0 ≤ z ∧ z ≤ 384)))) (4, [(0, .inr (.inr (some p))), (1, .inl a1), (2, .inl v2_2), (3, .inl v3_2)], [], sh, gc_h sh I J A) := by
    intro n9
    induction n9 with
    | zero => intro v2_2 v3_2 hn; omega
    | succ n9 ih4 =>
      intro v2_2 v3_2 hn m_2
      obtain ⟨ha1_2, hv2_2, hv3_2, e0_2⟩ := m_2
      have f3 := (show 0 ≤ I p 13 ∧ I p 13 ≤ 384 from gc_in hI R_p rfl rfl)
      have L28 : ∀ (v2_4 : Int), (((-2147483648) ≤ a1 ∧ a1 ≤ 2147483647) ∧ (0 ≤ v2_4 ∧ v2_4 ≤ 384) ∧ (0 ≤ v3_2 ∧ v3_2 ≤ 383) ∧ (v2_4 ≤ v3_2 + 1)) → gv_X (gc_E11 ws0 tb 0 (yX11_linsOf, cX11_linsOf, 4, (some .int)) kX11_linsOf) (gv_Q cX11_linsOf (some .int) sh (fun r h' => (h' = gc_h sh I J A ∧ (∃ z : Int, r = some (.inl z) ∧ 0 ≤ z ∧ z ≤ 384)))) (28, [(0, .inr (.inr (some p))), (1, .inl a1), (2, .inl v2_4), (3, .inl v3_2)], [], sh, gc_h sh I J A) := by
        intro v2_4 m_4
        obtain ⟨ha1_4, hv2_4, hv3_2_4, e0_4⟩ := m_4
        have f5 := (show 0 ≤ I p 13 ∧ I p 13 ≤ 384 from gc_in hI R_p rfl rfl)
        refine gv_run 2 true hD (pc' := 4) (lv' := [(3, .inl (v3_2 + 1)), (0, .inr (.inr (some p))), (1, .inl a1), (2, .inl v2_4)]) (st' := []) (h' := gc_h sh I J A) (C := ((True ∧ True) ∧ True)) rfl ⟨⟨trivial, trivial⟩, trivial⟩ ?_
        refine gv_pick [1, 2, 3, 0] rfl ?_
        exact ih4 v2_4 (v3_2 + 1) (by omega) (by omega)
      refine gv_run 2 true hD (pc' := 6) (lv' := [(0, .inr (.inr (some p))), (1, .inl a1), (2, .inl v2_2), (3, .inl v3_2)]) (st' := [.inr (.inr (some p)), .inl v3_2]) (h' := gc_h sh I J A) (C := ((True ∧ True) ∧ True)) rfl ⟨⟨trivial, trivial⟩, trivial⟩ ?_
      have f6 := (show 0 ≤ I p 13 ∧ I p 13 ≤ 384 from gc_in hI R_p rfl rfl)
      refine gv_get hD rfl rfl S_p ⟨by decide, B_p⟩ (gc_hI S_p rfl) ?_
      show gv_X _ _ (9, [(0, .inr (.inr (some p))), (1, .inl a1), (2, .inl v2_2), (3, .inl v3_2)], [.inl (I p 13), .inl v3_2], sh, gc_h sh I J A)
      refine gv_icmp_ge (t := 34) hD rfl rfl ⟨⟨by omega, by omega⟩, ⟨by omega, by omega⟩⟩ (fun c7 => ?_) (fun c7 => ?_)
      · show gv_X _ _ (34, [(0, .inr (.inr (some p))), (1, .inl a1), (2, .inl v2_2), (3, .inl v3_2)], [], sh, gc_h sh I J A)
        refine gv_run 1 true hD (pc' := 35) (lv' := [(0, .inr (.inr (some p))), (1, .inl a1), (2, .inl v2_2), (3, .inl v3_2)]) (st' := [.inl v2_2]) (h' := gc_h sh I J A) (C := (True ∧ True)) rfl ⟨trivial, trivial⟩ ?_
        exact gv_iret hD rfl ⟨rfl, ⟨_, rfl, by omega⟩⟩
      · show gv_X _ _ (12, [(0, .inr (.inr (some p))), (1, .inl a1), (2, .inl v2_2), (3, .inl v3_2)], [], sh, gc_h sh I J A)
        refine gv_run 1 true hD (pc' := 13) (lv' := [(0, .inr (.inr (some p))), (1, .inl a1), (2, .inl v2_2), (3, .inl v3_2)]) (st' := [.inr (.inr (some p))]) (h' := gc_h sh I J A) (C := (True ∧ True)) rfl ⟨trivial, trivial⟩ ?_
        refine gv_get hD rfl rfl S_p ⟨by decide, B_p⟩ (gc_hA S_p rfl A_p_14) ?_
        show gv_X _ _ (16, [(0, .inr (.inr (some p))), (1, .inl a1), (2, .inl v2_2), (3, .inl v3_2)], [.inr (.inr (some (p + 16)))], sh, gc_h sh I J A)
        refine gv_run 1 true hD (pc' := 17) (lv' := [(0, .inr (.inr (some p))), (1, .inl a1), (2, .inl v2_2), (3, .inl v3_2)]) (st' := [.inl v3_2, .inr (.inr (some (p + 16)))]) (h' := gc_h sh I J A) (C := (True ∧ True)) rfl ⟨trivial, trivial⟩ ?_
        obtain ⟨t8_, A_t8, h_t8, G_t8⟩ := x0 (Int.toNat v3_2) (by omega)
        obtain ⟨S_t8, R_t8, B_t8, A_t8_5, S_t8__1, R_t8__1, B_t8__1, A_t8_6, S_t8__2, R_t8__2, B_t8__2, A_t8_7, S_t8__3, R_t8__3, B_t8__3, A_t8_9, S_t8__4, R_t8__4, B_t8__4, A_t8_10, S_t8__5, R_t8__5, B_t8__5, A_t8_11, S_t8__6, R_t8__6, B_t8__6, A_t8_13, S_t8__7, R_t8__7, B_t8__7, A_t8_15, S_t8__8, R_t8__8, B_t8__8⟩ := id h_t8
        refine gv_aald hD rfl S_p_16 ⟨by decide, by decide⟩ ⟨by decide, B_p_16⟩ ⟨by omega, by omega⟩ ((gc_aA S_p_16 rfl).trans A_t8) ?_
        show gv_X _ _ (18, [(0, .inr (.inr (some p))), (1, .inl a1), (2, .inl v2_2), (3, .inl v3_2)], [.inr (.inr (some t8_))], sh, gc_h sh I J A)
        have f9 := (show 0 ≤ I t8_ 1 ∧ I t8_ 1 ≤ 95 from gc_in hI R_t8 rfl rfl)
        refine gv_get hD rfl rfl S_t8 ⟨by decide, B_t8⟩ (gc_hI S_t8 rfl) ?_
        show gv_X _ _ (21, [(0, .inr (.inr (some p))), (1, .inl a1), (2, .inl v2_2), (3, .inl v3_2)], [.inl (I t8_ 1)], sh, gc_h sh I J A)
        refine gv_run 1 true hD (pc' := 22) (lv' := [(0, .inr (.inr (some p))), (1, .inl a1), (2, .inl v2_2), (3, .inl v3_2)]) (st' := [.inl a1, .inl (I t8_ 1)]) (h' := gc_h sh I J A) (C := (True ∧ True)) rfl ⟨trivial, trivial⟩ ?_
        refine gv_icmp_ne (t := 28) hD rfl rfl ⟨⟨by omega, by omega⟩, ⟨by omega, by omega⟩⟩ (fun c10 => ?_) (fun c10 => ?_)
        · show gv_X _ _ (28, [(0, .inr (.inr (some p))), (1, .inl a1), (2, .inl v2_2), (3, .inl v3_2)], [], sh, gc_h sh I J A)
          exact L28 v2_2 (by omega)
        · show gv_X _ _ (25, [(0, .inr (.inr (some p))), (1, .inl a1), (2, .inl v2_2), (3, .inl v3_2)], [], sh, gc_h sh I J A)
          refine gv_run 1 true hD (pc' := 28) (lv' := [(2, .inl (v2_2 + 1)), (0, .inr (.inr (some p))), (1, .inl a1), (3, .inl v3_2)]) (st' := []) (h' := gc_h sh I J A) (C := (True ∧ True)) rfl ⟨trivial, trivial⟩ ?_
          refine gv_pick [1, 2, 0, 3] rfl ?_
          exact L28 (v2_2 + 1) (by omega)
  refine gv_run 4 true hD (pc' := 4) (lv' := [(3, .inl 0), (2, .inl 0), (0, .inr (.inr (some p))), (1, .inl a1)]) (st' := []) (h' := gc_h sh I J A) (C := ((((True ∧ True) ∧ True) ∧ True) ∧ True)) rfl ⟨⟨⟨⟨trivial, trivial⟩, trivial⟩, trivial⟩, trivial⟩ ?_
  refine gv_pick [2, 3, 1, 0] rfl ?_
  exact L4 _ 0 0 (Nat.lt_succ_self _) (by omega)
set_option maxHeartbeats 4000000 in
set_option maxRecDepth 100000 in
theorem d_X8_mark {ws0 : List Cond} {tb : String → gz_T} (hws : gc_Ws ws0) (htb : gc_tbs tb) (sh : gz_Sh) (ro : Nat → Nat) (I : gr_I) (J : gr_J) (A : gc_A) (hI : gc_Inv ro I)  (hb : gc_Base sh ro A)  (x0 : gc_Ts sh ro A I) : ∃ r h', gz_Ev ws0 tb 2 (yX8_mark, cX8_mark, 2, none) [.inr (.inr (some 1))] sh (gc_h sh I J A) r sh h' 0 0 ∧ (∃ (I' : gr_I) (J' : gr_J), h' = gc_h sh I' J' A ∧ gc_Inv ro I' ∧ (∀ q j : Nat, ((q = 1 ∧ j = 18) ∨ q = 21) ∨ I' q j = I q j) ∧ (∀ q j : Nat, (False) ∨ J' q j = J q j) ∧ r = none) := by
  have FI : ∀ q j : Nat, ((q = 1 ∧ j = 18) ∨ q = 21) ∨ I q j = I q j := fun _ _ => Or.inr rfl
  have FJ : ∀ q j : Nat, (False) ∨ J q j = J q j := fun _ _ => Or.inr rfl
  have A_1_0 : A 1 0 = some 2 := gc_bA hb rfl
  have A_1_1 : A 1 1 = some 4 := gc_bA hb rfl
  have A_1_10 : A 1 10 = some 15 := gc_bA hb rfl
  have A_1_19 : A 1 19 = some 21 := gc_bA hb rfl
  have A_1_2 : A 1 2 = some 6 := gc_bA hb rfl
  have A_1_3 : A 1 3 = some 8 := gc_bA hb rfl
  have A_1_4 : A 1 4 = some 10 := gc_bA hb rfl
  have B_1 : 1 < 1000000 := by decide
  have B_10 : 10 < 1000000 := by decide
  have B_15 : 15 < 1000000 := by decide
  have B_2 : 2 < 1000000 := by decide
  have B_21 : 21 < 1000000 := by decide
  have B_4 : 4 < 1000000 := by decide
  have B_6 : 6 < 1000000 := by decide
  have B_8 : 8 < 1000000 := by decide
  have R_1 : ro 1 = 22 := gc_bR hb (by decide) rfl
  have R_15 : ro 15 = 28 := gc_bR hb (by decide) rfl
  have R_2 : ro 2 = 9 := gc_bR hb (by decide) rfl
  have R_21 : ro 21 = 0 := gc_bR hb (by decide) rfl
  have R_4 : ro 4 = 11 := gc_bR hb (by decide) rfl
  have R_6 : ro 6 = 6 := gc_bR hb (by decide) rfl
  have R_8 : ro 8 = 6 := gc_bR hb (by decide) rfl
  have S_1 : sh[1]? = some (false, 8, 21) := gc_bS hb rfl
  have S_10 : sh[10]? = some (true, 5, 8) := gc_bS hb rfl
  have S_15 : sh[15]? = some (true, 1, 96) := gc_bS hb rfl
  have S_2 : sh[2]? = some (false, 4, 2) := gc_bS hb rfl
  have S_21 : sh[21]? = some (true, 1, 159) := gc_bS hb rfl
  have S_4 : sh[4]? = some (false, 4, 2) := gc_bS hb rfl
  have S_6 : sh[6]? = some (false, 4, 2) := gc_bS hb rfl
  have S_8 : sh[8]? = some (false, 4, 2) := gc_bS hb rfl
  have hD : gv_D (gc_E8 ws0 tb 1 (yX8_mark, cX8_mark, 2, none) kX8_mark) := gq_ok oX8_mark
  refine gc_ev8 (d := 1) (l := kX8_mark) (Po := fun r h' => (∃ (I' : gr_I) (J' : gr_J), h' = gc_h sh I' J' A ∧ gc_Inv ro I' ∧ (∀ q j : Nat, ((q = 1 ∧ j = 18) ∨ q = 21) ∨ I' q j = I q j) ∧ (∀ q j : Nat, (False) ∨ J' q j = J q j) ∧ r = none)) htb rfl (Nat.le_of_ble_eq_true rfl) ?_
  have L90 : ∀ (n9 : Nat) (I1 : gr_I) (J2 : gr_J) (v1_3 : Int), (9 - v1_3).toNat < n9 → gc_Inv ro I1 → (∀ q j : Nat, ((q = 1 ∧ j = 18) ∨ q = 21) ∨ I1 q j = I q j) → (∀ q j : Nat, (False) ∨ J2 q j = J q j) → ((0 ≤ v1_3 ∧ v1_3 ≤ 8)) → gv_X (gc_E8 ws0 tb 1 (yX8_mark, cX8_mark, 2, none) kX8_mark) (gv_Q cX8_mark none sh (fun r h' => (∃ (I' : gr_I) (J' : gr_J), h' = gc_h sh I' J' A ∧ gc_Inv ro I' ∧ (∀ q j : Nat, ((q = 1 ∧ j = 18) ∨ q = 21) ∨ I' q j = I q j) ∧ (∀ q j : Nat, (False) ∨ J' q j = J q j) ∧ r = none))) (90, [(0, .inr (.inr (some 1))), (1, .inl v1_3)], [], sh, gc_h sh I1 J2 A) := by
    intro n9
    induction n9 with
    | zero => intro I1 J2 v1_3 hn; omega
    | succ n9 ih90 =>
      intro I1 J2 v1_3 hn hI1 FI1 FJ2 m_3
      have hv1_3 := m_3
      refine gv_run 2 true hD (pc' := 92) (lv' := [(0, .inr (.inr (some 1))), (1, .inl v1_3)]) (st' := [.inr (.inr (some 1)), .inl v1_3]) (h' := gc_h sh I1 J2 A) (C := ((True ∧ True) ∧ True)) rfl ⟨⟨trivial, trivial⟩, trivial⟩ ?_
      refine gv_get hD rfl rfl S_1 ⟨by decide, B_1⟩ (gc_hA S_1 rfl A_1_3) ?_
      show gv_X _ _ (95, [(0, .inr (.inr (some 1))), (1, .inl v1_3)], [.inr (.inr (some 8)), .inl v1_3], sh, gc_h sh I1 J2 A)
      have f4 := (show 0 ≤ I1 8 1 ∧ I1 8 1 ≤ 8 from gc_in hI1 R_8 rfl rfl)
      refine gv_get hD rfl rfl S_8 ⟨by decide, B_8⟩ (gc_hI S_8 rfl) ?_
      show gv_X _ _ (98, [(0, .inr (.inr (some 1))), (1, .inl v1_3)], [.inl (I1 8 1), .inl v1_3], sh, gc_h sh I1 J2 A)
      refine gv_icmp_ge (t := 127) hD rfl rfl ⟨⟨by omega, by omega⟩, ⟨by omega, by omega⟩⟩ (fun c5 => ?_) (fun c5 => ?_)
      · show gv_X _ _ (127, [(0, .inr (.inr (some 1))), (1, .inl v1_3)], [], sh, gc_h sh I1 J2 A)
        refine gv_run 1 true hD (pc' := 128) (lv' := [(0, .inr (.inr (some 1))), (1, .inl v1_3)]) (st' := [.inr (.inr (some 1))]) (h' := gc_h sh I1 J2 A) (C := (True ∧ True)) rfl ⟨trivial, trivial⟩ ?_
        refine gv_get hD rfl rfl S_1 ⟨by decide, B_1⟩ (gc_hA S_1 rfl A_1_10) ?_
        show gv_X _ _ (131, [(0, .inr (.inr (some 1))), (1, .inl v1_3)], [.inr (.inr (some 15))], sh, gc_h sh I1 J2 A)
        refine gv_run 2 true hD (pc' := 133) (lv' := [(0, .inr (.inr (some 1))), (1, .inl v1_3)]) (st' := [.inr (.inr (some 1)), .inl 0, .inr (.inr (some 15))]) (h' := gc_h sh I1 J2 A) (C := ((True ∧ True) ∧ True)) rfl ⟨⟨trivial, trivial⟩, trivial⟩ ?_
        refine gv_get hD rfl rfl S_1 ⟨by decide, B_1⟩ (gc_hA S_1 rfl A_1_19) ?_
        show gv_X _ _ (136, [(0, .inr (.inr (some 1))), (1, .inl v1_3)], [.inr (.inr (some 21)), .inl 0, .inr (.inr (some 15))], sh, gc_h sh I1 J2 A)
        refine gv_run 2 true hD (pc' := 140) (lv' := [(0, .inr (.inr (some 1))), (1, .inl v1_3)]) (st' := [.inl 96, .inl 63, .inr (.inr (some 21)), .inl 0, .inr (.inr (some 15))]) (h' := gc_h sh I1 J2 A) (C := ((True ∧ True) ∧ True)) rfl ⟨⟨trivial, trivial⟩, trivial⟩ ?_
        refine gv_copy hD rfl (gc_lC8_95 hws) (Nat.le_of_ble_eq_true rfl) ⟨B_15, B_21⟩ S_15 S_21 (by decide) ⟨by decide, by decide⟩ ⟨by omega, by omega, by omega⟩ (by omega) (by omega) (fun h => absurd h (by decide)) ?_
        refine gc_cp hI1 S_15 S_21 (by decide) (fun j hj => by have h9 := (show 0 ≤ I1 15 (Int.toNat 0 + j) ∧ I1 15 (Int.toNat 0 + j) ≤ 40 from gc_in hI1 R_15 rfl rfl); rw [R_21]; exact ⟨by show (-2147483648) ≤ _; omega, by show _ ≤ 2147483647; omega⟩) (fun I7 hI7 p6 q6 => ?_)
        have FI7 := gc_frp (W := fun q j => (q = 1 ∧ j = 18) ∨ q = 21) (V := fun q j => q = 21 ∧ Int.toNat 63 ≤ j ∧ j < Int.toNat 63 + Int.toNat 96) FI1 (fun q j h => (Or.inr h.1)) p6
        show gv_X _ _ (143, [(0, .inr (.inr (some 1))), (1, .inl v1_3)], [], sh, gc_h sh I7 J2 A)
        exact gv_vret hD rfl ⟨I7, J2, rfl, hI7, FI7, FJ2, rfl⟩
      · show gv_X _ _ (101, [(0, .inr (.inr (some 1))), (1, .inl v1_3)], [], sh, gc_h sh I1 J2 A)
        refine gv_run 1 true hD (pc' := 102) (lv' := [(0, .inr (.inr (some 1))), (1, .inl v1_3)]) (st' := [.inr (.inr (some 1))]) (h' := gc_h sh I1 J2 A) (C := (True ∧ True)) rfl ⟨trivial, trivial⟩ ?_
        refine gv_get hD rfl rfl S_1 ⟨by decide, B_1⟩ (gc_hA S_1 rfl A_1_4) ?_
        show gv_X _ _ (105, [(0, .inr (.inr (some 1))), (1, .inl v1_3)], [.inr (.inr (some 10))], sh, gc_h sh I1 J2 A)
        refine gv_run 1 true hD (pc' := 106) (lv' := [(0, .inr (.inr (some 1))), (1, .inl v1_3)]) (st' := [.inl v1_3, .inr (.inr (some 10))]) (h' := gc_h sh I1 J2 A) (C := (True ∧ True)) rfl ⟨trivial, trivial⟩ ?_
        obtain ⟨t9_, A_t9, h_t9, G_t9⟩ := (gc_Ts_fr x0 ((FI1 8 1).resolve_left (by omega))) (Int.toNat v1_3) (by omega)
        obtain ⟨S_t9, R_t9, B_t9, A_t9_0, h_t9__1, A_t9_1, h_t9__3, A_t9_2, S_t9__5, R_t9__5, B_t9__5, A_t9_3, S_t9__6, R_t9__6, B_t9__6, A_t9_4, h_t9__7, A_t9_5, S_t9__9, R_t9__9, B_t9__9, A_t9_7, S_t9__10, R_t9__10, B_t9__10, A_t9_8, h_t9__11, A_t9_9, S_t9__13, R_t9__13, B_t9__13, A_t9_10, S_t9__14, R_t9__14, B_t9__14, A_t9_12, S_t9__15, R_t9__15, B_t9__15, A_t9_14, S_t9__16, R_t9__16, B_t9__16, A_t9_15, h_t9__17⟩ := id h_t9
        obtain ⟨S_t9__1, R_t9__1, B_t9__1, A_t9__1_0, S_t9__1_1, R_t9__1_1, B_t9__1_1, Q0_t9__1, Q1_t9__1, Q2_t9__1⟩ := id h_t9__1
        obtain ⟨S_t9__3, R_t9__3, B_t9__3, A_t9__3_0, S_t9__3_1, R_t9__3_1, B_t9__3_1, Q0_t9__3, Q1_t9__3, Q2_t9__3⟩ := id h_t9__3
        obtain ⟨S_t9__7, R_t9__7, B_t9__7, A_t9__7_0, S_t9__7_1, R_t9__7_1, B_t9__7_1, Q0_t9__7, Q1_t9__7, Q2_t9__7⟩ := id h_t9__7
        obtain ⟨S_t9__11, R_t9__11, B_t9__11, A_t9__11_0, S_t9__11_1, R_t9__11_1, B_t9__11_1, Q0_t9__11, Q1_t9__11, Q2_t9__11⟩ := id h_t9__11
        obtain ⟨S_t9__17, R_t9__17, B_t9__17, A_t9__17_0, S_20, R_20, B_20, A_t9__17_1, S_t9__17_1, R_t9__17_1, B_t9__17_1, A_t9__17_2, S_t9__17_2, R_t9__17_2, B_t9__17_2, A_t9__17_3, S_t9__17_3, R_t9__17_3, B_t9__17_3, A_t9__17_4, S_t9__17_4, R_t9__17_4, B_t9__17_4, A_t9__17_5, S_t9__17_5, R_t9__17_5, B_t9__17_5, S_t9__17_6, R_t9__17_6, B_t9__17_6, S_t9__17_7, R_t9__17_7, B_t9__17_7⟩ := id h_t9__17
        refine gv_aald hD rfl S_10 ⟨by decide, by decide⟩ ⟨by decide, B_10⟩ ⟨by omega, by omega⟩ ((gc_aA S_10 rfl).trans A_t9) ?_
        show gv_X _ _ (107, [(0, .inr (.inr (some 1))), (1, .inl v1_3)], [.inr (.inr (some t9_))], sh, gc_h sh I1 J2 A)
        refine gv_run 1 true hD (pc' := 108) (lv' := [(0, .inr (.inr (some 1))), (1, .inl v1_3)]) (st' := [.inr (.inr (some 1)), .inr (.inr (some t9_))]) (h' := gc_h sh I1 J2 A) (C := (True ∧ True)) rfl ⟨trivial, trivial⟩ ?_
        refine gv_get hD rfl rfl S_1 ⟨by decide, B_1⟩ (gc_hA S_1 rfl A_1_19) ?_
        show gv_X _ _ (111, [(0, .inr (.inr (some 1))), (1, .inl v1_3)], [.inr (.inr (some 21)), .inr (.inr (some t9_))], sh, gc_h sh I1 J2 A)
        refine gv_run 5 true hD (pc' := 118) (lv' := [(0, .inr (.inr (some 1))), (1, .inl v1_3)]) (st' := [.inl (7 + (v1_3 * 7)), .inr (.inr (some 21)), .inr (.inr (some t9_))]) (h' := gc_h sh I1 J2 A) (C := (((((True ∧ True) ∧ True) ∧ True) ∧ True) ∧ True)) rfl ⟨⟨⟨⟨⟨trivial, trivial⟩, trivial⟩, trivial⟩, trivial⟩, trivial⟩ ?_
        obtain ⟨r10, h10, E10, P10⟩ := d_X11_saveSizes (ws0 := ws0) (tb := tb) hws htb sh ro I1 J2 A hI1 t9_ 159 21 ((7 + (v1_3 * 7))) h_t9 S_21 R_21 B_21 (by decide)  ⟨by omega, by omega⟩ (by omega) 
        obtain ⟨I11, J12, rfl, hI11, g10, k10, rfl⟩ := P10
        have FI11 := gc_frc (W := fun q j => (q = 1 ∧ j = 18) ∨ q = 21) (V := fun q j => q = 21) FI1 (fun q j h => (Or.inr h)) g10
        have FJ12 := gc_frc (W := fun q j => False) (V := fun q j => False) FJ2 (fun q j h => h.elim) k10
        refine gv_callV hD rfl (As := [.inr (.inr (some 21)), .inl (7 + (v1_3 * 7))]) (st := []) rfl B_t9 S_t9 rfl (gc_lV8 hws rfl) (Nat.le_of_ble_eq_true rfl) (gz_Ev_mono (d := 1) (by decide) E10) ?_
        show gv_X _ _ (121, [(0, .inr (.inr (some 1))), (1, .inl v1_3)], [], sh, gc_h sh I11 J12 A)
        refine gv_run 2 true hD (pc' := 90) (lv' := [(1, .inl (v1_3 + 1)), (0, .inr (.inr (some 1)))]) (st' := []) (h' := gc_h sh I11 J12 A) (C := ((True ∧ True) ∧ True)) rfl ⟨⟨trivial, trivial⟩, trivial⟩ ?_
        refine gv_pick [1, 0] rfl ?_
        exact ih90 I11 J12 (v1_3 + 1) (by omega) hI11 FI11 FJ12 (by omega)
  refine gv_run 2 true hD (pc' := 2) (lv' := [(0, .inr (.inr (some 1)))]) (st' := [.inl 0, .inr (.inr (some 1))]) (h' := gc_h sh I J A) (C := ((True ∧ True) ∧ True)) rfl ⟨⟨trivial, trivial⟩, trivial⟩ ?_
  refine gv_put hD rfl rfl S_1 ⟨by decide, B_1⟩ rfl (by omega) ?_
  refine gc_st hI S_1 rfl R_1 (lo := 0) (hi := 1) rfl rfl (by omega) (by omega) (fun I13 hI13 q14 p14 => ?_)
  have FI13 := gc_frs (W := fun q j => (q = 1 ∧ j = 18) ∨ q = 21) FI (Or.inl ⟨rfl, rfl⟩) p14
  show gv_X _ _ (5, [(0, .inr (.inr (some 1)))], [], sh, gc_h sh I13 J A)
  refine gv_run 1 true hD (pc' := 6) (lv' := [(0, .inr (.inr (some 1)))]) (st' := [.inr (.inr (some 1))]) (h' := gc_h sh I13 J A) (C := (True ∧ True)) rfl ⟨trivial, trivial⟩ ?_
  refine gv_get hD rfl rfl S_1 ⟨by decide, B_1⟩ (gc_hA S_1 rfl A_1_19) ?_
  show gv_X _ _ (9, [(0, .inr (.inr (some 1)))], [.inr (.inr (some 21))], sh, gc_h sh I13 J A)
  refine gv_run 2 true hD (pc' := 11) (lv' := [(0, .inr (.inr (some 1)))]) (st' := [.inr (.inr (some 1)), .inl 0, .inr (.inr (some 21))]) (h' := gc_h sh I13 J A) (C := ((True ∧ True) ∧ True)) rfl ⟨⟨trivial, trivial⟩, trivial⟩ ?_
  refine gv_get hD rfl rfl S_1 ⟨by decide, B_1⟩ (gc_hA S_1 rfl A_1_0) ?_
  show gv_X _ _ (14, [(0, .inr (.inr (some 1)))], [.inr (.inr (some 2)), .inl 0, .inr (.inr (some 21))], sh, gc_h sh I13 J A)
  have f15 := (show 0 ≤ I13 2 1 ∧ I13 2 1 ≤ 32 from gc_in hI13 R_2 rfl rfl)
  refine gv_get hD rfl rfl S_2 ⟨by decide, B_2⟩ (gc_hI S_2 rfl) ?_
  show gv_X _ _ (17, [(0, .inr (.inr (some 1)))], [.inl (I13 2 1), .inl 0, .inr (.inr (some 21))], sh, gc_h sh I13 J A)
  refine gv_iast hD rfl S_21 ⟨by decide, B_21⟩ ⟨by omega, by omega⟩ ?_
  refine gc_st hI13 S_21 rfl R_21 (lo := (-2147483648)) (hi := 2147483647) rfl rfl (by omega) (by omega) (fun I16 hI16 q17 p17 => ?_)
  have FI16 := gc_frs (W := fun q j => (q = 1 ∧ j = 18) ∨ q = 21) FI13 (Or.inr rfl) p17
  show gv_X _ _ (18, [(0, .inr (.inr (some 1)))], [], sh, gc_h sh I16 J A)
  refine gv_run 1 true hD (pc' := 19) (lv' := [(0, .inr (.inr (some 1)))]) (st' := [.inr (.inr (some 1))]) (h' := gc_h sh I16 J A) (C := (True ∧ True)) rfl ⟨trivial, trivial⟩ ?_
  refine gv_get hD rfl rfl S_1 ⟨by decide, B_1⟩ (gc_hA S_1 rfl A_1_19) ?_
  show gv_X _ _ (22, [(0, .inr (.inr (some 1)))], [.inr (.inr (some 21))], sh, gc_h sh I16 J A)
  refine gv_run 2 true hD (pc' := 24) (lv' := [(0, .inr (.inr (some 1)))]) (st' := [.inr (.inr (some 1)), .inl 1, .inr (.inr (some 21))]) (h' := gc_h sh I16 J A) (C := ((True ∧ True) ∧ True)) rfl ⟨⟨trivial, trivial⟩, trivial⟩ ?_
  refine gv_get hD rfl rfl S_1 ⟨by decide, B_1⟩ (gc_hA S_1 rfl A_1_1) ?_
  show gv_X _ _ (27, [(0, .inr (.inr (some 1)))], [.inr (.inr (some 4)), .inl 1, .inr (.inr (some 21))], sh, gc_h sh I16 J A)
  have f18 := (show 0 ≤ I16 4 1 ∧ I16 4 1 ≤ 96 from gc_in hI16 R_4 rfl rfl)
  refine gv_get hD rfl rfl S_4 ⟨by decide, B_4⟩ (gc_hI S_4 rfl) ?_
  show gv_X _ _ (30, [(0, .inr (.inr (some 1)))], [.inl (I16 4 1), .inl 1, .inr (.inr (some 21))], sh, gc_h sh I16 J A)
  refine gv_iast hD rfl S_21 ⟨by decide, B_21⟩ ⟨by omega, by omega⟩ ?_
  refine gc_st hI16 S_21 rfl R_21 (lo := (-2147483648)) (hi := 2147483647) rfl rfl (by omega) (by omega) (fun I19 hI19 q20 p20 => ?_)
  have FI19 := gc_frs (W := fun q j => (q = 1 ∧ j = 18) ∨ q = 21) FI16 (Or.inr rfl) p20
  show gv_X _ _ (31, [(0, .inr (.inr (some 1)))], [], sh, gc_h sh I19 J A)
  refine gv_run 1 true hD (pc' := 32) (lv' := [(0, .inr (.inr (some 1)))]) (st' := [.inr (.inr (some 1))]) (h' := gc_h sh I19 J A) (C := (True ∧ True)) rfl ⟨trivial, trivial⟩ ?_
  refine gv_get hD rfl rfl S_1 ⟨by decide, B_1⟩ (gc_hA S_1 rfl A_1_19) ?_
  show gv_X _ _ (35, [(0, .inr (.inr (some 1)))], [.inr (.inr (some 21))], sh, gc_h sh I19 J A)
  refine gv_run 2 true hD (pc' := 37) (lv' := [(0, .inr (.inr (some 1)))]) (st' := [.inr (.inr (some 1)), .inl 2, .inr (.inr (some 21))]) (h' := gc_h sh I19 J A) (C := ((True ∧ True) ∧ True)) rfl ⟨⟨trivial, trivial⟩, trivial⟩ ?_
  refine gv_get hD rfl rfl S_1 ⟨by decide, B_1⟩ (gc_hA S_1 rfl A_1_2) ?_
  show gv_X _ _ (40, [(0, .inr (.inr (some 1)))], [.inr (.inr (some 6)), .inl 2, .inr (.inr (some 21))], sh, gc_h sh I19 J A)
  have f21 := (show 0 ≤ I19 6 1 ∧ I19 6 1 ≤ 8 from gc_in hI19 R_6 rfl rfl)
  refine gv_get hD rfl rfl S_6 ⟨by decide, B_6⟩ (gc_hI S_6 rfl) ?_
  show gv_X _ _ (43, [(0, .inr (.inr (some 1)))], [.inl (I19 6 1), .inl 2, .inr (.inr (some 21))], sh, gc_h sh I19 J A)
  refine gv_iast hD rfl S_21 ⟨by decide, B_21⟩ ⟨by omega, by omega⟩ ?_
  refine gc_st hI19 S_21 rfl R_21 (lo := (-2147483648)) (hi := 2147483647) rfl rfl (by omega) (by omega) (fun I22 hI22 q23 p23 => ?_)
  have FI22 := gc_frs (W := fun q j => (q = 1 ∧ j = 18) ∨ q = 21) FI19 (Or.inr rfl) p23
  show gv_X _ _ (44, [(0, .inr (.inr (some 1)))], [], sh, gc_h sh I22 J A)
  refine gv_run 1 true hD (pc' := 45) (lv' := [(0, .inr (.inr (some 1)))]) (st' := [.inr (.inr (some 1))]) (h' := gc_h sh I22 J A) (C := (True ∧ True)) rfl ⟨trivial, trivial⟩ ?_
  refine gv_get hD rfl rfl S_1 ⟨by decide, B_1⟩ (gc_hA S_1 rfl A_1_19) ?_
  show gv_X _ _ (48, [(0, .inr (.inr (some 1)))], [.inr (.inr (some 21))], sh, gc_h sh I22 J A)
  refine gv_run 2 true hD (pc' := 50) (lv' := [(0, .inr (.inr (some 1)))]) (st' := [.inr (.inr (some 1)), .inl 3, .inr (.inr (some 21))]) (h' := gc_h sh I22 J A) (C := ((True ∧ True) ∧ True)) rfl ⟨⟨trivial, trivial⟩, trivial⟩ ?_
  refine gv_get hD rfl rfl S_1 ⟨by decide, B_1⟩ (gc_hA S_1 rfl A_1_3) ?_
  show gv_X _ _ (53, [(0, .inr (.inr (some 1)))], [.inr (.inr (some 8)), .inl 3, .inr (.inr (some 21))], sh, gc_h sh I22 J A)
  have f24 := (show 0 ≤ I22 8 1 ∧ I22 8 1 ≤ 8 from gc_in hI22 R_8 rfl rfl)
  refine gv_get hD rfl rfl S_8 ⟨by decide, B_8⟩ (gc_hI S_8 rfl) ?_
  show gv_X _ _ (56, [(0, .inr (.inr (some 1)))], [.inl (I22 8 1), .inl 3, .inr (.inr (some 21))], sh, gc_h sh I22 J A)
  refine gv_iast hD rfl S_21 ⟨by decide, B_21⟩ ⟨by omega, by omega⟩ ?_
  refine gc_st hI22 S_21 rfl R_21 (lo := (-2147483648)) (hi := 2147483647) rfl rfl (by omega) (by omega) (fun I25 hI25 q26 p26 => ?_)
  have FI25 := gc_frs (W := fun q j => (q = 1 ∧ j = 18) ∨ q = 21) FI22 (Or.inr rfl) p26
  show gv_X _ _ (57, [(0, .inr (.inr (some 1)))], [], sh, gc_h sh I25 J A)
  refine gv_run 1 true hD (pc' := 58) (lv' := [(0, .inr (.inr (some 1)))]) (st' := [.inr (.inr (some 1))]) (h' := gc_h sh I25 J A) (C := (True ∧ True)) rfl ⟨trivial, trivial⟩ ?_
  refine gv_get hD rfl rfl S_1 ⟨by decide, B_1⟩ (gc_hA S_1 rfl A_1_19) ?_
  show gv_X _ _ (61, [(0, .inr (.inr (some 1)))], [.inr (.inr (some 21))], sh, gc_h sh I25 J A)
  refine gv_run 2 true hD (pc' := 63) (lv' := [(0, .inr (.inr (some 1)))]) (st' := [.inr (.inr (some 1)), .inl 4, .inr (.inr (some 21))]) (h' := gc_h sh I25 J A) (C := ((True ∧ True) ∧ True)) rfl ⟨⟨trivial, trivial⟩, trivial⟩ ?_
  have f27 := (show 0 ≤ I25 1 13 ∧ I25 1 13 ≤ 64 from gc_in hI25 R_1 rfl rfl)
  refine gv_get hD rfl rfl S_1 ⟨by decide, B_1⟩ (gc_hI S_1 rfl) ?_
  show gv_X _ _ (66, [(0, .inr (.inr (some 1)))], [.inl (I25 1 13), .inl 4, .inr (.inr (some 21))], sh, gc_h sh I25 J A)
  refine gv_iast hD rfl S_21 ⟨by decide, B_21⟩ ⟨by omega, by omega⟩ ?_
  refine gc_st hI25 S_21 rfl R_21 (lo := (-2147483648)) (hi := 2147483647) rfl rfl (by omega) (by omega) (fun I28 hI28 q29 p29 => ?_)
  have FI28 := gc_frs (W := fun q j => (q = 1 ∧ j = 18) ∨ q = 21) FI25 (Or.inr rfl) p29
  show gv_X _ _ (67, [(0, .inr (.inr (some 1)))], [], sh, gc_h sh I28 J A)
  refine gv_run 1 true hD (pc' := 68) (lv' := [(0, .inr (.inr (some 1)))]) (st' := [.inr (.inr (some 1))]) (h' := gc_h sh I28 J A) (C := (True ∧ True)) rfl ⟨trivial, trivial⟩ ?_
  refine gv_get hD rfl rfl S_1 ⟨by decide, B_1⟩ (gc_hA S_1 rfl A_1_19) ?_
  show gv_X _ _ (71, [(0, .inr (.inr (some 1)))], [.inr (.inr (some 21))], sh, gc_h sh I28 J A)
  refine gv_run 2 true hD (pc' := 73) (lv' := [(0, .inr (.inr (some 1)))]) (st' := [.inr (.inr (some 1)), .inl 5, .inr (.inr (some 21))]) (h' := gc_h sh I28 J A) (C := ((True ∧ True) ∧ True)) rfl ⟨⟨trivial, trivial⟩, trivial⟩ ?_
  have f30 := (show 0 ≤ I28 1 17 ∧ I28 1 17 ≤ 12000 from gc_in hI28 R_1 rfl rfl)
  refine gv_get hD rfl rfl S_1 ⟨by decide, B_1⟩ (gc_hI S_1 rfl) ?_
  show gv_X _ _ (76, [(0, .inr (.inr (some 1)))], [.inl (I28 1 17), .inl 5, .inr (.inr (some 21))], sh, gc_h sh I28 J A)
  refine gv_iast hD rfl S_21 ⟨by decide, B_21⟩ ⟨by omega, by omega⟩ ?_
  refine gc_st hI28 S_21 rfl R_21 (lo := (-2147483648)) (hi := 2147483647) rfl rfl (by omega) (by omega) (fun I31 hI31 q32 p32 => ?_)
  have FI31 := gc_frs (W := fun q j => (q = 1 ∧ j = 18) ∨ q = 21) FI28 (Or.inr rfl) p32
  show gv_X _ _ (77, [(0, .inr (.inr (some 1)))], [], sh, gc_h sh I31 J A)
  refine gv_run 1 true hD (pc' := 78) (lv' := [(0, .inr (.inr (some 1)))]) (st' := [.inr (.inr (some 1))]) (h' := gc_h sh I31 J A) (C := (True ∧ True)) rfl ⟨trivial, trivial⟩ ?_
  refine gv_get hD rfl rfl S_1 ⟨by decide, B_1⟩ (gc_hA S_1 rfl A_1_19) ?_
  show gv_X _ _ (81, [(0, .inr (.inr (some 1)))], [.inr (.inr (some 21))], sh, gc_h sh I31 J A)
  refine gv_run 2 true hD (pc' := 84) (lv' := [(0, .inr (.inr (some 1)))]) (st' := [.inr (.inr (some 1)), .inl 6, .inr (.inr (some 21))]) (h' := gc_h sh I31 J A) (C := ((True ∧ True) ∧ True)) rfl ⟨⟨trivial, trivial⟩, trivial⟩ ?_
  have f33 := (show (-1) ≤ I31 1 5 ∧ I31 1 5 ≤ 7 from gc_in hI31 R_1 rfl rfl)
  refine gv_get hD rfl rfl S_1 ⟨by decide, B_1⟩ (gc_hI S_1 rfl) ?_
  show gv_X _ _ (87, [(0, .inr (.inr (some 1)))], [.inl (I31 1 5), .inl 6, .inr (.inr (some 21))], sh, gc_h sh I31 J A)
  refine gv_iast hD rfl S_21 ⟨by decide, B_21⟩ ⟨by omega, by omega⟩ ?_
  refine gc_st hI31 S_21 rfl R_21 (lo := (-2147483648)) (hi := 2147483647) rfl rfl (by omega) (by omega) (fun I34 hI34 q35 p35 => ?_)
  have FI34 := gc_frs (W := fun q j => (q = 1 ∧ j = 18) ∨ q = 21) FI31 (Or.inr rfl) p35
  show gv_X _ _ (88, [(0, .inr (.inr (some 1)))], [], sh, gc_h sh I34 J A)
  refine gv_run 2 true hD (pc' := 90) (lv' := [(1, .inl 0), (0, .inr (.inr (some 1)))]) (st' := []) (h' := gc_h sh I34 J A) (C := ((True ∧ True) ∧ True)) rfl ⟨⟨trivial, trivial⟩, trivial⟩ ?_
  refine gv_pick [1, 0] rfl ?_
  exact L90 _ I34 J 0 (Nat.lt_succ_self _) hI34 FI34 FJ (by omega)
