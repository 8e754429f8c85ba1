set_option maxHeartbeats 4000000 in
set_option maxRecDepth 100000 in
theorem d_X6_readStems {ws0 : List Cond} {tb : String → gz_T} (hws : gc_Ws ws0) (htb : gc_tbs tb) (sh : gz_Sh) (ro : Nat → Nat) (I : gr_I) (J : gr_J) (A : gc_A) (hI : gc_Inv ro I) (B : Int)  (hb : gc_Base sh ro A)  (x0 : B ≤ 1280 ∧ I 1 17 + I 23 1 ≤ B + I 23 5) (KLT_I : gc_LT I) (KTK_I : gc_TK I) (KRW_I : gc_row 41 11 gc_fW I) : ∃ r h', gz_Ev ws0 tb 3 (yX6_readStems, cX6_readStems, 2, (some .boolean)) [.inr (.inr (some 39))] sh (gc_h sh I J A) r sh h' 0 0 ∧ (∃ (I' : gr_I) (J' : gr_J), h' = gc_h sh I' J' A ∧ gc_Inv ro I' ∧ (∀ q j : Nat, ((q = 39 ∧ j = 3) ∨ (q = 39 ∧ j = 4) ∨ (q = 23 ∧ j = 5) ∨ (q = 23 ∧ j = 6) ∨ (q = 23 ∧ j = 7) ∨ (q = 23 ∧ j = 8) ∨ (q = 1 ∧ j = 17) ∨ (q = 1 ∧ j = 18) ∨ q = 20 ∨ q = 41) ∨ I' q j = I q j) ∧ (∀ q j : Nat, ((q = 23 ∧ j = 9)) ∨ J' q j = J q j) ∧ gc_LT I' ∧ gc_TK I' ∧ gc_row 41 11 gc_fW I' ∧ (∃ z : Int, r = some (.inl z) ∧ 0 ≤ z ∧ z ≤ 1 ∧ (I' 23 1 = I 23 1) ∧ (I 23 5 ≤ I' 23 5) ∧ (B ≤ 1280 ∧ I' 1 17 + I' 23 1 ≤ B + I' 23 5))) := by
  have FI : ∀ q j : Nat, ((q = 39 ∧ j = 3) ∨ (q = 39 ∧ j = 4) ∨ (q = 23 ∧ j = 5) ∨ (q = 23 ∧ j = 6) ∨ (q = 23 ∧ j = 7) ∨ (q = 23 ∧ j = 8) ∨ (q = 1 ∧ j = 17) ∨ (q = 1 ∧ j = 18) ∨ q = 20 ∨ q = 41) ∨ I q j = I q j := fun _ _ => Or.inr rfl
  have FJ : ∀ q j : Nat, ((q = 23 ∧ j = 9)) ∨ J q j = J q j := fun _ _ => Or.inr rfl
  have A_39_1 : A 39 1 = some 23 := gc_bA hb rfl
  have A_39_10 : A 39 10 = some 41 := gc_bA hb rfl
  have B_23 : 23 < 1000000 := by decide
  have B_39 : 39 < 1000000 := by decide
  have B_41 : 41 < 1000000 := by decide
  have R_1 : ro 1 = 22 := gc_bR hb (by decide) rfl
  have R_23 : ro 23 = 3 := gc_bR hb (by decide) rfl
  have R_41 : ro 41 = 0 := gc_bR hb (by decide) rfl
  have S_23 : sh[23]? = some (false, 9, 10) := gc_bS hb rfl
  have S_39 : sh[39]? = some (false, 6, 19) := gc_bS hb rfl
  have S_41 : sh[41]? = some (true, 1, 25) := gc_bS hb rfl
  have hD : gv_D (gc_E6 ws0 tb 2 (yX6_readStems, cX6_readStems, 2, (some .boolean)) kX6_readStems) := gq_ok oX6_readStems
  refine gc_ev6 (d := 2) (l := kX6_readStems) (Po := fun r h' => (∃ (I' : gr_I) (J' : gr_J), h' = gc_h sh I' J' A ∧ gc_Inv ro I' ∧ (∀ q j : Nat, ((q = 39 ∧ j = 3) ∨ (q = 39 ∧ j = 4) ∨ (q = 23 ∧ j = 5) ∨ (q = 23 ∧ j = 6) ∨ (q = 23 ∧ j = 7) ∨ (q = 23 ∧ j = 8) ∨ (q = 1 ∧ j = 17) ∨ (q = 1 ∧ j = 18) ∨ q = 20 ∨ q = 41) ∨ I' q j = I q j) ∧ (∀ q j : Nat, ((q = 23 ∧ j = 9)) ∨ J' q j = J q j) ∧ gc_LT I' ∧ gc_TK I' ∧ gc_row 41 11 gc_fW I' ∧ (∃ z : Int, r = some (.inl z) ∧ 0 ≤ z ∧ z ≤ 1 ∧ (I' 23 1 = I 23 1) ∧ (I 23 5 ≤ I' 23 5) ∧ (B ≤ 1280 ∧ I' 1 17 + I' 23 1 ≤ B + I' 23 5)))) htb rfl (Nat.le_of_ble_eq_true rfl) ?_
  have t1 := gc_TK_mo KTK_I
  have f2 := (show 0 ≤ I 23 1 ∧ I 23 1 ≤ 1000 from gc_in hI R_23 rfl rfl)
  have f3 := (show 0 ≤ I 23 5 ∧ I 23 5 ≤ 1000 from gc_in hI R_23 rfl rfl)
  have f4 := (show 0 ≤ I 23 6 ∧ I 23 6 ≤ 1001 from gc_in hI R_23 rfl rfl)
  have f5 := (show 0 ≤ I 23 7 ∧ I 23 7 ≤ 125 from gc_in hI R_23 rfl rfl)
  have f6 := (show 0 ≤ I 1 17 ∧ I 1 17 ≤ 12000 from gc_in hI R_1 rfl rfl)
  have L2 : ∀ (n9 : Nat) (I7 : gr_I) (J8 : gr_J) (v1_9 : Int), (4 - v1_9).toNat < n9 → gc_Inv ro I7 → (∀ q j : Nat, ((q = 39 ∧ j = 3) ∨ (q = 39 ∧ j = 4) ∨ (q = 23 ∧ j = 5) ∨ (q = 23 ∧ j = 6) ∨ (q = 23 ∧ j = 7) ∨ (q = 23 ∧ j = 8) ∨ (q = 1 ∧ j = 17) ∨ (q = 1 ∧ j = 18) ∨ q = 20 ∨ q = 41) ∨ I7 q j = I q j) → (∀ q j : Nat, ((q = 23 ∧ j = 9)) ∨ J8 q j = J q j) → gc_LT I7 → gc_TK I7 → gc_row 41 11 gc_fW I7 → ((0 ≤ v1_9 ∧ v1_9 ≤ 3) ∧ (I7 23 1 = I 23 1) ∧ (I 23 5 ≤ I7 23 5) ∧ (B ≤ 1280 ∧ I7 1 17 + I7 23 1 ≤ B + I7 23 5)) → gv_X (gc_E6 ws0 tb 2 (yX6_readStems, cX6_readStems, 2, (some .boolean)) kX6_readStems) (gv_Q cX6_readStems (some .boolean) sh (fun r h' => (∃ (I' : gr_I) (J' : gr_J), h' = gc_h sh I' J' A ∧ gc_Inv ro I' ∧ (∀ q j : Nat, ((q = 39 ∧ j = 3) ∨ (q = 39 ∧ j = 4) ∨ (q = 23 ∧ j = 5) ∨ (q = 23 ∧ j = 6) ∨ (q = 23 ∧ j = 7) ∨ (q = 23 ∧ j = 8) ∨ (q = 1 ∧ j = 17) ∨ (q = 1 ∧ j = 18) ∨ q = 20 ∨ q = 41) ∨ I' q j = I q j) ∧ (∀ q j : Nat, ((q = 23 ∧ j = 9)) ∨ J' q j = J q j) ∧ gc_LT I' ∧ gc_TK I' ∧ gc_row 41 11 gc_fW I' ∧ (∃ z : Int, r = some (.inl z) ∧ 0 ≤ z ∧ z ≤ 1 ∧ (I' 23 1 = I 23 1) ∧ (I 23 5 ≤ I' 23 5) ∧ (B ≤ 1280 ∧ I' 1 17 + I' 23 1 ≤ B + I' 23 5))))) (2, [(0, .inr (.inr (some 39))), (1, .inl v1_9)], [], sh, gc_h sh I7 J8 A) := by
    intro n9
    induction n9 with
    | zero => intro I7 J8 v1_9 hn; omega
    | succ n9 ih2 =>
      intro I7 J8 v1_9 hn hI7 FI7 FJ8 KLT_I7 KTK_I7 KRW_I7 m_9
      obtain ⟨hv1_9, e0_9, e1_9, e2_9⟩ := m_9
      have t10 := gc_TK_mo KTK_I7
      have f11 := (show 0 ≤ I7 23 1 ∧ I7 23 1 ≤ 1000 from gc_in hI7 R_23 rfl rfl)
      have f12 := (show 0 ≤ I7 23 5 ∧ I7 23 5 ≤ 1000 from gc_in hI7 R_23 rfl rfl)
      have f13 := (show 0 ≤ I7 23 6 ∧ I7 23 6 ≤ 1001 from gc_in hI7 R_23 rfl rfl)
      have f14 := (show 0 ≤ I7 23 7 ∧ I7 23 7 ≤ 125 from gc_in hI7 R_23 rfl rfl)
      have f15 := (show 0 ≤ I7 1 17 ∧ I7 1 17 ≤ 12000 from gc_in hI7 R_1 rfl rfl)
      have L64 : ((0 ≤ v1_9 ∧ v1_9 ≤ 3) ∧ (I7 23 1 = I 23 1) ∧ (I 23 5 ≤ I7 23 5) ∧ (B ≤ 1280 ∧ I7 1 17 + I7 23 1 ≤ B + I7 23 5)) → gv_X (gc_E6 ws0 tb 2 (yX6_readStems, cX6_readStems, 2, (some .boolean)) kX6_readStems) (gv_Q cX6_readStems (some .boolean) sh (fun r h' => (∃ (I' : gr_I) (J' : gr_J), h' = gc_h sh I' J' A ∧ gc_Inv ro I' ∧ (∀ q j : Nat, ((q = 39 ∧ j = 3) ∨ (q = 39 ∧ j = 4) ∨ (q = 23 ∧ j = 5) ∨ (q = 23 ∧ j = 6) ∨ (q = 23 ∧ j = 7) ∨ (q = 23 ∧ j = 8) ∨ (q = 1 ∧ j = 17) ∨ (q = 1 ∧ j = 18) ∨ q = 20 ∨ q = 41) ∨ I' q j = I q j) ∧ (∀ q j : Nat, ((q = 23 ∧ j = 9)) ∨ J' q j = J q j) ∧ gc_LT I' ∧ gc_TK I' ∧ gc_row 41 11 gc_fW I' ∧ (∃ z : Int, r = some (.inl z) ∧ 0 ≤ z ∧ z ≤ 1 ∧ (I' 23 1 = I 23 1) ∧ (I 23 5 ≤ I' 23 5) ∧ (B ≤ 1280 ∧ I' 1 17 + I' 23 1 ≤ B + I' 23 5))))) (64, [(0, .inr (.inr (some 39))), (1, .inl v1_9)], [], sh, gc_h sh I7 J8 A) := by
        intro m_16
        obtain ⟨hv1_9_16, e0_16, e1_16, e2_16⟩ := m_16
        have t17 := gc_TK_mo KTK_I7
        have f18 := (show 0 ≤ I7 23 1 ∧ I7 23 1 ≤ 1000 from gc_in hI7 R_23 rfl rfl)
        have f19 := (show 0 ≤ I7 23 5 ∧ I7 23 5 ≤ 1000 from gc_in hI7 R_23 rfl rfl)
        have f20 := (show 0 ≤ I7 23 6 ∧ I7 23 6 ≤ 1001 from gc_in hI7 R_23 rfl rfl)
        have f21 := (show 0 ≤ I7 23 7 ∧ I7 23 7 ≤ 125 from gc_in hI7 R_23 rfl rfl)
        have f22 := (show 0 ≤ I7 1 17 ∧ I7 1 17 ≤ 12000 from gc_in hI7 R_1 rfl rfl)
        have L80 : ∀ (I23 : gr_I) (J24 : gr_J) (s0_25 : Int), gc_Inv ro I23 → (∀ q j : Nat, ((q = 39 ∧ j = 3) ∨ (q = 39 ∧ j = 4) ∨ (q = 23 ∧ j = 5) ∨ (q = 23 ∧ j = 6) ∨ (q = 23 ∧ j = 7) ∨ (q = 23 ∧ j = 8) ∨ (q = 1 ∧ j = 17) ∨ (q = 1 ∧ j = 18) ∨ q = 20 ∨ q = 41) ∨ I23 q j = I q j) → (∀ q j : Nat, ((q = 23 ∧ j = 9)) ∨ J24 q j = J q j) → gc_LT I23 → gc_TK I23 → gc_row 41 11 gc_fW I23 → ((0 ≤ s0_25 ∧ s0_25 ≤ 1) ∧ (I23 23 1 = I 23 1) ∧ (I 23 5 ≤ I23 23 5) ∧ (B ≤ 1280 ∧ I23 1 17 + I23 23 1 ≤ B + I23 23 5)) → gv_X (gc_E6 ws0 tb 2 (yX6_readStems, cX6_readStems, 2, (some .boolean)) kX6_readStems) (gv_Q cX6_readStems (some .boolean) sh (fun r h' => (∃ (I' : gr_I) (J' : gr_J), h' = gc_h sh I' J' A ∧ gc_Inv ro I' ∧ (∀ q j : Nat, ((q = 39 ∧ j = 3) ∨ (q = 39 ∧ j = 4) ∨ (q = 23 ∧ j = 5) ∨ (q = 23 ∧ j = 6) ∨ (q = 23 ∧ j = 7) ∨ (q = 23 ∧ j = 8) ∨ (q = 1 ∧ j = 17) ∨ (q = 1 ∧ j = 18) ∨ q = 20 ∨ q = 41) ∨ I' q j = I q j) ∧ (∀ q j : Nat, ((q = 23 ∧ j = 9)) ∨ J' q j = J q j) ∧ gc_LT I' ∧ gc_TK I' ∧ gc_row 41 11 gc_fW I' ∧ (∃ z : Int, r = some (.inl z) ∧ 0 ≤ z ∧ z ≤ 1 ∧ (I' 23 1 = I 23 1) ∧ (I 23 5 ≤ I' 23 5) ∧ (B ≤ 1280 ∧ I' 1 17 + I' 23 1 ≤ B + I' 23 5))))) (80, [], [.inl s0_25], sh, gc_h sh I23 J24 A) := by
          intro I23 J24 s0_25 hI23 FI23 FJ24 KLT_I23 KTK_I23 KRW_I23 m_25
          clear hv1_9_16 e0_16 e1_16 e2_16 t17 f18 f19 f20 f21 f22 hv1_9 e0_9 e1_9 e2_9 t10 f11 f12 f13 f14 f15
          obtain ⟨hs0_25, e0_25, e1_25, e2_25⟩ := m_25
          have t26 := gc_TK_mo KTK_I23
          have f27 := (show 0 ≤ I23 23 1 ∧ I23 23 1 ≤ 1000 from gc_in hI23 R_23 rfl rfl)
          have f28 := (show 0 ≤ I23 23 5 ∧ I23 23 5 ≤ 1000 from gc_in hI23 R_23 rfl rfl)
          have f29 := (show 0 ≤ I23 23 6 ∧ I23 23 6 ≤ 1001 from gc_in hI23 R_23 rfl rfl)
          have f30 := (show 0 ≤ I23 23 7 ∧ I23 23 7 ≤ 125 from gc_in hI23 R_23 rfl rfl)
          have f31 := (show 0 ≤ I23 1 17 ∧ I23 1 17 ≤ 12000 from gc_in hI23 R_1 rfl rfl)
          exact gv_zret hD rfl (by omega) ⟨I23, J24, rfl, hI23, FI23, FJ24, KLT_I23, KTK_I23, KRW_I23, ⟨_, rfl, by omega⟩⟩
        refine gv_run 1 true hD (pc' := 65) (lv' := [(0, .inr (.inr (some 39))), (1, .inl v1_9)]) (st' := [.inr (.inr (some 39))]) (h' := gc_h sh I7 J8 A) (C := (True ∧ True)) rfl ⟨trivial, trivial⟩ ?_
        refine gv_get hD rfl rfl S_39 ⟨by decide, B_39⟩ (gc_hA S_39 rfl A_39_10) ?_
        show gv_X _ _ (68, [(0, .inr (.inr (some 39))), (1, .inl v1_9)], [.inr (.inr (some 41))], sh, gc_h sh I7 J8 A)
        refine gv_run 2 true hD (pc' := 70) (lv' := [(0, .inr (.inr (some 39))), (1, .inl v1_9)]) (st' := [.inl v1_9, .inl 4, .inr (.inr (some 41))]) (h' := gc_h sh I7 J8 A) (C := ((True ∧ True) ∧ True)) rfl ⟨⟨trivial, trivial⟩, trivial⟩ ?_
        refine gv_iast hD rfl S_41 ⟨by decide, B_41⟩ ⟨by omega, by omega⟩ ?_
        refine gc_st (k := 4) hI7 S_41 rfl R_41 (lo := (-2147483648)) (hi := 2147483647) rfl rfl (by omega) (by omega) (fun I32 hI32 q33 p33 => ?_)
        have FI32 := gc_frs (W := fun q j => (q = 39 ∧ j = 3) ∨ (q = 39 ∧ j = 4) ∨ (q = 23 ∧ j = 5) ∨ (q = 23 ∧ j = 6) ∨ (q = 23 ∧ j = 7) ∨ (q = 23 ∧ j = 8) ∨ (q = 1 ∧ j = 17) ∨ (q = 1 ∧ j = 18) ∨ q = 20 ∨ q = 41) FI7 (Or.inr (Or.inr (Or.inr (Or.inr (Or.inr (Or.inr (Or.inr (Or.inr (Or.inr rfl))))))))) p33
        have t34 := p33 23 1 (fun h => absurd h.2 (by decide))
        have t35 := p33 23 5 (fun h => absurd h.2 (by decide))
        have t36 := p33 23 6 (fun h => absurd h.2 (by decide))
        have t37 := p33 23 7 (fun h => absurd h.2 (by decide))
        have t38 := p33 1 17 (fun h => absurd h.2 (by decide))
        have KLT_I32 := gc_LT_fr KLT_I7 (p33 23 5 (fun h => absurd h.2 (by decide))) (p33 23 6 (fun h => absurd h.2 (by decide))) (p33 23 7 (fun h => absurd h.2 (by decide))) (fun k => p33 24 k (fun h => absurd h.1 (by decide)))
        have KTK_I32 := gc_TK_fr KTK_I7 (p33 23 1 (fun h => absurd h.2 (by decide))) (p33 23 5 (fun h => absurd h.2 (by decide))) (p33 23 6 (fun h => absurd h.2 (by decide))) (p33 23 7 (fun h => absurd h.2 (by decide)))
        have KRW_I32 := gc_row_st KRW_I7 p33 q33 (by unfold gc_fW; omega)
        show gv_X _ _ (71, [(0, .inr (.inr (some 39))), (1, .inl v1_9)], [], sh, gc_h sh I32 J8 A)
        refine gv_run 1 true hD (pc' := 72) (lv' := [(0, .inr (.inr (some 39))), (1, .inl v1_9)]) (st' := [.inl v1_9]) (h' := gc_h sh I32 J8 A) (C := (True ∧ True)) rfl ⟨trivial, trivial⟩ ?_
        refine gv_if_le (t := 79) hD rfl rfl ⟨by omega, by omega⟩ (fun c39 => ?_) (fun c39 => ?_)
        · show gv_X _ _ (79, [(0, .inr (.inr (some 39))), (1, .inl v1_9)], [], sh, gc_h sh I32 J8 A)
          refine gv_run 1 true hD (pc' := 80) (lv' := [(0, .inr (.inr (some 39))), (1, .inl v1_9)]) (st' := [.inl 0]) (h' := gc_h sh I32 J8 A) (C := (True ∧ True)) rfl ⟨trivial, trivial⟩ ?_
          refine gv_pick [] rfl ?_
          exact L80 I32 J8 0 hI32 FI32 FJ8 KLT_I32 KTK_I32 KRW_I32 (by omega)
        · show gv_X _ _ (75, [(0, .inr (.inr (some 39))), (1, .inl v1_9)], [], sh, gc_h sh I32 J8 A)
          refine gv_run 2 true hD (pc' := 80) (lv' := [(0, .inr (.inr (some 39))), (1, .inl v1_9)]) (st' := [.inl 1]) (h' := gc_h sh I32 J8 A) (C := ((True ∧ True) ∧ True)) rfl ⟨⟨trivial, trivial⟩, trivial⟩ ?_
          refine gv_pick [] rfl ?_
          exact L80 I32 J8 1 hI32 FI32 FJ8 KLT_I32 KTK_I32 KRW_I32 (by omega)
      refine gv_run 2 true hD (pc' := 4) (lv' := [(0, .inr (.inr (some 39))), (1, .inl v1_9)]) (st' := [.inl 3, .inl v1_9]) (h' := gc_h sh I7 J8 A) (C := ((True ∧ True) ∧ True)) rfl ⟨⟨trivial, trivial⟩, trivial⟩ ?_
      refine gv_icmp_ge (t := 64) hD rfl rfl ⟨⟨by omega, by omega⟩, ⟨by omega, by omega⟩⟩ (fun c40 => ?_) (fun c40 => ?_)
      · show gv_X _ _ (64, [(0, .inr (.inr (some 39))), (1, .inl v1_9)], [], sh, gc_h sh I7 J8 A)
        exact L64 (by omega)
      · show gv_X _ _ (7, [(0, .inr (.inr (some 39))), (1, .inl v1_9)], [], sh, gc_h sh I7 J8 A)
        refine gv_run 1 true hD (pc' := 8) (lv' := [(0, .inr (.inr (some 39))), (1, .inl v1_9)]) (st' := [.inr (.inr (some 39))]) (h' := gc_h sh I7 J8 A) (C := (True ∧ True)) rfl ⟨trivial, trivial⟩ ?_
        refine gv_get hD rfl rfl S_39 ⟨by decide, B_39⟩ (gc_hA S_39 rfl A_39_1) ?_
        show gv_X _ _ (11, [(0, .inr (.inr (some 39))), (1, .inl v1_9)], [.inr (.inr (some 23))], sh, gc_h sh I7 J8 A)
        have f41 := (show 0 ≤ I7 23 7 ∧ I7 23 7 ≤ 125 from gc_in hI7 R_23 rfl rfl)
        refine gv_get hD rfl rfl S_23 ⟨by decide, B_23⟩ (gc_hI S_23 rfl) ?_
        show gv_X _ _ (14, [(0, .inr (.inr (some 39))), (1, .inl v1_9)], [.inl (I7 23 7)], sh, gc_h sh I7 J8 A)
        refine gv_run 1 true hD (pc' := 15) (lv' := [(0, .inr (.inr (some 39))), (1, .inl v1_9)]) (st' := [.inl 3, .inl (I7 23 7)]) (h' := gc_h sh I7 J8 A) (C := (True ∧ True)) rfl ⟨trivial, trivial⟩ ?_
        refine gv_icmp_ne (t := 64) hD rfl rfl ⟨⟨by omega, by omega⟩, ⟨by omega, by omega⟩⟩ (fun c42 => ?_) (fun c42 => ?_)
        · show gv_X _ _ (64, [(0, .inr (.inr (some 39))), (1, .inl v1_9)], [], sh, gc_h sh I7 J8 A)
          exact L64 (by omega)
        · show gv_X _ _ (18, [(0, .inr (.inr (some 39))), (1, .inl v1_9)], [], sh, gc_h sh I7 J8 A)
          refine gv_run 1 true hD (pc' := 19) (lv' := [(0, .inr (.inr (some 39))), (1, .inl v1_9)]) (st' := [.inr (.inr (some 39))]) (h' := gc_h sh I7 J8 A) (C := (True ∧ True)) rfl ⟨trivial, trivial⟩ ?_
          refine gv_get hD rfl rfl S_39 ⟨by decide, B_39⟩ (gc_hA S_39 rfl A_39_10) ?_
          show gv_X _ _ (22, [(0, .inr (.inr (some 39))), (1, .inl v1_9)], [.inr (.inr (some 41))], sh, gc_h sh I7 J8 A)
          refine gv_run 6 true hD (pc' := 28) (lv' := [(0, .inr (.inr (some 39))), (1, .inl v1_9)]) (st' := [.inr (.inr (some 39)), .inl (5 + (2 * v1_9)), .inr (.inr (some 41))]) (h' := gc_h sh I7 J8 A) (C := ((((((True ∧ True) ∧ True) ∧ True) ∧ True) ∧ True) ∧ True)) rfl ⟨⟨⟨⟨⟨⟨trivial, trivial⟩, trivial⟩, trivial⟩, trivial⟩, trivial⟩, trivial⟩ ?_
          obtain ⟨r43, h43, E43, P43⟩ := d_X6_keepLetters (ws0 := ws0) (tb := tb) hws htb sh ro I7 J8 A hI7   hb    (by omega) KLT_I7 KTK_I7
          obtain ⟨I44, J45, rfl, hI44, g43, k43, KLT_I44, KTK_I44, ⟨z43, rfl, q43⟩⟩ := P43
          have FI44 := gc_frc (W := fun q j => (q = 39 ∧ j = 3) ∨ (q = 39 ∧ j = 4) ∨ (q = 23 ∧ j = 5) ∨ (q = 23 ∧ j = 6) ∨ (q = 23 ∧ j = 7) ∨ (q = 23 ∧ j = 8) ∨ (q = 1 ∧ j = 17) ∨ (q = 1 ∧ j = 18) ∨ q = 20 ∨ q = 41) (V := fun q j => (q = 1 ∧ j = 17) ∨ (q = 1 ∧ j = 18) ∨ q = 20) FI7 (fun q j h => (h.elim (fun h => (Or.inr (Or.inr (Or.inr (Or.inr (Or.inr (Or.inr (Or.inl h)))))))) (fun h => (h.elim (fun h => (Or.inr (Or.inr (Or.inr (Or.inr (Or.inr (Or.inr (Or.inr (Or.inl h))))))))) (fun h => (Or.inr (Or.inr (Or.inr (Or.inr (Or.inr (Or.inr (Or.inr (Or.inr (Or.inl h)))))))))))))) g43
          have t46 := (g43 23 1).resolve_left (fun h => h.elim (fun h => absurd h.2 (by decide)) (fun h => h.elim (fun h => absurd h.2 (by decide)) (fun h => absurd h (by decide))))
          have t47 := (g43 23 5).resolve_left (fun h => h.elim (fun h => absurd h.2 (by decide)) (fun h => h.elim (fun h => absurd h.2 (by decide)) (fun h => absurd h (by decide))))
          have t48 := (g43 23 6).resolve_left (fun h => h.elim (fun h => absurd h.2 (by decide)) (fun h => h.elim (fun h => absurd h.2 (by decide)) (fun h => absurd h (by decide))))
          have t49 := (g43 23 7).resolve_left (fun h => h.elim (fun h => absurd h.2 (by decide)) (fun h => h.elim (fun h => absurd h.2 (by decide)) (fun h => absurd h (by decide))))
          have f50 := (show 0 ≤ I44 1 17 ∧ I44 1 17 ≤ 12000 from gc_in hI44 R_1 rfl rfl)
          obtain rfl : J8 = J45 := funext fun q => funext fun j => ((k43 q j).resolve_left id).symm
          have KRW_I44 := gc_row_fr KRW_I7 (fun k => (g43 41 k).resolve_left (fun h => h.elim (fun h => absurd h.1 (by decide)) (fun h => h.elim (fun h => absurd h.1 (by decide)) (fun h => absurd h (by decide)))))
          refine gv_callV hD rfl (As := []) (st := [.inl (5 + (2 * v1_9)), .inr (.inr (some 41))]) rfl B_39 S_39 rfl (gc_lV6 hws rfl) (Nat.le_of_ble_eq_true rfl) (gz_Ev_mono (d := 2) (by decide) E43) ?_
          show gv_X _ _ (31, [(0, .inr (.inr (some 39))), (1, .inl v1_9)], [.inl z43, .inl (5 + (2 * v1_9)), .inr (.inr (some 41))], sh, gc_h sh I44 J8 A)
          refine gv_iast hD rfl S_41 ⟨by decide, B_41⟩ ⟨by omega, by omega⟩ ?_
          refine gc_st hI44 S_41 rfl R_41 (lo := (-2147483648)) (hi := 2147483647) rfl rfl (by omega) (by omega) (fun I51 hI51 q52 p52 => ?_)
          have FI51 := gc_frs (W := fun q j => (q = 39 ∧ j = 3) ∨ (q = 39 ∧ j = 4) ∨ (q = 23 ∧ j = 5) ∨ (q = 23 ∧ j = 6) ∨ (q = 23 ∧ j = 7) ∨ (q = 23 ∧ j = 8) ∨ (q = 1 ∧ j = 17) ∨ (q = 1 ∧ j = 18) ∨ q = 20 ∨ q = 41) FI44 (Or.inr (Or.inr (Or.inr (Or.inr (Or.inr (Or.inr (Or.inr (Or.inr (Or.inr rfl))))))))) p52
          have t53 := p52 23 1 (fun h => absurd h.1 (by decide))
          have t54 := p52 23 5 (fun h => absurd h.1 (by decide))
          have t55 := p52 23 6 (fun h => absurd h.1 (by decide))
          have t56 := p52 23 7 (fun h => absurd h.1 (by decide))
          have t57 := p52 1 17 (fun h => absurd h.1 (by decide))
          have KLT_I51 := gc_LT_fr KLT_I44 (p52 23 5 (fun h => absurd h.1 (by decide))) (p52 23 6 (fun h => absurd h.1 (by decide))) (p52 23 7 (fun h => absurd h.1 (by decide))) (fun k => p52 24 k (fun h => absurd h.1 (by decide)))
          have KTK_I51 := gc_TK_fr KTK_I44 (p52 23 1 (fun h => absurd h.1 (by decide))) (p52 23 5 (fun h => absurd h.1 (by decide))) (p52 23 6 (fun h => absurd h.1 (by decide))) (p52 23 7 (fun h => absurd h.1 (by decide)))
          have KRW_I51 := gc_row_st KRW_I44 p52 q52 (by unfold gc_fW; omega)
          show gv_X _ _ (32, [(0, .inr (.inr (some 39))), (1, .inl v1_9)], [], sh, gc_h sh I51 J8 A)
          refine gv_run 1 true hD (pc' := 33) (lv' := [(0, .inr (.inr (some 39))), (1, .inl v1_9)]) (st' := [.inr (.inr (some 39))]) (h' := gc_h sh I51 J8 A) (C := (True ∧ True)) rfl ⟨trivial, trivial⟩ ?_
          refine gv_get hD rfl rfl S_39 ⟨by decide, B_39⟩ (gc_hA S_39 rfl A_39_10) ?_
          show gv_X _ _ (36, [(0, .inr (.inr (some 39))), (1, .inl v1_9)], [.inr (.inr (some 41))], sh, gc_h sh I51 J8 A)
          refine gv_run 7 true hD (pc' := 43) (lv' := [(0, .inr (.inr (some 39))), (1, .inl v1_9)]) (st' := [.inl ((5 + (2 * v1_9)) + 1), .inr (.inr (some 41))]) (h' := gc_h sh I51 J8 A) (C := (((((((True ∧ True) ∧ True) ∧ True) ∧ True) ∧ True) ∧ True) ∧ True)) rfl ⟨⟨⟨⟨⟨⟨⟨trivial, trivial⟩, trivial⟩, trivial⟩, trivial⟩, trivial⟩, trivial⟩, trivial⟩ ?_
          refine gv_run 1 true hD (pc' := 44) (lv' := [(0, .inr (.inr (some 39))), (1, .inl v1_9)]) (st' := [.inr (.inr (some 39)), .inl ((5 + (2 * v1_9)) + 1), .inr (.inr (some 41))]) (h' := gc_h sh I51 J8 A) (C := (True ∧ True)) rfl ⟨trivial, trivial⟩ ?_
          refine gv_get hD rfl rfl S_39 ⟨by decide, B_39⟩ (gc_hA S_39 rfl A_39_1) ?_
          show gv_X _ _ (47, [(0, .inr (.inr (some 39))), (1, .inl v1_9)], [.inr (.inr (some 23)), .inl ((5 + (2 * v1_9)) + 1), .inr (.inr (some 41))], sh, gc_h sh I51 J8 A)
          have t59 := gc_TK_l3 KTK_I51 (by omega)
          obtain ⟨r58, h58, E58, P58⟩ := d_X9_lettersSize (ws0 := ws0) (tb := tb) hws htb sh ro I51 J8 A hI51 23  (gc_b23 hb)     
          obtain ⟨rfl, ⟨z58, rfl, q58⟩⟩ := P58
          refine gv_callV hD rfl (As := []) (st := [.inl ((5 + (2 * v1_9)) + 1), .inr (.inr (some 41))]) rfl B_23 S_23 rfl (gc_lV6 hws rfl) (Nat.le_of_ble_eq_true rfl) (gz_Ev_mono (d := 1) (by decide) E58) ?_
          show gv_X _ _ (50, [(0, .inr (.inr (some 39))), (1, .inl v1_9)], [.inl z58, .inl ((5 + (2 * v1_9)) + 1), .inr (.inr (some 41))], sh, gc_h sh I51 J8 A)
          refine gv_iast hD rfl S_41 ⟨by decide, B_41⟩ ⟨by omega, by omega⟩ ?_
          refine gc_st hI51 S_41 rfl R_41 (lo := (-2147483648)) (hi := 2147483647) rfl rfl (by omega) (by omega) (fun I60 hI60 q61 p61 => ?_)
          have FI60 := gc_frs (W := fun q j => (q = 39 ∧ j = 3) ∨ (q = 39 ∧ j = 4) ∨ (q = 23 ∧ j = 5) ∨ (q = 23 ∧ j = 6) ∨ (q = 23 ∧ j = 7) ∨ (q = 23 ∧ j = 8) ∨ (q = 1 ∧ j = 17) ∨ (q = 1 ∧ j = 18) ∨ q = 20 ∨ q = 41) FI51 (Or.inr (Or.inr (Or.inr (Or.inr (Or.inr (Or.inr (Or.inr (Or.inr (Or.inr rfl))))))))) p61
          have t62 := p61 23 1 (fun h => absurd h.1 (by decide))
          have t63 := p61 23 5 (fun h => absurd h.1 (by decide))
          have t64 := p61 23 6 (fun h => absurd h.1 (by decide))
          have t65 := p61 23 7 (fun h => absurd h.1 (by decide))
          have t66 := p61 1 17 (fun h => absurd h.1 (by decide))
          have KLT_I60 := gc_LT_fr KLT_I51 (p61 23 5 (fun h => absurd h.1 (by decide))) (p61 23 6 (fun h => absurd h.1 (by decide))) (p61 23 7 (fun h => absurd h.1 (by decide))) (fun k => p61 24 k (fun h => absurd h.1 (by decide)))
          have KTK_I60 := gc_TK_fr KTK_I51 (p61 23 1 (fun h => absurd h.1 (by decide))) (p61 23 5 (fun h => absurd h.1 (by decide))) (p61 23 6 (fun h => absurd h.1 (by decide))) (p61 23 7 (fun h => absurd h.1 (by decide)))
          have KRW_I60 := gc_row_st KRW_I51 p61 q61 (by unfold gc_fW; omega)
          show gv_X _ _ (51, [(0, .inr (.inr (some 39))), (1, .inl v1_9)], [], sh, gc_h sh I60 J8 A)
          refine gv_run 1 true hD (pc' := 52) (lv' := [(0, .inr (.inr (some 39))), (1, .inl v1_9)]) (st' := [.inr (.inr (some 39))]) (h' := gc_h sh I60 J8 A) (C := (True ∧ True)) rfl ⟨trivial, trivial⟩ ?_
          refine gv_get hD rfl rfl S_39 ⟨by decide, B_39⟩ (gc_hA S_39 rfl A_39_1) ?_
          show gv_X _ _ (55, [(0, .inr (.inr (some 39))), (1, .inl v1_9)], [.inr (.inr (some 23))], sh, gc_h sh I60 J8 A)
          have t68 := gc_TK_nx KTK_I60 (by omega)
          have t69 := gc_TK_st KTK_I60 (by omega)
          obtain ⟨r67, h67, E67, P67⟩ := d_X9_advance (ws0 := ws0) (tb := tb) hws htb sh ro I60 J8 A hI60 23  (gc_b23 hb)    (by omega) 
          obtain ⟨I70, J71, rfl, hI70, g67, k67, ⟨rfl, V67_0, V67_1, V67_2, V67_3, V67_4, q67⟩⟩ := P67
          have FI70 := gc_frc (W := fun q j => (q = 39 ∧ j = 3) ∨ (q = 39 ∧ j = 4) ∨ (q = 23 ∧ j = 5) ∨ (q = 23 ∧ j = 6) ∨ (q = 23 ∧ j = 7) ∨ (q = 23 ∧ j = 8) ∨ (q = 1 ∧ j = 17) ∨ (q = 1 ∧ j = 18) ∨ q = 20 ∨ q = 41) (V := fun q j => (q = 23 ∧ j = 5) ∨ (q = 23 ∧ j = 6) ∨ (q = 23 ∧ j = 7) ∨ (q = 23 ∧ j = 8)) FI60 (fun q j h => (h.elim (fun h => (Or.inr (Or.inr (Or.inl h)))) (fun h => (h.elim (fun h => (Or.inr (Or.inr (Or.inr (Or.inl h))))) (fun h => (h.elim (fun h => (Or.inr (Or.inr (Or.inr (Or.inr (Or.inl h)))))) (fun h => (Or.inr (Or.inr (Or.inr (Or.inr (Or.inr (Or.inl h))))))))))))) g67
          have FJ71 := gc_frc (W := fun q j => (q = 23 ∧ j = 9)) (V := fun q j => (q = 23 ∧ j = 9)) FJ8 (fun q j h => h) k67
          have t72 := (g67 23 1).resolve_left (fun h => h.elim (fun h => absurd h.2 (by decide)) (fun h => h.elim (fun h => absurd h.2 (by decide)) (fun h => h.elim (fun h => absurd h.2 (by decide)) (fun h => absurd h.2 (by decide)))))
          have t73 := (g67 1 17).resolve_left (fun h => h.elim (fun h => absurd h.2 (by decide)) (fun h => h.elim (fun h => absurd h.2 (by decide)) (fun h => h.elim (fun h => absurd h.2 (by decide)) (fun h => absurd h.2 (by decide)))))
          have f74 := (show 0 ≤ I70 23 5 ∧ I70 23 5 ≤ 1000 from gc_in hI70 R_23 rfl rfl)
          have f75 := (show 0 ≤ I70 23 6 ∧ I70 23 6 ≤ 1001 from gc_in hI70 R_23 rfl rfl)
          have f76 := (show 0 ≤ I70 23 7 ∧ I70 23 7 ≤ 125 from gc_in hI70 R_23 rfl rfl)
          have KLT_I70 : gc_LT I70 := q67.2.2
          have KRW_I70 := gc_row_fr KRW_I60 (fun k => (g67 41 k).resolve_left (fun h => h.elim (fun h => absurd h.1 (by decide)) (fun h => h.elim (fun h => absurd h.1 (by decide)) (fun h => h.elim (fun h => absurd h.1 (by decide)) (fun h => absurd h.1 (by decide))))))
          have KTK_I70 : gc_TK I70 := And.intro V67_0 (And.intro V67_1 (And.intro V67_2 (And.intro V67_3 V67_4)))
          have t77 := gc_TK_mo KTK_I70
          clear V67_0 V67_1 V67_2 V67_3 V67_4
          refine gv_callV hD rfl (As := []) (st := []) rfl B_23 S_23 rfl (gc_lV6 hws rfl) (Nat.le_of_ble_eq_true rfl) (gz_Ev_mono (d := 2) (by decide) E67) ?_
          show gv_X _ _ (58, [(0, .inr (.inr (some 39))), (1, .inl v1_9)], [], sh, gc_h sh I70 J71 A)
          refine gv_run 2 true hD (pc' := 2) (lv' := [(1, .inl (v1_9 + 1)), (0, .inr (.inr (some 39)))]) (st' := []) (h' := gc_h sh I70 J71 A) (C := ((True ∧ True) ∧ True)) rfl ⟨⟨trivial, trivial⟩, trivial⟩ ?_
          refine gv_pick [1, 0] rfl ?_
          exact ih2 I70 J71 (v1_9 + 1) (by omega) hI70 FI70 FJ71 KLT_I70 KTK_I70 KRW_I70 (by omega)
  refine gv_run 2 true hD (pc' := 2) (lv' := [(1, .inl 0), (0, .inr (.inr (some 39)))]) (st' := []) (h' := gc_h sh I J A) (C := ((True ∧ True) ∧ True)) rfl ⟨⟨trivial, trivial⟩, trivial⟩ ?_
  refine gv_pick [1, 0] rfl ?_
  exact L2 _ I J 0 (Nat.lt_succ_self _) hI FI FJ KLT_I KTK_I KRW_I (by omega)
set_option maxHeartbeats 4000000 in
set_option maxRecDepth 100000 in
theorem d_X6_readHas {ws0 : List Cond} {tb : String → gz_T} (hws : gc_Ws ws0) (htb : gc_tbs tb) (sh : gz_Sh) (ro : Nat → Nat) (I : gr_I) (J : gr_J) (A : gc_A) (hI : gc_Inv ro I) (t : Nat)  (hb : gc_Base sh ro A) (h_t : gc_isTongue sh ro A t) (G_t : 144 ≤ t)  (x0 : I 39 2 = (t : Int)) (KLT_I : gc_LT I) (KTK_I : gc_TK I) : ∃ r h', gz_Ev ws0 tb 4 (yX6_readHas, cX6_readHas, 1, (some .boolean)) [.inr (.inr (some 39))] sh (gc_h sh I J A) r sh h' 0 0 ∧ (∃ (I' : gr_I) (J' : gr_J), h' = gc_h sh I' J' A ∧ gc_Inv ro I' ∧ (∀ q j : Nat, ((q = 39 ∧ j = 3) ∨ (q = 39 ∧ j = 4) ∨ (q = 23 ∧ j = 5) ∨ (q = 23 ∧ j = 6) ∨ (q = 23 ∧ j = 7) ∨ (q = 23 ∧ j = 8) ∨ (q = 39 ∧ j = 6)) ∨ I' q j = I q j) ∧ (∀ q j : Nat, ((q = 23 ∧ j = 9)) ∨ J' q j = J q j) ∧ gc_LT I' ∧ gc_TK I' ∧ (∃ z : Int, r = some (.inl z) ∧ 0 ≤ z ∧ z ≤ 1 ∧ (I' 23 1 = I 23 1) ∧ (I 23 5 ≤ I' 23 5))) := by
  have FI : ∀ q j : Nat, ((q = 39 ∧ j = 3) ∨ (q = 39 ∧ j = 4) ∨ (q = 23 ∧ j = 5) ∨ (q = 23 ∧ j = 6) ∨ (q = 23 ∧ j = 7) ∨ (q = 23 ∧ j = 8) ∨ (q = 39 ∧ j = 6)) ∨ I q j = I q j := fun _ _ => Or.inr rfl
  have FJ : ∀ q j : Nat, ((q = 23 ∧ j = 9)) ∨ J q j = J q j := fun _ _ => Or.inr rfl
  have A_39_1 : A 39 1 = some 23 := gc_bA hb rfl
  have B_23 : 23 < 1000000 := by decide
  have B_39 : 39 < 1000000 := by decide
  have R_23 : ro 23 = 3 := gc_bR hb (by decide) rfl
  have R_39 : ro 39 = 42 := gc_bR hb (by decide) rfl
  have S_23 : sh[23]? = some (false, 9, 10) := gc_bS hb rfl
  have S_39 : sh[39]? = some (false, 6, 19) := gc_bS hb rfl
  obtain ⟨S_t, R_t, B_t, A_t_0, h_t_1, A_t_1, h_t_3, A_t_2, S_t_5, R_t_5, B_t_5, A_t_3, S_t_6, R_t_6, B_t_6, A_t_4, h_t_7, A_t_5, S_t_9, R_t_9, B_t_9, A_t_7, S_t_10, R_t_10, B_t_10, A_t_8, h_t_11, A_t_9, S_t_13, R_t_13, B_t_13, A_t_10, S_t_14, R_t_14, B_t_14, A_t_12, S_t_15, R_t_15, B_t_15, A_t_14, S_t_16, R_t_16, B_t_16, A_t_15, h_t_17⟩ := id h_t
  obtain ⟨S_t_1, R_t_1, B_t_1, A_t_1_0, S_t_1_1, R_t_1_1, B_t_1_1, Q0_t_1, Q1_t_1, Q2_t_1⟩ := id h_t_1
  obtain ⟨S_t_3, R_t_3, B_t_3, A_t_3_0, S_t_3_1, R_t_3_1, B_t_3_1, Q0_t_3, Q1_t_3, Q2_t_3⟩ := id h_t_3
  obtain ⟨S_t_7, R_t_7, B_t_7, A_t_7_0, S_t_7_1, R_t_7_1, B_t_7_1, Q0_t_7, Q1_t_7, Q2_t_7⟩ := id h_t_7
  obtain ⟨S_t_11, R_t_11, B_t_11, A_t_11_0, S_t_11_1, R_t_11_1, B_t_11_1, Q0_t_11, Q1_t_11, Q2_t_11⟩ := id h_t_11
  obtain ⟨S_t_17, R_t_17, B_t_17, A_t_17_0, S_20, R_20, B_20, A_t_17_1, S_t_17_1, R_t_17_1, B_t_17_1, A_t_17_2, S_t_17_2, R_t_17_2, B_t_17_2, A_t_17_3, S_t_17_3, R_t_17_3, B_t_17_3, A_t_17_4, S_t_17_4, R_t_17_4, B_t_17_4, A_t_17_5, S_t_17_5, R_t_17_5, B_t_17_5, S_t_17_6, R_t_17_6, B_t_17_6, S_t_17_7, R_t_17_7, B_t_17_7⟩ := id h_t_17
  have hD : gv_D (gc_E6 ws0 tb 3 (yX6_readHas, cX6_readHas, 1, (some .boolean)) kX6_readHas) := gq_ok oX6_readHas
  refine gc_ev6 (d := 3) (l := kX6_readHas) (Po := fun r h' => (∃ (I' : gr_I) (J' : gr_J), h' = gc_h sh I' J' A ∧ gc_Inv ro I' ∧ (∀ q j : Nat, ((q = 39 ∧ j = 3) ∨ (q = 39 ∧ j = 4) ∨ (q = 23 ∧ j = 5) ∨ (q = 23 ∧ j = 6) ∨ (q = 23 ∧ j = 7) ∨ (q = 23 ∧ j = 8) ∨ (q = 39 ∧ j = 6)) ∨ I' q j = I q j) ∧ (∀ q j : Nat, ((q = 23 ∧ j = 9)) ∨ J' q j = J q j) ∧ gc_LT I' ∧ gc_TK I' ∧ (∃ z : Int, r = some (.inl z) ∧ 0 ≤ z ∧ z ≤ 1 ∧ (I' 23 1 = I 23 1) ∧ (I 23 5 ≤ I' 23 5)))) htb rfl (Nat.le_of_ble_eq_true rfl) ?_
  have t1 := gc_TK_mo KTK_I
  have f2 := (show 0 ≤ I 23 1 ∧ I 23 1 ≤ 1000 from gc_in hI R_23 rfl rfl)
  have f3 := (show 0 ≤ I 23 5 ∧ I 23 5 ≤ 1000 from gc_in hI R_23 rfl rfl)
  have f4 := (show 0 ≤ I 23 6 ∧ I 23 6 ≤ 1001 from gc_in hI R_23 rfl rfl)
  have f5 := (show 0 ≤ I 23 7 ∧ I 23 7 ≤ 125 from gc_in hI R_23 rfl rfl)
  have f6 := (show (-1) ≤ I 39 2 ∧ I 39 2 ≤ 999999 from gc_in hI R_39 rfl rfl)
  have L45 : ∀ (I7 : gr_I) (J8 : gr_J) (s0_9 : Int), gc_Inv ro I7 → (∀ q j : Nat, ((q = 39 ∧ j = 3) ∨ (q = 39 ∧ j = 4) ∨ (q = 23 ∧ j = 5) ∨ (q = 23 ∧ j = 6) ∨ (q = 23 ∧ j = 7) ∨ (q = 23 ∧ j = 8) ∨ (q = 39 ∧ j = 6)) ∨ I7 q j = I q j) → (∀ q j : Nat, ((q = 23 ∧ j = 9)) ∨ J8 q j = J q j) → gc_LT I7 → gc_TK I7 → ((0 ≤ s0_9 ∧ s0_9 ≤ 1) ∧ (I7 23 1 = I 23 1) ∧ (I 23 5 ≤ I7 23 5) ∧ (I7 39 2 = (t : Int))) → gv_X (gc_E6 ws0 tb 3 (yX6_readHas, cX6_readHas, 1, (some .boolean)) kX6_readHas) (gv_Q cX6_readHas (some .boolean) sh (fun r h' => (∃ (I' : gr_I) (J' : gr_J), h' = gc_h sh I' J' A ∧ gc_Inv ro I' ∧ (∀ q j : Nat, ((q = 39 ∧ j = 3) ∨ (q = 39 ∧ j = 4) ∨ (q = 23 ∧ j = 5) ∨ (q = 23 ∧ j = 6) ∨ (q = 23 ∧ j = 7) ∨ (q = 23 ∧ j = 8) ∨ (q = 39 ∧ j = 6)) ∨ I' q j = I q j) ∧ (∀ q j : Nat, ((q = 23 ∧ j = 9)) ∨ J' q j = J q j) ∧ gc_LT I' ∧ gc_TK I' ∧ (∃ z : Int, r = some (.inl z) ∧ 0 ≤ z ∧ z ≤ 1 ∧ (I' 23 1 = I 23 1) ∧ (I 23 5 ≤ I' 23 5))))) (45, [], [.inl s0_9], sh, gc_h sh I7 J8 A) := by
    intro I7 J8 s0_9 hI7 FI7 FJ8 KLT_I7 KTK_I7 m_9
    obtain ⟨hs0_9, e0_9, e1_9, e2_9⟩ := m_9
    have t10 := gc_TK_mo KTK_I7
    have f11 := (show 0 ≤ I7 23 1 ∧ I7 23 1 ≤ 1000 from gc_in hI7 R_23 rfl rfl)
    have f12 := (show 0 ≤ I7 23 5 ∧ I7 23 5 ≤ 1000 from gc_in hI7 R_23 rfl rfl)
    have f13 := (show 0 ≤ I7 23 6 ∧ I7 23 6 ≤ 1001 from gc_in hI7 R_23 rfl rfl)
    have f14 := (show 0 ≤ I7 23 7 ∧ I7 23 7 ≤ 125 from gc_in hI7 R_23 rfl rfl)
    have f15 := (show (-1) ≤ I7 39 2 ∧ I7 39 2 ≤ 999999 from gc_in hI7 R_39 rfl rfl)
    exact gv_zret hD rfl (by omega) ⟨I7, J8, rfl, hI7, FI7, FJ8, KLT_I7, KTK_I7, ⟨_, rfl, by omega⟩⟩
  have L44 : ∀ (I16 : gr_I) (J17 : gr_J) , gc_Inv ro I16 → (∀ q j : Nat, ((q = 39 ∧ j = 3) ∨ (q = 39 ∧ j = 4) ∨ (q = 23 ∧ j = 5) ∨ (q = 23 ∧ j = 6) ∨ (q = 23 ∧ j = 7) ∨ (q = 23 ∧ j = 8) ∨ (q = 39 ∧ j = 6)) ∨ I16 q j = I q j) → (∀ q j : Nat, ((q = 23 ∧ j = 9)) ∨ J17 q j = J q j) → gc_LT I16 → gc_TK I16 → ((I16 23 1 = I 23 1) ∧ (I 23 5 ≤ I16 23 5) ∧ (I16 39 2 = (t : Int))) → gv_X (gc_E6 ws0 tb 3 (yX6_readHas, cX6_readHas, 1, (some .boolean)) kX6_readHas) (gv_Q cX6_readHas (some .boolean) sh (fun r h' => (∃ (I' : gr_I) (J' : gr_J), h' = gc_h sh I' J' A ∧ gc_Inv ro I' ∧ (∀ q j : Nat, ((q = 39 ∧ j = 3) ∨ (q = 39 ∧ j = 4) ∨ (q = 23 ∧ j = 5) ∨ (q = 23 ∧ j = 6) ∨ (q = 23 ∧ j = 7) ∨ (q = 23 ∧ j = 8) ∨ (q = 39 ∧ j = 6)) ∨ I' q j = I q j) ∧ (∀ q j : Nat, ((q = 23 ∧ j = 9)) ∨ J' q j = J q j) ∧ gc_LT I' ∧ gc_TK I' ∧ (∃ z : Int, r = some (.inl z) ∧ 0 ≤ z ∧ z ≤ 1 ∧ (I' 23 1 = I 23 1) ∧ (I 23 5 ≤ I' 23 5))))) (44, [], [], sh, gc_h sh I16 J17 A) := by
    intro I16 J17 hI16 FI16 FJ17 KLT_I16 KTK_I16 m_18
    obtain ⟨e0_18, e1_18, e2_18⟩ := m_18
    have t19 := gc_TK_mo KTK_I16
    have f20 := (show 0 ≤ I16 23 1 ∧ I16 23 1 ≤ 1000 from gc_in hI16 R_23 rfl rfl)
    have f21 := (show 0 ≤ I16 23 5 ∧ I16 23 5 ≤ 1000 from gc_in hI16 R_23 rfl rfl)
    have f22 := (show 0 ≤ I16 23 6 ∧ I16 23 6 ≤ 1001 from gc_in hI16 R_23 rfl rfl)
    have f23 := (show 0 ≤ I16 23 7 ∧ I16 23 7 ≤ 125 from gc_in hI16 R_23 rfl rfl)
    have f24 := (show (-1) ≤ I16 39 2 ∧ I16 39 2 ≤ 999999 from gc_in hI16 R_39 rfl rfl)
    refine gv_run 1 true hD (pc' := 45) (lv' := []) (st' := [.inl 0]) (h' := gc_h sh I16 J17 A) (C := (True ∧ True)) rfl ⟨trivial, trivial⟩ ?_
    exact L45 I16 J17 0 hI16 FI16 FJ17 KLT_I16 KTK_I16 (by omega)
  refine gv_run 2 true hD (pc' := 2) (lv' := [(0, .inr (.inr (some 39)))]) (st' := [.inl 0, .inr (.inr (some 39))]) (h' := gc_h sh I J A) (C := ((True ∧ True) ∧ True)) rfl ⟨⟨trivial, trivial⟩, trivial⟩ ?_
  refine gv_put hD rfl rfl S_39 ⟨by decide, B_39⟩ rfl trivial ?_
  refine gc_st (k := 6) hI S_39 rfl R_39 (lo := 0) (hi := 16777215) rfl rfl (by omega) (by omega) (fun I25 hI25 q26 p26 => ?_)
  have FI25 := gc_frs (W := fun q j => (q = 39 ∧ j = 3) ∨ (q = 39 ∧ j = 4) ∨ (q = 23 ∧ j = 5) ∨ (q = 23 ∧ j = 6) ∨ (q = 23 ∧ j = 7) ∨ (q = 23 ∧ j = 8) ∨ (q = 39 ∧ j = 6)) FI (Or.inr (Or.inr (Or.inr (Or.inr (Or.inr (Or.inr ⟨rfl, rfl⟩)))))) p26
  have t27 := p26 23 1 (fun h => absurd h.2 (by decide))
  have t28 := p26 23 5 (fun h => absurd h.2 (by decide))
  have t29 := p26 23 6 (fun h => absurd h.1 (by decide))
  have t30 := p26 23 7 (fun h => absurd h.2 (by decide))
  have t31 := p26 39 2 (fun h => absurd h.2 (by decide))
  have KLT_I25 := gc_LT_fr KLT_I (p26 23 5 (fun h => absurd h.2 (by decide))) (p26 23 6 (fun h => absurd h.1 (by decide))) (p26 23 7 (fun h => absurd h.2 (by decide))) (fun k => p26 24 k (fun h => absurd h.1 (by decide)))
  have KTK_I25 := gc_TK_fr KTK_I (p26 23 1 (fun h => absurd h.2 (by decide))) (p26 23 5 (fun h => absurd h.2 (by decide))) (p26 23 6 (fun h => absurd h.1 (by decide))) (p26 23 7 (fun h => absurd h.2 (by decide)))
  show gv_X _ _ (5, [(0, .inr (.inr (some 39)))], [], sh, gc_h sh I25 J A)
  refine gv_run 2 true hD (pc' := 9) (lv' := [(0, .inr (.inr (some 39)))]) (st' := [.inr (.inl (6840691)), .inr (.inr (some 39))]) (h' := gc_h sh I25 J A) (C := ((True ∧ True) ∧ True)) rfl ⟨⟨trivial, trivial⟩, trivial⟩ ?_
  obtain ⟨r32, h32, E32, P32⟩ := d_X6_isWord (ws0 := ws0) (tb := tb) hws htb sh ro I25 J A hI25  (6840691) hb     
  obtain ⟨rfl, ⟨z32, rfl, q32⟩⟩ := P32
  refine gv_callV hD rfl (As := [.inr (.inl (6840691))]) (st := []) rfl B_39 S_39 rfl (gc_lV6 hws rfl) (Nat.le_of_ble_eq_true rfl) (gz_Ev_mono (d := 1) (by decide) E32) ?_
  show gv_X _ _ (12, [(0, .inr (.inr (some 39)))], [.inl z32], sh, gc_h sh I25 J A)
  refine gv_if_ne (t := 17) hD rfl rfl ⟨by omega, by omega⟩ (fun c33 => ?_) (fun c33 => ?_)
  · show gv_X _ _ (17, [(0, .inr (.inr (some 39)))], [], sh, gc_h sh I25 J A)
    refine gv_run 1 true hD (pc' := 18) (lv' := [(0, .inr (.inr (some 39)))]) (st' := [.inr (.inr (some 39))]) (h' := gc_h sh I25 J A) (C := (True ∧ True)) rfl ⟨trivial, trivial⟩ ?_
    refine gv_get hD rfl rfl S_39 ⟨by decide, B_39⟩ (gc_hA S_39 rfl A_39_1) ?_
    show gv_X _ _ (21, [(0, .inr (.inr (some 39)))], [.inr (.inr (some 23))], sh, gc_h sh I25 J A)
    have t35 := gc_TK_nx KTK_I25 (by omega)
    obtain ⟨r34, h34, E34, P34⟩ := d_X9_advance (ws0 := ws0) (tb := tb) hws htb sh ro I25 J A hI25 23  (gc_b23 hb)    (by omega) 
    obtain ⟨I36, J37, rfl, hI36, g34, k34, ⟨rfl, V34_0, V34_1, V34_2, V34_3, V34_4, q34⟩⟩ := P34
    have FI36 := gc_frc (W := fun q j => (q = 39 ∧ j = 3) ∨ (q = 39 ∧ j = 4) ∨ (q = 23 ∧ j = 5) ∨ (q = 23 ∧ j = 6) ∨ (q = 23 ∧ j = 7) ∨ (q = 23 ∧ j = 8) ∨ (q = 39 ∧ j = 6)) (V := fun q j => (q = 23 ∧ j = 5) ∨ (q = 23 ∧ j = 6) ∨ (q = 23 ∧ j = 7) ∨ (q = 23 ∧ j = 8)) FI25 (fun q j h => (h.elim (fun h => (Or.inr (Or.inr (Or.inl h)))) (fun h => (h.elim (fun h => (Or.inr (Or.inr (Or.inr (Or.inl h))))) (fun h => (h.elim (fun h => (Or.inr (Or.inr (Or.inr (Or.inr (Or.inl h)))))) (fun h => (Or.inr (Or.inr (Or.inr (Or.inr (Or.inr (Or.inl h))))))))))))) g34
    have FJ37 := gc_frc (W := fun q j => (q = 23 ∧ j = 9)) (V := fun q j => (q = 23 ∧ j = 9)) FJ (fun q j h => h) k34
    have t38 := (g34 23 1).resolve_left (fun h => h.elim (fun h => absurd h.2 (by decide)) (fun h => h.elim (fun h => absurd h.2 (by decide)) (fun h => h.elim (fun h => absurd h.2 (by decide)) (fun h => absurd h.2 (by decide)))))
    have t39 := (g34 39 2).resolve_left (fun h => h.elim (fun h => absurd h.2 (by decide)) (fun h => h.elim (fun h => absurd h.2 (by decide)) (fun h => h.elim (fun h => absurd h.2 (by decide)) (fun h => absurd h.2 (by decide)))))
    have f40 := (show 0 ≤ I36 23 5 ∧ I36 23 5 ≤ 1000 from gc_in hI36 R_23 rfl rfl)
    have f41 := (show 0 ≤ I36 23 6 ∧ I36 23 6 ≤ 1001 from gc_in hI36 R_23 rfl rfl)
    have f42 := (show 0 ≤ I36 23 7 ∧ I36 23 7 ≤ 125 from gc_in hI36 R_23 rfl rfl)
    have KLT_I36 : gc_LT I36 := q34.2.2
    have KTK_I36 : gc_TK I36 := And.intro V34_0 (And.intro V34_1 (And.intro V34_2 (And.intro V34_3 V34_4)))
    have t43 := gc_TK_mo KTK_I36
    clear V34_0 V34_1 V34_2 V34_3 V34_4
    refine gv_callV hD rfl (As := []) (st := []) rfl B_23 S_23 rfl (gc_lV6 hws rfl) (Nat.le_of_ble_eq_true rfl) (gz_Ev_mono (d := 2) (by decide) E34) ?_
    show gv_X _ _ (24, [(0, .inr (.inr (some 39)))], [], sh, gc_h sh I36 J37 A)
    refine gv_run 2 true hD (pc' := 26) (lv' := [(0, .inr (.inr (some 39)))]) (st' := [.inl 1, .inr (.inr (some 39))]) (h' := gc_h sh I36 J37 A) (C := ((True ∧ True) ∧ True)) rfl ⟨⟨trivial, trivial⟩, trivial⟩ ?_
    obtain ⟨r44, h44, E44, P44⟩ := d_X6_need (ws0 := ws0) (tb := tb) hws htb sh ro I36 J37 A hI36  1 hb   ⟨by omega, by omega⟩  
    obtain ⟨I45, J46, rfl, hI45, g44, k44, ⟨z44, rfl, q44⟩⟩ := P44
    have FI45 := gc_frc (W := fun q j => (q = 39 ∧ j = 3) ∨ (q = 39 ∧ j = 4) ∨ (q = 23 ∧ j = 5) ∨ (q = 23 ∧ j = 6) ∨ (q = 23 ∧ j = 7) ∨ (q = 23 ∧ j = 8) ∨ (q = 39 ∧ j = 6)) (V := fun q j => (q = 39 ∧ j = 3) ∨ (q = 39 ∧ j = 4)) FI36 (fun q j h => (h.elim (fun h => (Or.inl h)) (fun h => (Or.inr (Or.inl h))))) g44
    have t47 := (g44 23 1).resolve_left (fun h => h.elim (fun h => absurd h.2 (by decide)) (fun h => absurd h.2 (by decide)))
    have t48 := (g44 23 5).resolve_left (fun h => h.elim (fun h => absurd h.2 (by decide)) (fun h => absurd h.2 (by decide)))
    have t49 := (g44 23 6).resolve_left (fun h => h.elim (fun h => absurd h.2 (by decide)) (fun h => absurd h.2 (by decide)))
    have t50 := (g44 23 7).resolve_left (fun h => h.elim (fun h => absurd h.2 (by decide)) (fun h => absurd h.2 (by decide)))
    have t51 := (g44 39 2).resolve_left (fun h => h.elim (fun h => absurd h.2 (by decide)) (fun h => absurd h.2 (by decide)))
    obtain rfl : J37 = J46 := funext fun q => funext fun j => ((k44 q j).resolve_left id).symm
    have KLT_I45 := gc_LT_fr KLT_I36 ((g44 23 5).resolve_left (fun h => h.elim (fun h => absurd h.2 (by decide)) (fun h => absurd h.2 (by decide)))) ((g44 23 6).resolve_left (fun h => h.elim (fun h => absurd h.2 (by decide)) (fun h => absurd h.2 (by decide)))) ((g44 23 7).resolve_left (fun h => h.elim (fun h => absurd h.2 (by decide)) (fun h => absurd h.2 (by decide)))) (fun k => (g44 24 k).resolve_left (fun h => h.elim (fun h => absurd h.1 (by decide)) (fun h => absurd h.1 (by decide))))
    have KTK_I45 := gc_TK_fr KTK_I36 ((g44 23 1).resolve_left (fun h => h.elim (fun h => absurd h.2 (by decide)) (fun h => absurd h.2 (by decide)))) ((g44 23 5).resolve_left (fun h => h.elim (fun h => absurd h.2 (by decide)) (fun h => absurd h.2 (by decide)))) ((g44 23 6).resolve_left (fun h => h.elim (fun h => absurd h.2 (by decide)) (fun h => absurd h.2 (by decide)))) ((g44 23 7).resolve_left (fun h => h.elim (fun h => absurd h.2 (by decide)) (fun h => absurd h.2 (by decide))))
    refine gv_callV hD rfl (As := [.inl 1]) (st := []) rfl B_39 S_39 rfl (gc_lV6 hws rfl) (Nat.le_of_ble_eq_true rfl) (gz_Ev_mono (d := 2) (by decide) E44) ?_
    show gv_X _ _ (29, [(0, .inr (.inr (some 39)))], [.inl z44], sh, gc_h sh I45 J37 A)
    refine gv_if_eq (t := 44) hD rfl rfl ⟨by omega, by omega⟩ (fun c52 => ?_) (fun c52 => ?_)
    · show gv_X _ _ (44, [(0, .inr (.inr (some 39)))], [], sh, gc_h sh I45 J37 A)
      refine gv_pick [] rfl ?_
      exact L44 I45 J37 hI45 FI45 FJ37 KLT_I45 KTK_I45 (by omega)
    · show gv_X _ _ (32, [(0, .inr (.inr (some 39)))], [], sh, gc_h sh I45 J37 A)
      refine gv_run 2 true hD (pc' := 34) (lv' := [(0, .inr (.inr (some 39)))]) (st' := [.inl 1, .inr (.inr (some 39))]) (h' := gc_h sh I45 J37 A) (C := ((True ∧ True) ∧ True)) rfl ⟨⟨trivial, trivial⟩, trivial⟩ ?_
      obtain ⟨r53, h53, E53, P53⟩ := d_X6_readValues (ws0 := ws0) (tb := tb) hws htb sh ro I45 J37 A hI45  t 1 hb  h_t G_t  ⟨by omega, by omega⟩ (by omega) KLT_I45 KTK_I45
      obtain ⟨I54, J55, rfl, hI54, g53, k53, KLT_I54, KTK_I54, ⟨z53, rfl, q53⟩⟩ := P53
      have FI54 := gc_frc (W := fun q j => (q = 39 ∧ j = 3) ∨ (q = 39 ∧ j = 4) ∨ (q = 23 ∧ j = 5) ∨ (q = 23 ∧ j = 6) ∨ (q = 23 ∧ j = 7) ∨ (q = 23 ∧ j = 8) ∨ (q = 39 ∧ j = 6)) (V := fun q j => (q = 39 ∧ j = 3) ∨ (q = 39 ∧ j = 4) ∨ (q = 23 ∧ j = 5) ∨ (q = 23 ∧ j = 6) ∨ (q = 23 ∧ j = 7) ∨ (q = 23 ∧ j = 8) ∨ (q = 39 ∧ j = 6)) FI45 (fun q j h => (h.elim (fun h => (Or.inl h)) (fun h => (h.elim (fun h => (Or.inr (Or.inl h))) (fun h => (h.elim (fun h => (Or.inr (Or.inr (Or.inl h)))) (fun h => (h.elim (fun h => (Or.inr (Or.inr (Or.inr (Or.inl h))))) (fun h => (h.elim (fun h => (Or.inr (Or.inr (Or.inr (Or.inr (Or.inl h)))))) (fun h => (h.elim (fun h => (Or.inr (Or.inr (Or.inr (Or.inr (Or.inr (Or.inl h))))))) (fun h => (Or.inr (Or.inr (Or.inr (Or.inr (Or.inr (Or.inr h))))))))))))))))))) g53
      have FJ55 := gc_frc (W := fun q j => (q = 23 ∧ j = 9)) (V := fun q j => (q = 23 ∧ j = 9)) FJ37 (fun q j h => h) k53
      have t56 := (g53 23 1).resolve_left (fun h => h.elim (fun h => absurd h.2 (by decide)) (fun h => h.elim (fun h => absurd h.2 (by decide)) (fun h => h.elim (fun h => absurd h.2 (by decide)) (fun h => h.elim (fun h => absurd h.2 (by decide)) (fun h => h.elim (fun h => absurd h.2 (by decide)) (fun h => h.elim (fun h => absurd h.2 (by decide)) (fun h => absurd h.2 (by decide))))))))
      have t57 := (g53 39 2).resolve_left (fun h => h.elim (fun h => absurd h.2 (by decide)) (fun h => h.elim (fun h => absurd h.2 (by decide)) (fun h => h.elim (fun h => absurd h.2 (by decide)) (fun h => h.elim (fun h => absurd h.2 (by decide)) (fun h => h.elim (fun h => absurd h.2 (by decide)) (fun h => h.elim (fun h => absurd h.2 (by decide)) (fun h => absurd h.2 (by decide))))))))
      have f58 := (show 0 ≤ I54 23 5 ∧ I54 23 5 ≤ 1000 from gc_in hI54 R_23 rfl rfl)
      have f59 := (show 0 ≤ I54 23 6 ∧ I54 23 6 ≤ 1001 from gc_in hI54 R_23 rfl rfl)
      have f60 := (show 0 ≤ I54 23 7 ∧ I54 23 7 ≤ 125 from gc_in hI54 R_23 rfl rfl)
      have t61 := gc_TK_mo KTK_I54
      refine gv_callV hD rfl (As := [.inl 1]) (st := []) rfl B_39 S_39 rfl (gc_lV6 hws rfl) (Nat.le_of_ble_eq_true rfl) (gz_Ev_mono (d := 3) (by decide) E53) ?_
      show gv_X _ _ (37, [(0, .inr (.inr (some 39)))], [.inl z53], sh, gc_h sh I54 J55 A)
      refine gv_if_eq (t := 44) hD rfl rfl ⟨by omega, by omega⟩ (fun c62 => ?_) (fun c62 => ?_)
      · show gv_X _ _ (44, [(0, .inr (.inr (some 39)))], [], sh, gc_h sh I54 J55 A)
        refine gv_pick [] rfl ?_
        exact L44 I54 J55 hI54 FI54 FJ55 KLT_I54 KTK_I54 (by omega)
      · show gv_X _ _ (40, [(0, .inr (.inr (some 39)))], [], sh, gc_h sh I54 J55 A)
        refine gv_run 2 true hD (pc' := 45) (lv' := [(0, .inr (.inr (some 39)))]) (st' := [.inl 1]) (h' := gc_h sh I54 J55 A) (C := ((True ∧ True) ∧ True)) rfl ⟨⟨trivial, trivial⟩, trivial⟩ ?_
        refine gv_pick [] rfl ?_
        exact L45 I54 J55 1 hI54 FI54 FJ55 KLT_I54 KTK_I54 (by omega)
  · show gv_X _ _ (15, [(0, .inr (.inr (some 39)))], [], sh, gc_h sh I25 J A)
    refine gv_run 1 true hD (pc' := 16) (lv' := [(0, .inr (.inr (some 39)))]) (st' := [.inl 1]) (h' := gc_h sh I25 J A) (C := (True ∧ True)) rfl ⟨trivial, trivial⟩ ?_
    exact gv_zret hD rfl (by omega) ⟨I25, J, rfl, hI25, FI25, FJ, KLT_I25, KTK_I25, ⟨_, rfl, by omega⟩⟩
set_option maxHeartbeats 4000000 in
set_option maxRecDepth 100000 in
theorem d_X6_readWord {ws0 : List Cond} {tb : String → gz_T} (hws : gc_Ws ws0) (htb : gc_tbs tb) (sh : gz_Sh) (ro : Nat → Nat) (I : gr_I) (J : gr_J) (A : gc_A) (hI : gc_Inv ro I) (t : Nat) (B : Int)  (hb : gc_Base sh ro A) (h_t : gc_isTongue sh ro A t) (G_t : 144 ≤ t)  (x0 : B ≤ 1280 ∧ I 1 17 + I 23 1 ≤ B + I 23 5) (x1 : I 39 2 = (t : Int)) (KLT_I : gc_LT I) (KTK_I : gc_TK I) : ∃ r h', gz_Ev ws0 tb 5 (yX6_readWord, cX6_readWord, 2, (some .boolean)) [.inr (.inr (some 39))] sh (gc_h sh I J A) r sh h' 0 0 ∧ (∃ (I' : gr_I) (J' : gr_J), h' = gc_h sh I' J' A ∧ gc_Inv ro I' ∧ (∀ q j : Nat, ((q = 39 ∧ j = 3) ∨ (q = 39 ∧ j = 4) ∨ (q = 23 ∧ j = 5) ∨ (q = 23 ∧ j = 6) ∨ (q = 23 ∧ j = 7) ∨ (q = 23 ∧ j = 8) ∨ (q = 1 ∧ j = 17) ∨ (q = 1 ∧ j = 18) ∨ q = 20 ∨ (q = 39 ∧ j = 6) ∨ (q = 39 ∧ j = 7) ∨ q = 41 ∨ q = (t + 15) ∨ (q = t ∧ j = 11)) ∨ I' q j = I q j) ∧ (∀ q j : Nat, ((q = 23 ∧ j = 9)) ∨ J' q j = J q j) ∧ gc_LT I' ∧ gc_TK I' ∧ (∃ z : Int, r = some (.inl z) ∧ 0 ≤ z ∧ z ≤ 1 ∧ (I' 23 1 = I 23 1) ∧ (I 23 5 ≤ I' 23 5) ∧ (B ≤ 1280 ∧ I' 1 17 + I' 23 1 ≤ B + I' 23 5))) := by
  have FI : ∀ q j : Nat, ((q = 39 ∧ j = 3) ∨ (q = 39 ∧ j = 4) ∨ (q = 23 ∧ j = 5) ∨ (q = 23 ∧ j = 6) ∨ (q = 23 ∧ j = 7) ∨ (q = 23 ∧ j = 8) ∨ (q = 1 ∧ j = 17) ∨ (q = 1 ∧ j = 18) ∨ q = 20 ∨ (q = 39 ∧ j = 6) ∨ (q = 39 ∧ j = 7) ∨ q = 41 ∨ q = (t + 15) ∨ (q = t ∧ j = 11)) ∨ I q j = I q j := fun _ _ => Or.inr rfl
  have FJ : ∀ q j : Nat, ((q = 23 ∧ j = 9)) ∨ J q j = J q j := fun _ _ => Or.inr rfl
  have A_1_1 : A 1 1 = some 4 := gc_bA hb rfl
  have A_1_7 : A 1 7 = some 12 := gc_bA hb rfl
  have A_39_0 : A 39 0 = some 1 := gc_bA hb rfl
  have A_39_1 : A 39 1 = some 23 := gc_bA hb rfl
  have A_39_10 : A 39 10 = some 41 := gc_bA hb rfl
  have B_1 : 1 < 1000000 := by decide
  have B_12 : 12 < 1000000 := by decide
  have B_23 : 23 < 1000000 := by decide
  have B_39 : 39 < 1000000 := by decide
  have B_4 : 4 < 1000000 := by decide
  have B_41 : 41 < 1000000 := by decide
  have R_1 : ro 1 = 22 := gc_bR hb (by decide) rfl
  have R_12 : ro 12 = 26 := gc_bR hb (by decide) rfl
  have R_23 : ro 23 = 3 := gc_bR hb (by decide) rfl
  have R_39 : ro 39 = 42 := gc_bR hb (by decide) rfl
  have R_4 : ro 4 = 11 := gc_bR hb (by decide) rfl
  have R_41 : ro 41 = 0 := gc_bR hb (by decide) rfl
  have S_1 : sh[1]? = some (false, 8, 21) := gc_bS hb rfl
  have S_12 : sh[12]? = some (true, 1, 96) := gc_bS hb rfl
  have S_23 : sh[23]? = some (false, 9, 10) := gc_bS hb rfl
  have S_39 : sh[39]? = some (false, 6, 19) := gc_bS hb rfl
  have S_4 : sh[4]? = some (false, 4, 2) := gc_bS hb rfl
  have S_41 : sh[41]? = some (true, 1, 25) := gc_bS hb rfl
  obtain ⟨S_t, R_t, B_t, A_t_0, h_t_1, A_t_1, h_t_3, A_t_2, S_t_5, R_t_5, B_t_5, A_t_3, S_t_6, R_t_6, B_t_6, A_t_4, h_t_7, A_t_5, S_t_9, R_t_9, B_t_9, A_t_7, S_t_10, R_t_10, B_t_10, A_t_8, h_t_11, A_t_9, S_t_13, R_t_13, B_t_13, A_t_10, S_t_14, R_t_14, B_t_14, A_t_12, S_t_15, R_t_15, B_t_15, A_t_14, S_t_16, R_t_16, B_t_16, A_t_15, h_t_17⟩ := id h_t
  obtain ⟨S_t_1, R_t_1, B_t_1, A_t_1_0, S_t_1_1, R_t_1_1, B_t_1_1, Q0_t_1, Q1_t_1, Q2_t_1⟩ := id h_t_1
  obtain ⟨S_t_3, R_t_3, B_t_3, A_t_3_0, S_t_3_1, R_t_3_1, B_t_3_1, Q0_t_3, Q1_t_3, Q2_t_3⟩ := id h_t_3
  obtain ⟨S_t_7, R_t_7, B_t_7, A_t_7_0, S_t_7_1, R_t_7_1, B_t_7_1, Q0_t_7, Q1_t_7, Q2_t_7⟩ := id h_t_7
  obtain ⟨S_t_11, R_t_11, B_t_11, A_t_11_0, S_t_11_1, R_t_11_1, B_t_11_1, Q0_t_11, Q1_t_11, Q2_t_11⟩ := id h_t_11
  obtain ⟨S_t_17, R_t_17, B_t_17, A_t_17_0, S_20, R_20, B_20, A_t_17_1, S_t_17_1, R_t_17_1, B_t_17_1, A_t_17_2, S_t_17_2, R_t_17_2, B_t_17_2, A_t_17_3, S_t_17_3, R_t_17_3, B_t_17_3, A_t_17_4, S_t_17_4, R_t_17_4, B_t_17_4, A_t_17_5, S_t_17_5, R_t_17_5, B_t_17_5, S_t_17_6, R_t_17_6, B_t_17_6, S_t_17_7, R_t_17_7, B_t_17_7⟩ := id h_t_17
  have hD : gv_D (gc_E6 ws0 tb 4 (yX6_readWord, cX6_readWord, 2, (some .boolean)) kX6_readWord) := gq_ok oX6_readWord
  refine gc_ev6 (d := 4) (l := kX6_readWord) (Po := fun r h' => (∃ (I' : gr_I) (J' : gr_J), h' = gc_h sh I' J' A ∧ gc_Inv ro I' ∧ (∀ q j : Nat, ((q = 39 ∧ j = 3) ∨ (q = 39 ∧ j = 4) ∨ (q = 23 ∧ j = 5) ∨ (q = 23 ∧ j = 6) ∨ (q = 23 ∧ j = 7) ∨ (q = 23 ∧ j = 8) ∨ (q = 1 ∧ j = 17) ∨ (q = 1 ∧ j = 18) ∨ q = 20 ∨ (q = 39 ∧ j = 6) ∨ (q = 39 ∧ j = 7) ∨ q = 41 ∨ q = (t + 15) ∨ (q = t ∧ j = 11)) ∨ I' q j = I q j) ∧ (∀ q j : Nat, ((q = 23 ∧ j = 9)) ∨ J' q j = J q j) ∧ gc_LT I' ∧ gc_TK I' ∧ (∃ z : Int, r = some (.inl z) ∧ 0 ≤ z ∧ z ≤ 1 ∧ (I' 23 1 = I 23 1) ∧ (I 23 5 ≤ I' 23 5) ∧ (B ≤ 1280 ∧ I' 1 17 + I' 23 1 ≤ B + I' 23 5)))) htb rfl (Nat.le_of_ble_eq_true rfl) ?_
  have N_23__t_15 : ¬ (23 = (t + 15)) := by omega
  have N_24__t_15 : ¬ (24 = (t + 15)) := by omega
  have N_41__t_15 : ¬ (41 = (t + 15)) := by omega
  have N_1__t_15 : ¬ (1 = (t + 15)) := by omega
  have N_4__t_15 : ¬ (4 = (t + 15)) := by omega
  have N_t_11__t_15 : ¬ ((t + 11) = (t + 15)) := by omega
  have N_t__t_15 : ¬ (t = (t + 15)) := by omega
  have N_39__t_15 : ¬ (39 = (t + 15)) := by omega
  have N_24__t : ¬ (24 = t) := by omega
  have N_41__t : ¬ (41 = t) := by omega
  have N_t_11__41 : ¬ ((t + 11) = 41) := by omega
  have N_t__41 : ¬ (t = 41) := by omega
  have N_t_11__20 : ¬ ((t + 11) = 20) := by omega
  have N_t__20 : ¬ (t = 20) := by omega
  have t1 := gc_TK_mo KTK_I
  have f2 := (show 0 ≤ I 23 1 ∧ I 23 1 ≤ 1000 from gc_in hI R_23 rfl rfl)
  have f3 := (show 0 ≤ I 23 5 ∧ I 23 5 ≤ 1000 from gc_in hI R_23 rfl rfl)
  have f4 := (show 0 ≤ I 23 6 ∧ I 23 6 ≤ 1001 from gc_in hI R_23 rfl rfl)
  have f5 := (show 0 ≤ I 23 7 ∧ I 23 7 ≤ 125 from gc_in hI R_23 rfl rfl)
  have f6 := (show 0 ≤ I 1 17 ∧ I 1 17 ≤ 12000 from gc_in hI R_1 rfl rfl)
  have f7 := (show 0 ≤ I 4 1 ∧ I 4 1 ≤ 96 from gc_in hI R_4 rfl rfl)
  have f8 := (show 0 ≤ I (t + 11) 1 ∧ I (t + 11) 1 ≤ 24 from gc_in hI R_t_11 rfl rfl)
  have f9 := (show 0 ≤ I t 11 ∧ I t 11 ≤ 64 from gc_in hI R_t rfl rfl)
  have f10 := (show (-1) ≤ I 39 2 ∧ I 39 2 ≤ 999999 from gc_in hI R_39 rfl rfl)
  have L156 : ∀ (I11 : gr_I) (J12 : gr_J) , gc_Inv ro I11 → (∀ q j : Nat, ((q = 39 ∧ j = 3) ∨ (q = 39 ∧ j = 4) ∨ (q = 23 ∧ j = 5) ∨ (q = 23 ∧ j = 6) ∨ (q = 23 ∧ j = 7) ∨ (q = 23 ∧ j = 8) ∨ (q = 1 ∧ j = 17) ∨ (q = 1 ∧ j = 18) ∨ q = 20 ∨ (q = 39 ∧ j = 6) ∨ (q = 39 ∧ j = 7) ∨ q = 41 ∨ q = (t + 15) ∨ (q = t ∧ j = 11)) ∨ I11 q j = I q j) → (∀ q j : Nat, ((q = 23 ∧ j = 9)) ∨ J12 q j = J q j) → gc_LT I11 → gc_TK I11 → ((I11 23 1 = I 23 1) ∧ (I 23 5 ≤ I11 23 5) ∧ (B ≤ 1280 ∧ I11 1 17 + I11 23 1 ≤ B + I11 23 5) ∧ (I11 39 2 = (t : Int))) → gv_X (gc_E6 ws0 tb 4 (yX6_readWord, cX6_readWord, 2, (some .boolean)) kX6_readWord) (gv_Q cX6_readWord (some .boolean) sh (fun r h' => (∃ (I' : gr_I) (J' : gr_J), h' = gc_h sh I' J' A ∧ gc_Inv ro I' ∧ (∀ q j : Nat, ((q = 39 ∧ j = 3) ∨ (q = 39 ∧ j = 4) ∨ (q = 23 ∧ j = 5) ∨ (q = 23 ∧ j = 6) ∨ (q = 23 ∧ j = 7) ∨ (q = 23 ∧ j = 8) ∨ (q = 1 ∧ j = 17) ∨ (q = 1 ∧ j = 18) ∨ q = 20 ∨ (q = 39 ∧ j = 6) ∨ (q = 39 ∧ j = 7) ∨ q = 41 ∨ q = (t + 15) ∨ (q = t ∧ j = 11)) ∨ I' q j = I q j) ∧ (∀ q j : Nat, ((q = 23 ∧ j = 9)) ∨ J' q j = J q j) ∧ gc_LT I' ∧ gc_TK I' ∧ (∃ z : Int, r = some (.inl z) ∧ 0 ≤ z ∧ z ≤ 1 ∧ (I' 23 1 = I 23 1) ∧ (I 23 5 ≤ I' 23 5) ∧ (B ≤ 1280 ∧ I' 1 17 + I' 23 1 ≤ B + I' 23 5))))) (156, [], [], sh, gc_h sh I11 J12 A) := by
    intro I11 J12 hI11 FI11 FJ12 KLT_I11 KTK_I11 m_13
    obtain ⟨e0_13, e1_13, e2_13, e3_13⟩ := m_13
    have t14 := gc_TK_mo KTK_I11
    have f15 := (show 0 ≤ I11 23 1 ∧ I11 23 1 ≤ 1000 from gc_in hI11 R_23 rfl rfl)
    have f16 := (show 0 ≤ I11 23 5 ∧ I11 23 5 ≤ 1000 from gc_in hI11 R_23 rfl rfl)
    have f17 := (show 0 ≤ I11 23 6 ∧ I11 23 6 ≤ 1001 from gc_in hI11 R_23 rfl rfl)
    have f18 := (show 0 ≤ I11 23 7 ∧ I11 23 7 ≤ 125 from gc_in hI11 R_23 rfl rfl)
    have f19 := (show 0 ≤ I11 1 17 ∧ I11 1 17 ≤ 12000 from gc_in hI11 R_1 rfl rfl)
    have f20 := (show 0 ≤ I11 4 1 ∧ I11 4 1 ≤ 96 from gc_in hI11 R_4 rfl rfl)
    have f21 := (show 0 ≤ I11 (t + 11) 1 ∧ I11 (t + 11) 1 ≤ 24 from gc_in hI11 R_t_11 rfl rfl)
    have f22 := (show 0 ≤ I11 t 11 ∧ I11 t 11 ≤ 64 from gc_in hI11 R_t rfl rfl)
    have f23 := (show (-1) ≤ I11 39 2 ∧ I11 39 2 ≤ 999999 from gc_in hI11 R_39 rfl rfl)
    refine gv_run 1 true hD (pc' := 157) (lv' := []) (st' := [.inl 0]) (h' := gc_h sh I11 J12 A) (C := (True ∧ True)) rfl ⟨trivial, trivial⟩ ?_
    exact gv_zret hD rfl (by omega) ⟨I11, J12, rfl, hI11, FI11, FJ12, KLT_I11, KTK_I11, ⟨_, rfl, by omega⟩⟩
  have L196 : ∀ (I24 : gr_I) (J25 : gr_J) (s1_26 : Int), gc_Inv ro I24 → (∀ q j : Nat, ((q = 39 ∧ j = 3) ∨ (q = 39 ∧ j = 4) ∨ (q = 23 ∧ j = 5) ∨ (q = 23 ∧ j = 6) ∨ (q = 23 ∧ j = 7) ∨ (q = 23 ∧ j = 8) ∨ (q = 1 ∧ j = 17) ∨ (q = 1 ∧ j = 18) ∨ q = 20 ∨ (q = 39 ∧ j = 6) ∨ (q = 39 ∧ j = 7) ∨ q = 41 ∨ q = (t + 15) ∨ (q = t ∧ j = 11)) ∨ I24 q j = I q j) → (∀ q j : Nat, ((q = 23 ∧ j = 9)) ∨ J25 q j = J q j) → gc_LT I24 → gc_TK I24 → gc_row 41 11 gc_fW I24 → ((0 ≤ s1_26 ∧ s1_26 ≤ 1) ∧ (s1_26 = 1 ∨ I24 t 11 < 64) ∧ (I24 23 1 = I 23 1) ∧ (I 23 5 ≤ I24 23 5) ∧ (B ≤ 1280 ∧ I24 1 17 + I24 23 1 ≤ B + I24 23 5) ∧ (I24 39 2 = (t : Int))) → gv_X (gc_E6 ws0 tb 4 (yX6_readWord, cX6_readWord, 2, (some .boolean)) kX6_readWord) (gv_Q cX6_readWord (some .boolean) sh (fun r h' => (∃ (I' : gr_I) (J' : gr_J), h' = gc_h sh I' J' A ∧ gc_Inv ro I' ∧ (∀ q j : Nat, ((q = 39 ∧ j = 3) ∨ (q = 39 ∧ j = 4) ∨ (q = 23 ∧ j = 5) ∨ (q = 23 ∧ j = 6) ∨ (q = 23 ∧ j = 7) ∨ (q = 23 ∧ j = 8) ∨ (q = 1 ∧ j = 17) ∨ (q = 1 ∧ j = 18) ∨ q = 20 ∨ (q = 39 ∧ j = 6) ∨ (q = 39 ∧ j = 7) ∨ q = 41 ∨ q = (t + 15) ∨ (q = t ∧ j = 11)) ∨ I' q j = I q j) ∧ (∀ q j : Nat, ((q = 23 ∧ j = 9)) ∨ J' q j = J q j) ∧ gc_LT I' ∧ gc_TK I' ∧ (∃ z : Int, r = some (.inl z) ∧ 0 ≤ z ∧ z ≤ 1 ∧ (I' 23 1 = I 23 1) ∧ (I 23 5 ≤ I' 23 5) ∧ (B ≤ 1280 ∧ I' 1 17 + I' 23 1 ≤ B + I' 23 5))))) (196, [(0, .inr (.inr (some 39)))], [.inl s1_26, .inr (.inr (some 39))], sh, gc_h sh I24 J25 A) := by
    intro I24 J25 s1_26 hI24 FI24 FJ25 KLT_I24 KTK_I24 KRW_I24 m_26
    obtain ⟨hs1_26, e0_26, e1_26, e2_26, e3_26, e4_26⟩ := m_26
    have t27 := gc_TK_mo KTK_I24
    have f28 := (show 0 ≤ I24 23 1 ∧ I24 23 1 ≤ 1000 from gc_in hI24 R_23 rfl rfl)
    have f29 := (show 0 ≤ I24 23 5 ∧ I24 23 5 ≤ 1000 from gc_in hI24 R_23 rfl rfl)
    have f30 := (show 0 ≤ I24 23 6 ∧ I24 23 6 ≤ 1001 from gc_in hI24 R_23 rfl rfl)
    have f31 := (show 0 ≤ I24 23 7 ∧ I24 23 7 ≤ 125 from gc_in hI24 R_23 rfl rfl)
    have f32 := (show 0 ≤ I24 1 17 ∧ I24 1 17 ≤ 12000 from gc_in hI24 R_1 rfl rfl)
    have f33 := (show 0 ≤ I24 4 1 ∧ I24 4 1 ≤ 96 from gc_in hI24 R_4 rfl rfl)
    have f34 := (show 0 ≤ I24 (t + 11) 1 ∧ I24 (t + 11) 1 ≤ 24 from gc_in hI24 R_t_11 rfl rfl)
    have f35 := (show 0 ≤ I24 t 11 ∧ I24 t 11 ≤ 64 from gc_in hI24 R_t rfl rfl)
    have f36 := (show (-1) ≤ I24 39 2 ∧ I24 39 2 ≤ 999999 from gc_in hI24 R_39 rfl rfl)
    obtain ⟨r37, h37, E37, P37⟩ := d_X6_closes (ws0 := ws0) (tb := tb) hws htb sh ro I24 J25 A hI24  s1_26 hb   ⟨by omega, by omega⟩  KLT_I24 KTK_I24
    obtain ⟨I38, J39, rfl, hI38, g37, k37, KLT_I38, KTK_I38, ⟨z37, rfl, q37⟩⟩ := P37
    have FI38 := gc_frc (W := fun q j => (q = 39 ∧ j = 3) ∨ (q = 39 ∧ j = 4) ∨ (q = 23 ∧ j = 5) ∨ (q = 23 ∧ j = 6) ∨ (q = 23 ∧ j = 7) ∨ (q = 23 ∧ j = 8) ∨ (q = 1 ∧ j = 17) ∨ (q = 1 ∧ j = 18) ∨ q = 20 ∨ (q = 39 ∧ j = 6) ∨ (q = 39 ∧ j = 7) ∨ q = 41 ∨ q = (t + 15) ∨ (q = t ∧ j = 11)) (V := fun q j => (q = 39 ∧ j = 3) ∨ (q = 39 ∧ j = 4) ∨ (q = 23 ∧ j = 5) ∨ (q = 23 ∧ j = 6) ∨ (q = 23 ∧ j = 7) ∨ (q = 23 ∧ j = 8)) FI24 (fun q j h => (h.elim (fun h => (Or.inl h)) (fun h => (h.elim (fun h => (Or.inr (Or.inl h))) (fun h => (h.elim (fun h => (Or.inr (Or.inr (Or.inl h)))) (fun h => (h.elim (fun h => (Or.inr (Or.inr (Or.inr (Or.inl h))))) (fun h => (h.elim (fun h => (Or.inr (Or.inr (Or.inr (Or.inr (Or.inl h)))))) (fun h => (Or.inr (Or.inr (Or.inr (Or.inr (Or.inr (Or.inl h))))))))))))))))) g37
    have FJ39 := gc_frc (W := fun q j => (q = 23 ∧ j = 9)) (V := fun q j => (q = 23 ∧ j = 9)) FJ25 (fun q j h => h) k37
    have t40 := (g37 23 1).resolve_left (fun h => h.elim (fun h => absurd h.2 (by decide)) (fun h => h.elim (fun h => absurd h.2 (by decide)) (fun h => h.elim (fun h => absurd h.2 (by decide)) (fun h => h.elim (fun h => absurd h.2 (by decide)) (fun h => h.elim (fun h => absurd h.2 (by decide)) (fun h => absurd h.2 (by decide)))))))
    have t41 := (g37 1 17).resolve_left (fun h => h.elim (fun h => absurd h.2 (by decide)) (fun h => h.elim (fun h => absurd h.2 (by decide)) (fun h => h.elim (fun h => absurd h.2 (by decide)) (fun h => h.elim (fun h => absurd h.2 (by decide)) (fun h => h.elim (fun h => absurd h.2 (by decide)) (fun h => absurd h.2 (by decide)))))))
    have t42 := (g37 4 1).resolve_left (fun h => h.elim (fun h => absurd h.2 (by decide)) (fun h => h.elim (fun h => absurd h.2 (by decide)) (fun h => h.elim (fun h => absurd h.2 (by decide)) (fun h => h.elim (fun h => absurd h.2 (by decide)) (fun h => h.elim (fun h => absurd h.2 (by decide)) (fun h => absurd h.2 (by decide)))))))
    have t43 := (g37 (t + 11) 1).resolve_left (fun h => h.elim (fun h => absurd h.2 (by decide)) (fun h => h.elim (fun h => absurd h.2 (by decide)) (fun h => h.elim (fun h => absurd h.2 (by decide)) (fun h => h.elim (fun h => absurd h.2 (by decide)) (fun h => h.elim (fun h => absurd h.2 (by decide)) (fun h => absurd h.2 (by decide)))))))
    have t44 := (g37 t 11).resolve_left (fun h => h.elim (fun h => absurd h.2 (by decide)) (fun h => h.elim (fun h => absurd h.2 (by decide)) (fun h => h.elim (fun h => absurd h.2 (by decide)) (fun h => h.elim (fun h => absurd h.2 (by decide)) (fun h => h.elim (fun h => absurd h.2 (by decide)) (fun h => absurd h.2 (by decide)))))))
    have t45 := (g37 39 2).resolve_left (fun h => h.elim (fun h => absurd h.2 (by decide)) (fun h => h.elim (fun h => absurd h.2 (by decide)) (fun h => h.elim (fun h => absurd h.2 (by decide)) (fun h => h.elim (fun h => absurd h.2 (by decide)) (fun h => h.elim (fun h => absurd h.2 (by decide)) (fun h => absurd h.2 (by decide)))))))
    have f46 := (show 0 ≤ I38 23 5 ∧ I38 23 5 ≤ 1000 from gc_in hI38 R_23 rfl rfl)
    have f47 := (show 0 ≤ I38 23 6 ∧ I38 23 6 ≤ 1001 from gc_in hI38 R_23 rfl rfl)
    have f48 := (show 0 ≤ I38 23 7 ∧ I38 23 7 ≤ 125 from gc_in hI38 R_23 rfl rfl)
    have t49 := gc_TK_mo KTK_I38
    have KRW_I38 := gc_row_fr KRW_I24 (fun k => (g37 41 k).resolve_left (fun h => h.elim (fun h => absurd h.1 (by decide)) (fun h => h.elim (fun h => absurd h.1 (by decide)) (fun h => h.elim (fun h => absurd h.1 (by decide)) (fun h => h.elim (fun h => absurd h.1 (by decide)) (fun h => h.elim (fun h => absurd h.1 (by decide)) (fun h => absurd h.1 (by decide))))))))
    refine gv_callV hD rfl (As := [.inl s1_26]) (st := []) rfl B_39 S_39 rfl (gc_lV6 hws rfl) (Nat.le_of_ble_eq_true rfl) (gz_Ev_mono (d := 4) (by decide) E37) ?_
    show gv_X _ _ (199, [(0, .inr (.inr (some 39)))], [.inl z37], sh, gc_h sh I38 J39 A)
    refine gv_if_ne (t := 204) hD rfl rfl ⟨by omega, by omega⟩ (fun c50 => ?_) (fun c50 => ?_)
    · show gv_X _ _ (204, [(0, .inr (.inr (some 39)))], [], sh, gc_h sh I38 J39 A)
      refine gv_run 1 true hD (pc' := 205) (lv' := [(0, .inr (.inr (some 39)))]) (st' := [.inr (.inr (some 39))]) (h' := gc_h sh I38 J39 A) (C := (True ∧ True)) rfl ⟨trivial, trivial⟩ ?_
      refine gv_get hD rfl rfl S_39 ⟨by decide, B_39⟩ (gc_hA S_39 rfl A_39_10) ?_
      show gv_X _ _ (208, [(0, .inr (.inr (some 39)))], [.inr (.inr (some 41))], sh, gc_h sh I38 J39 A)
      refine gv_run 2 true hD (pc' := 210) (lv' := [(0, .inr (.inr (some 39)))]) (st' := [.inr (.inr (some 39)), .inl 0, .inr (.inr (some 41))]) (h' := gc_h sh I38 J39 A) (C := ((True ∧ True) ∧ True)) rfl ⟨⟨trivial, trivial⟩, trivial⟩ ?_
      refine gv_get hD rfl rfl S_39 ⟨by decide, B_39⟩ (gc_h5 (t := t) S_39 rfl (by omega)) ?_
      show gv_X _ _ (213, [(0, .inr (.inr (some 39)))], [.inr (.inr (some t)), .inl 0, .inr (.inr (some 41))], sh, gc_h sh I38 J39 A)
      refine gv_get hD rfl rfl S_t ⟨by decide, B_t⟩ (gc_hA S_t rfl A_t_12) ?_
      show gv_X _ _ (216, [(0, .inr (.inr (some 39)))], [.inr (.inr (some (t + 15))), .inl 0, .inr (.inr (some 41))], sh, gc_h sh I38 J39 A)
      refine gv_run 1 true hD (pc' := 217) (lv' := [(0, .inr (.inr (some 39)))]) (st' := [.inr (.inr (some 39)), .inr (.inr (some (t + 15))), .inl 0, .inr (.inr (some 41))]) (h' := gc_h sh I38 J39 A) (C := (True ∧ True)) rfl ⟨trivial, trivial⟩ ?_
      refine gv_get hD rfl rfl S_39 ⟨by decide, B_39⟩ (gc_h5 (t := t) S_39 rfl (by omega)) ?_
      show gv_X _ _ (220, [(0, .inr (.inr (some 39)))], [.inr (.inr (some t)), .inr (.inr (some (t + 15))), .inl 0, .inr (.inr (some 41))], sh, gc_h sh I38 J39 A)
      have f51 := (show 0 ≤ I38 t 11 ∧ I38 t 11 ≤ 64 from gc_in hI38 R_t rfl rfl)
      refine gv_get hD rfl rfl S_t ⟨by decide, B_t⟩ (gc_hI S_t rfl) ?_
      show gv_X _ _ (223, [(0, .inr (.inr (some 39)))], [.inl (I38 t 11), .inr (.inr (some (t + 15))), .inl 0, .inr (.inr (some 41))], sh, gc_h sh I38 J39 A)
      refine gv_run 3 true hD (pc' := 228) (lv' := [(0, .inr (.inr (some 39)))]) (st' := [.inl 11, .inl ((I38 t 11) * 11), .inr (.inr (some (t + 15))), .inl 0, .inr (.inr (some 41))]) (h' := gc_h sh I38 J39 A) (C := (((True ∧ True) ∧ True) ∧ True)) rfl ⟨⟨⟨trivial, trivial⟩, trivial⟩, trivial⟩ ?_
      refine gv_copy hD rfl (gc_lC6_263 hws) (Nat.le_of_ble_eq_true rfl) ⟨B_41, B_t_15⟩ S_41 S_t_15 (by decide) ⟨by decide, by decide⟩ ⟨by omega, by omega, by omega⟩ (by omega) (by omega) (fun h => absurd h (by decide)) ?_
      refine gc_cp hI38 S_41 S_t_15 (by decide) (fun j hj => gc_RW_cp KRW_I38 R_t_15 (by omega) (by decide) hj) (fun I53 hI53 p52 q52 => ?_)
      have FI53 := gc_frp (W := fun q j => (q = 39 ∧ j = 3) ∨ (q = 39 ∧ j = 4) ∨ (q = 23 ∧ j = 5) ∨ (q = 23 ∧ j = 6) ∨ (q = 23 ∧ j = 7) ∨ (q = 23 ∧ j = 8) ∨ (q = 1 ∧ j = 17) ∨ (q = 1 ∧ j = 18) ∨ q = 20 ∨ (q = 39 ∧ j = 6) ∨ (q = 39 ∧ j = 7) ∨ q = 41 ∨ q = (t + 15) ∨ (q = t ∧ j = 11)) (V := fun q j => q = (t + 15) ∧ Int.toNat (((I38 t 11) * 11)) ≤ j ∧ j < Int.toNat (((I38 t 11) * 11)) + Int.toNat 11) FI38 (fun q j h => (Or.inr (Or.inr (Or.inr (Or.inr (Or.inr (Or.inr (Or.inr (Or.inr (Or.inr (Or.inr (Or.inr (Or.inr (Or.inl h.1)))))))))))))) p52
      have KLT_I53 := gc_LT_fr KLT_I38 (p52 23 5 (fun h => absurd h.1 N_23__t_15)) (p52 23 6 (fun h => absurd h.1 N_23__t_15)) (p52 23 7 (fun h => absurd h.1 N_23__t_15)) (fun k => p52 24 k (fun h => absurd h.1 N_24__t_15))
      have KTK_I53 := gc_TK_fr KTK_I38 (p52 23 1 (fun h => absurd h.1 N_23__t_15)) (p52 23 5 (fun h => absurd h.1 N_23__t_15)) (p52 23 6 (fun h => absurd h.1 N_23__t_15)) (p52 23 7 (fun h => absurd h.1 N_23__t_15))
      have KRW_I53 := gc_row_fr KRW_I38 (fun k => p52 41 k (fun h => absurd h.1 N_41__t_15))
      have t55 := p52 23 1 (fun h => absurd h.1 N_23__t_15)
      have t56 := p52 23 5 (fun h => absurd h.1 N_23__t_15)
      have t57 := p52 23 6 (fun h => absurd h.1 N_23__t_15)
      have t58 := p52 23 7 (fun h => absurd h.1 N_23__t_15)
      have t59 := p52 1 17 (fun h => absurd h.1 N_1__t_15)
      have t60 := p52 4 1 (fun h => absurd h.1 N_4__t_15)
      have t61 := p52 (t + 11) 1 (fun h => absurd h.1 N_t_11__t_15)
      have t62 := p52 t 11 (fun h => absurd h.1 N_t__t_15)
      have t63 := p52 39 2 (fun h => absurd h.1 N_39__t_15)
      have t64 := gc_TK_mo KTK_I53
      have f65 := (show 0 ≤ I53 23 1 ∧ I53 23 1 ≤ 1000 from gc_in hI53 R_23 rfl rfl)
      have f66 := (show 0 ≤ I53 23 5 ∧ I53 23 5 ≤ 1000 from gc_in hI53 R_23 rfl rfl)
      have f67 := (show 0 ≤ I53 23 6 ∧ I53 23 6 ≤ 1001 from gc_in hI53 R_23 rfl rfl)
      have f68 := (show 0 ≤ I53 23 7 ∧ I53 23 7 ≤ 125 from gc_in hI53 R_23 rfl rfl)
      have f69 := (show 0 ≤ I53 1 17 ∧ I53 1 17 ≤ 12000 from gc_in hI53 R_1 rfl rfl)
      have f70 := (show 0 ≤ I53 4 1 ∧ I53 4 1 ≤ 96 from gc_in hI53 R_4 rfl rfl)
      have f71 := (show 0 ≤ I53 (t + 11) 1 ∧ I53 (t + 11) 1 ≤ 24 from gc_in hI53 R_t_11 rfl rfl)
      have f72 := (show 0 ≤ I53 t 11 ∧ I53 t 11 ≤ 64 from gc_in hI53 R_t rfl rfl)
      have f73 := (show (-1) ≤ I53 39 2 ∧ I53 39 2 ≤ 999999 from gc_in hI53 R_39 rfl rfl)
      show gv_X _ _ (231, [(0, .inr (.inr (some 39)))], [], sh, gc_h sh I53 J39 A)
      refine gv_run 1 true hD (pc' := 232) (lv' := [(0, .inr (.inr (some 39)))]) (st' := [.inr (.inr (some 39))]) (h' := gc_h sh I53 J39 A) (C := (True ∧ True)) rfl ⟨trivial, trivial⟩ ?_
      refine gv_get hD rfl rfl S_39 ⟨by decide, B_39⟩ (gc_h5 (t := t) S_39 rfl (by omega)) ?_
      show gv_X _ _ (235, [(0, .inr (.inr (some 39)))], [.inr (.inr (some t))], sh, gc_h sh I53 J39 A)
      refine gv_run 1 true hD (pc' := 236) (lv' := [(0, .inr (.inr (some 39)))]) (st' := [.inr (.inr (some t)), .inr (.inr (some t))]) (h' := gc_h sh I53 J39 A) (C := (True ∧ True)) rfl ⟨trivial, trivial⟩ ?_
      have f74 := (show 0 ≤ I53 t 11 ∧ I53 t 11 ≤ 64 from gc_in hI53 R_t rfl rfl)
      refine gv_get hD rfl rfl S_t ⟨by decide, B_t⟩ (gc_hI S_t rfl) ?_
      show gv_X _ _ (239, [(0, .inr (.inr (some 39)))], [.inl (I53 t 11), .inr (.inr (some t))], sh, gc_h sh I53 J39 A)
      refine gv_run 2 true hD (pc' := 241) (lv' := [(0, .inr (.inr (some 39)))]) (st' := [.inl ((I53 t 11) + 1), .inr (.inr (some t))]) (h' := gc_h sh I53 J39 A) (C := ((True ∧ True) ∧ True)) rfl ⟨⟨trivial, trivial⟩, trivial⟩ ?_
      refine gv_put hD rfl rfl S_t ⟨by decide, B_t⟩ rfl trivial ?_
      refine gc_st (k := 11) hI53 S_t rfl R_t (lo := 0) (hi := 64) rfl rfl (by omega) (by omega) (fun I75 hI75 q76 p76 => ?_)
      have FI75 := gc_frs (W := fun q j => (q = 39 ∧ j = 3) ∨ (q = 39 ∧ j = 4) ∨ (q = 23 ∧ j = 5) ∨ (q = 23 ∧ j = 6) ∨ (q = 23 ∧ j = 7) ∨ (q = 23 ∧ j = 8) ∨ (q = 1 ∧ j = 17) ∨ (q = 1 ∧ j = 18) ∨ q = 20 ∨ (q = 39 ∧ j = 6) ∨ (q = 39 ∧ j = 7) ∨ q = 41 ∨ q = (t + 15) ∨ (q = t ∧ j = 11)) FI53 (Or.inr (Or.inr (Or.inr (Or.inr (Or.inr (Or.inr (Or.inr (Or.inr (Or.inr (Or.inr (Or.inr (Or.inr (Or.inr ⟨rfl, rfl⟩))))))))))))) p76
      have t77 := p76 23 1 (fun h => absurd h.2 (by decide))
      have t78 := p76 23 5 (fun h => absurd h.2 (by decide))
      have t79 := p76 23 6 (fun h => absurd h.2 (by decide))
      have t80 := p76 23 7 (fun h => absurd h.2 (by decide))
      have t81 := p76 1 17 (fun h => absurd h.2 (by decide))
      have t82 := p76 4 1 (fun h => absurd h.2 (by decide))
      have t83 := p76 (t + 11) 1 (fun h => absurd h.2 (by decide))
      have t84 := p76 39 2 (fun h => absurd h.2 (by decide))
      have f85 := (show 0 ≤ I75 t 11 ∧ I75 t 11 ≤ 64 from gc_in hI75 R_t rfl rfl)
      have KLT_I75 := gc_LT_fr KLT_I53 (p76 23 5 (fun h => absurd h.2 (by decide))) (p76 23 6 (fun h => absurd h.2 (by decide))) (p76 23 7 (fun h => absurd h.2 (by decide))) (fun k => p76 24 k (fun h => absurd h.1 N_24__t))
      have KTK_I75 := gc_TK_fr KTK_I53 (p76 23 1 (fun h => absurd h.2 (by decide))) (p76 23 5 (fun h => absurd h.2 (by decide))) (p76 23 6 (fun h => absurd h.2 (by decide))) (p76 23 7 (fun h => absurd h.2 (by decide)))
      have KRW_I75 := gc_row_fr KRW_I53 (fun k => p76 41 k (fun h => absurd h.1 N_41__t))
      show gv_X _ _ (244, [(0, .inr (.inr (some 39)))], [], sh, gc_h sh I75 J39 A)
      refine gv_run 1 true hD (pc' := 245) (lv' := [(0, .inr (.inr (some 39)))]) (st' := [.inl 1]) (h' := gc_h sh I75 J39 A) (C := (True ∧ True)) rfl ⟨trivial, trivial⟩ ?_
      exact gv_zret hD rfl (by omega) ⟨I75, J39, rfl, hI75, FI75, FJ39, KLT_I75, KTK_I75, ⟨_, rfl, by omega⟩⟩
    · show gv_X _ _ (202, [(0, .inr (.inr (some 39)))], [], sh, gc_h sh I38 J39 A)
      refine gv_run 1 true hD (pc' := 203) (lv' := [(0, .inr (.inr (some 39)))]) (st' := [.inl 0]) (h' := gc_h sh I38 J39 A) (C := (True ∧ True)) rfl ⟨trivial, trivial⟩ ?_
      exact gv_zret hD rfl (by omega) ⟨I38, J39, rfl, hI38, FI38, FJ39, KLT_I38, KTK_I38, ⟨_, rfl, by omega⟩⟩
  refine gv_run 2 true hD (pc' := 2) (lv' := [(0, .inr (.inr (some 39)))]) (st' := [.inr (.inr (some 39)), .inr (.inr (some 39))]) (h' := gc_h sh I J A) (C := ((True ∧ True) ∧ True)) rfl ⟨⟨trivial, trivial⟩, trivial⟩ ?_
  refine gv_get hD rfl rfl S_39 ⟨by decide, B_39⟩ (gc_hA S_39 rfl A_39_0) ?_
  show gv_X _ _ (5, [(0, .inr (.inr (some 39)))], [.inr (.inr (some 1)), .inr (.inr (some 39))], sh, gc_h sh I J A)
  refine gv_get hD rfl rfl S_1 ⟨by decide, B_1⟩ (gc_hA S_1 rfl A_1_1) ?_
  show gv_X _ _ (8, [(0, .inr (.inr (some 39)))], [.inr (.inr (some 4)), .inr (.inr (some 39))], sh, gc_h sh I J A)
  obtain ⟨r86, h86, E86, P86⟩ := d_X6_needKnown (ws0 := ws0) (tb := tb) hws htb sh ro I J A hI  96 11 4 hb (gc_b4 hb)    
  obtain ⟨I87, J88, rfl, hI87, g86, k86, ⟨z86, rfl, q86⟩⟩ := P86
  have FI87 := gc_frc (W := fun q j => (q = 39 ∧ j = 3) ∨ (q = 39 ∧ j = 4) ∨ (q = 23 ∧ j = 5) ∨ (q = 23 ∧ j = 6) ∨ (q = 23 ∧ j = 7) ∨ (q = 23 ∧ j = 8) ∨ (q = 1 ∧ j = 17) ∨ (q = 1 ∧ j = 18) ∨ q = 20 ∨ (q = 39 ∧ j = 6) ∨ (q = 39 ∧ j = 7) ∨ q = 41 ∨ q = (t + 15) ∨ (q = t ∧ j = 11)) (V := fun q j => (q = 39 ∧ j = 3) ∨ (q = 39 ∧ j = 4)) FI (fun q j h => (h.elim (fun h => (Or.inl h)) (fun h => (Or.inr (Or.inl h))))) g86
  have t89 := (g86 23 1).resolve_left (fun h => h.elim (fun h => absurd h.2 (by decide)) (fun h => absurd h.2 (by decide)))
  have t90 := (g86 23 5).resolve_left (fun h => h.elim (fun h => absurd h.2 (by decide)) (fun h => absurd h.2 (by decide)))
  have t91 := (g86 23 6).resolve_left (fun h => h.elim (fun h => absurd h.2 (by decide)) (fun h => absurd h.2 (by decide)))
  have t92 := (g86 23 7).resolve_left (fun h => h.elim (fun h => absurd h.2 (by decide)) (fun h => absurd h.2 (by decide)))
  have t93 := (g86 1 17).resolve_left (fun h => h.elim (fun h => absurd h.2 (by decide)) (fun h => absurd h.2 (by decide)))
  have t94 := (g86 4 1).resolve_left (fun h => h.elim (fun h => absurd h.2 (by decide)) (fun h => absurd h.2 (by decide)))
  have t95 := (g86 (t + 11) 1).resolve_left (fun h => h.elim (fun h => absurd h.2 (by decide)) (fun h => absurd h.2 (by decide)))
  have t96 := (g86 t 11).resolve_left (fun h => h.elim (fun h => absurd h.2 (by decide)) (fun h => absurd h.2 (by decide)))
  have t97 := (g86 39 2).resolve_left (fun h => h.elim (fun h => absurd h.2 (by decide)) (fun h => absurd h.2 (by decide)))
  obtain rfl : J = J88 := funext fun q => funext fun j => ((k86 q j).resolve_left id).symm
  have KLT_I87 := gc_LT_fr KLT_I ((g86 23 5).resolve_left (fun h => h.elim (fun h => absurd h.2 (by decide)) (fun h => absurd h.2 (by decide)))) ((g86 23 6).resolve_left (fun h => h.elim (fun h => absurd h.2 (by decide)) (fun h => absurd h.2 (by decide)))) ((g86 23 7).resolve_left (fun h => h.elim (fun h => absurd h.2 (by decide)) (fun h => absurd h.2 (by decide)))) (fun k => (g86 24 k).resolve_left (fun h => h.elim (fun h => absurd h.1 (by decide)) (fun h => absurd h.1 (by decide))))
  have KTK_I87 := gc_TK_fr KTK_I ((g86 23 1).resolve_left (fun h => h.elim (fun h => absurd h.2 (by decide)) (fun h => absurd h.2 (by decide)))) ((g86 23 5).resolve_left (fun h => h.elim (fun h => absurd h.2 (by decide)) (fun h => absurd h.2 (by decide)))) ((g86 23 6).resolve_left (fun h => h.elim (fun h => absurd h.2 (by decide)) (fun h => absurd h.2 (by decide)))) ((g86 23 7).resolve_left (fun h => h.elim (fun h => absurd h.2 (by decide)) (fun h => absurd h.2 (by decide))))
  refine gv_callV hD rfl (As := [.inr (.inr (some 4))]) (st := []) rfl B_39 S_39 rfl (gc_lV6 hws rfl) (Nat.le_of_ble_eq_true rfl) (gz_Ev_mono (d := 3) (by decide) E86) ?_
  show gv_X _ _ (11, [(0, .inr (.inr (some 39)))], [.inl z86], sh, gc_h sh I87 J A)
  refine gv_if_ne (t := 16) hD rfl rfl ⟨by omega, by omega⟩ (fun c98 => ?_) (fun c98 => ?_)
  · show gv_X _ _ (16, [(0, .inr (.inr (some 39)))], [], sh, gc_h sh I87 J A)
    refine gv_run 1 true hD (pc' := 17) (lv' := [(0, .inr (.inr (some 39)))]) (st' := [.inr (.inr (some 39))]) (h' := gc_h sh I87 J A) (C := (True ∧ True)) rfl ⟨trivial, trivial⟩ ?_
    refine gv_get hD rfl rfl S_39 ⟨by decide, B_39⟩ (gc_hA S_39 rfl A_39_0) ?_
    show gv_X _ _ (20, [(0, .inr (.inr (some 39)))], [.inr (.inr (some 1))], sh, gc_h sh I87 J A)
    refine gv_get hD rfl rfl S_1 ⟨by decide, B_1⟩ (gc_hA S_1 rfl A_1_1) ?_
    show gv_X _ _ (23, [(0, .inr (.inr (some 39)))], [.inr (.inr (some 4))], sh, gc_h sh I87 J A)
    refine gv_run 1 true hD (pc' := 24) (lv' := [(0, .inr (.inr (some 39)))]) (st' := [.inr (.inr (some 39)), .inr (.inr (some 4))]) (h' := gc_h sh I87 J A) (C := (True ∧ True)) rfl ⟨trivial, trivial⟩ ?_
    refine gv_get hD rfl rfl S_39 ⟨by decide, B_39⟩ (gc_hA S_39 rfl A_39_1) ?_
    show gv_X _ _ (27, [(0, .inr (.inr (some 39)))], [.inr (.inr (some 23)), .inr (.inr (some 4))], sh, gc_h sh I87 J A)
    refine gv_get hD rfl rfl S_23 ⟨by decide, B_23⟩ (gc_hJ S_23 rfl) ?_
    show gv_X _ _ (30, [(0, .inr (.inr (some 39)))], [.inr (.inl (J 23 9)), .inr (.inr (some 4))], sh, gc_h sh I87 J A)
    obtain ⟨r99, h99, E99, P99⟩ := d_X4_find (ws0 := ws0) (tb := tb) hws htb sh ro I87 J A hI87 4 96 11 (J 23 9) (gc_b4 hb)     
    obtain ⟨rfl, ⟨z99, rfl, q99⟩⟩ := P99
    refine gv_callV hD rfl (As := [.inr (.inl (J 23 9))]) (st := []) rfl B_4 S_4 rfl (gc_lV6 hws rfl) (Nat.le_of_ble_eq_true rfl) (gz_Ev_mono (d := 1) (by decide) E99) ?_
    show gv_X _ _ (33, [(0, .inr (.inr (some 39)))], [.inl z99], sh, gc_h sh I87 J A)
    refine gv_run 2 true hD (pc' := 35) (lv' := [(1, .inl z99), (0, .inr (.inr (some 39)))]) (st' := [.inr (.inr (some 39))]) (h' := gc_h sh I87 J A) (C := ((True ∧ True) ∧ True)) rfl ⟨⟨trivial, trivial⟩, trivial⟩ ?_
    refine gv_get hD rfl rfl S_39 ⟨by decide, B_39⟩ (gc_hA S_39 rfl A_39_0) ?_
    show gv_X _ _ (38, [(1, .inl z99), (0, .inr (.inr (some 39)))], [.inr (.inr (some 1))], sh, gc_h sh I87 J A)
    refine gv_get hD rfl rfl S_1 ⟨by decide, B_1⟩ (gc_hA S_1 rfl A_1_7) ?_
    show gv_X _ _ (41, [(1, .inl z99), (0, .inr (.inr (some 39)))], [.inr (.inr (some 12))], sh, gc_h sh I87 J A)
    refine gv_run 1 true hD (pc' := 42) (lv' := [(1, .inl z99), (0, .inr (.inr (some 39)))]) (st' := [.inl z99, .inr (.inr (some 12))]) (h' := gc_h sh I87 J A) (C := (True ∧ True)) rfl ⟨trivial, trivial⟩ ?_
    have f100 := (show 0 ≤ I87 12 (Int.toNat z99) ∧ I87 12 (Int.toNat z99) ≤ 4 from gc_in hI87 R_12 rfl rfl)
    refine gv_iald hD rfl S_12 rfl ⟨by decide, B_12⟩ ⟨by omega, by omega⟩ (gc_iI S_12 rfl) ?_
    show gv_X _ _ (43, [(1, .inl z99), (0, .inr (.inr (some 39)))], [.inl (I87 12 (Int.toNat z99))], sh, gc_h sh I87 J A)
    refine gv_if_le (t := 59) hD rfl rfl ⟨by omega, by omega⟩ (fun c101 => ?_) (fun c101 => ?_)
    · show gv_X _ _ (59, [(1, .inl z99), (0, .inr (.inr (some 39)))], [], sh, gc_h sh I87 J A)
      refine gv_run 1 true hD (pc' := 60) (lv' := [(1, .inl z99), (0, .inr (.inr (some 39)))]) (st' := [.inr (.inr (some 39))]) (h' := gc_h sh I87 J A) (C := (True ∧ True)) rfl ⟨trivial, trivial⟩ ?_
      refine gv_get hD rfl rfl S_39 ⟨by decide, B_39⟩ (gc_hA S_39 rfl A_39_1) ?_
      show gv_X _ _ (63, [(1, .inl z99), (0, .inr (.inr (some 39)))], [.inr (.inr (some 23))], sh, gc_h sh I87 J A)
      have t103 := gc_TK_nx KTK_I87 (by omega)
      have t104 := gc_TK_st KTK_I87 (by omega)
      obtain ⟨r102, h102, E102, P102⟩ := d_X9_advance (ws0 := ws0) (tb := tb) hws htb sh ro I87 J A hI87 23  (gc_b23 hb)    (by omega) 
      obtain ⟨I105, J106, rfl, hI105, g102, k102, ⟨rfl, V102_0, V102_1, V102_2, V102_3, V102_4, q102⟩⟩ := P102
      have FI105 := gc_frc (W := fun q j => (q = 39 ∧ j = 3) ∨ (q = 39 ∧ j = 4) ∨ (q = 23 ∧ j = 5) ∨ (q = 23 ∧ j = 6) ∨ (q = 23 ∧ j = 7) ∨ (q = 23 ∧ j = 8) ∨ (q = 1 ∧ j = 17) ∨ (q = 1 ∧ j = 18) ∨ q = 20 ∨ (q = 39 ∧ j = 6) ∨ (q = 39 ∧ j = 7) ∨ q = 41 ∨ q = (t + 15) ∨ (q = t ∧ j = 11)) (V := fun q j => (q = 23 ∧ j = 5) ∨ (q = 23 ∧ j = 6) ∨ (q = 23 ∧ j = 7) ∨ (q = 23 ∧ j = 8)) FI87 (fun q j h => (h.elim (fun h => (Or.inr (Or.inr (Or.inl h)))) (fun h => (h.elim (fun h => (Or.inr (Or.inr (Or.inr (Or.inl h))))) (fun h => (h.elim (fun h => (Or.inr (Or.inr (Or.inr (Or.inr (Or.inl h)))))) (fun h => (Or.inr (Or.inr (Or.inr (Or.inr (Or.inr (Or.inl h))))))))))))) g102
      have FJ106 := gc_frc (W := fun q j => (q = 23 ∧ j = 9)) (V := fun q j => (q = 23 ∧ j = 9)) FJ (fun q j h => h) k102
      have t107 := (g102 23 1).resolve_left (fun h => h.elim (fun h => absurd h.2 (by decide)) (fun h => h.elim (fun h => absurd h.2 (by decide)) (fun h => h.elim (fun h => absurd h.2 (by decide)) (fun h => absurd h.2 (by decide)))))
      have t108 := (g102 1 17).resolve_left (fun h => h.elim (fun h => absurd h.2 (by decide)) (fun h => h.elim (fun h => absurd h.2 (by decide)) (fun h => h.elim (fun h => absurd h.2 (by decide)) (fun h => absurd h.2 (by decide)))))
      have t109 := (g102 4 1).resolve_left (fun h => h.elim (fun h => absurd h.2 (by decide)) (fun h => h.elim (fun h => absurd h.2 (by decide)) (fun h => h.elim (fun h => absurd h.2 (by decide)) (fun h => absurd h.2 (by decide)))))
      have t110 := (g102 (t + 11) 1).resolve_left (fun h => h.elim (fun h => absurd h.2 (by decide)) (fun h => h.elim (fun h => absurd h.2 (by decide)) (fun h => h.elim (fun h => absurd h.2 (by decide)) (fun h => absurd h.2 (by decide)))))
      have t111 := (g102 t 11).resolve_left (fun h => h.elim (fun h => absurd h.2 (by decide)) (fun h => h.elim (fun h => absurd h.2 (by decide)) (fun h => h.elim (fun h => absurd h.2 (by decide)) (fun h => absurd h.2 (by decide)))))
      have t112 := (g102 39 2).resolve_left (fun h => h.elim (fun h => absurd h.2 (by decide)) (fun h => h.elim (fun h => absurd h.2 (by decide)) (fun h => h.elim (fun h => absurd h.2 (by decide)) (fun h => absurd h.2 (by decide)))))
      have f113 := (show 0 ≤ I105 23 5 ∧ I105 23 5 ≤ 1000 from gc_in hI105 R_23 rfl rfl)
      have f114 := (show 0 ≤ I105 23 6 ∧ I105 23 6 ≤ 1001 from gc_in hI105 R_23 rfl rfl)
      have f115 := (show 0 ≤ I105 23 7 ∧ I105 23 7 ≤ 125 from gc_in hI105 R_23 rfl rfl)
      have KLT_I105 : gc_LT I105 := q102.2.2
      have KTK_I105 : gc_TK I105 := And.intro V102_0 (And.intro V102_1 (And.intro V102_2 (And.intro V102_3 V102_4)))
      have t116 := gc_TK_mo KTK_I105
      clear V102_0 V102_1 V102_2 V102_3 V102_4
      refine gv_callV hD rfl (As := []) (st := []) rfl B_23 S_23 rfl (gc_lV6 hws rfl) (Nat.le_of_ble_eq_true rfl) (gz_Ev_mono (d := 2) (by decide) E102) ?_
      show gv_X _ _ (66, [(1, .inl z99), (0, .inr (.inr (some 39)))], [], sh, gc_h sh I105 J106 A)
      refine gv_run 2 true hD (pc' := 68) (lv' := [(1, .inl z99), (0, .inr (.inr (some 39)))]) (st' := [.inr (.inr (some 39)), .inr (.inr (some 39))]) (h' := gc_h sh I105 J106 A) (C := ((True ∧ True) ∧ True)) rfl ⟨⟨trivial, trivial⟩, trivial⟩ ?_
      refine gv_get hD rfl rfl S_39 ⟨by decide, B_39⟩ (gc_h5 (t := t) S_39 rfl (by omega)) ?_
      show gv_X _ _ (71, [(1, .inl z99), (0, .inr (.inr (some 39)))], [.inr (.inr (some t)), .inr (.inr (some 39))], sh, gc_h sh I105 J106 A)
      refine gv_get hD rfl rfl S_t ⟨by decide, B_t⟩ (gc_hA S_t rfl A_t_8) ?_
      show gv_X _ _ (74, [(1, .inl z99), (0, .inr (.inr (some 39)))], [.inr (.inr (some (t + 11))), .inr (.inr (some 39))], sh, gc_h sh I105 J106 A)
      obtain ⟨r117, h117, E117, P117⟩ := d_X6_needKnown (ws0 := ws0) (tb := tb) hws htb sh ro I105 J106 A hI105  24 8 (t + 11) hb h_t_11    
      obtain ⟨I118, J119, rfl, hI118, g117, k117, ⟨z117, rfl, q117⟩⟩ := P117
      have FI118 := gc_frc (W := fun q j => (q = 39 ∧ j = 3) ∨ (q = 39 ∧ j = 4) ∨ (q = 23 ∧ j = 5) ∨ (q = 23 ∧ j = 6) ∨ (q = 23 ∧ j = 7) ∨ (q = 23 ∧ j = 8) ∨ (q = 1 ∧ j = 17) ∨ (q = 1 ∧ j = 18) ∨ q = 20 ∨ (q = 39 ∧ j = 6) ∨ (q = 39 ∧ j = 7) ∨ q = 41 ∨ q = (t + 15) ∨ (q = t ∧ j = 11)) (V := fun q j => (q = 39 ∧ j = 3) ∨ (q = 39 ∧ j = 4)) FI105 (fun q j h => (h.elim (fun h => (Or.inl h)) (fun h => (Or.inr (Or.inl h))))) g117
      have t120 := (g117 23 1).resolve_left (fun h => h.elim (fun h => absurd h.2 (by decide)) (fun h => absurd h.2 (by decide)))
      have t121 := (g117 23 5).resolve_left (fun h => h.elim (fun h => absurd h.2 (by decide)) (fun h => absurd h.2 (by decide)))
      have t122 := (g117 23 6).resolve_left (fun h => h.elim (fun h => absurd h.2 (by decide)) (fun h => absurd h.2 (by decide)))
      have t123 := (g117 23 7).resolve_left (fun h => h.elim (fun h => absurd h.2 (by decide)) (fun h => absurd h.2 (by decide)))
      have t124 := (g117 1 17).resolve_left (fun h => h.elim (fun h => absurd h.2 (by decide)) (fun h => absurd h.2 (by decide)))
      have t125 := (g117 4 1).resolve_left (fun h => h.elim (fun h => absurd h.2 (by decide)) (fun h => absurd h.2 (by decide)))
      have t126 := (g117 (t + 11) 1).resolve_left (fun h => h.elim (fun h => absurd h.2 (by decide)) (fun h => absurd h.2 (by decide)))
      have t127 := (g117 t 11).resolve_left (fun h => h.elim (fun h => absurd h.2 (by decide)) (fun h => absurd h.2 (by decide)))
      have t128 := (g117 39 2).resolve_left (fun h => h.elim (fun h => absurd h.2 (by decide)) (fun h => absurd h.2 (by decide)))
      obtain rfl : J106 = J119 := funext fun q => funext fun j => ((k117 q j).resolve_left id).symm
      have KLT_I118 := gc_LT_fr KLT_I105 ((g117 23 5).resolve_left (fun h => h.elim (fun h => absurd h.2 (by decide)) (fun h => absurd h.2 (by decide)))) ((g117 23 6).resolve_left (fun h => h.elim (fun h => absurd h.2 (by decide)) (fun h => absurd h.2 (by decide)))) ((g117 23 7).resolve_left (fun h => h.elim (fun h => absurd h.2 (by decide)) (fun h => absurd h.2 (by decide)))) (fun k => (g117 24 k).resolve_left (fun h => h.elim (fun h => absurd h.1 (by decide)) (fun h => absurd h.1 (by decide))))
      have KTK_I118 := gc_TK_fr KTK_I105 ((g117 23 1).resolve_left (fun h => h.elim (fun h => absurd h.2 (by decide)) (fun h => absurd h.2 (by decide)))) ((g117 23 5).resolve_left (fun h => h.elim (fun h => absurd h.2 (by decide)) (fun h => absurd h.2 (by decide)))) ((g117 23 6).resolve_left (fun h => h.elim (fun h => absurd h.2 (by decide)) (fun h => absurd h.2 (by decide)))) ((g117 23 7).resolve_left (fun h => h.elim (fun h => absurd h.2 (by decide)) (fun h => absurd h.2 (by decide))))
      refine gv_callV hD rfl (As := [.inr (.inr (some (t + 11)))]) (st := []) rfl B_39 S_39 rfl (gc_lV6 hws rfl) (Nat.le_of_ble_eq_true rfl) (gz_Ev_mono (d := 3) (by decide) E117) ?_
      show gv_X _ _ (77, [(1, .inl z99), (0, .inr (.inr (some 39)))], [.inl z117], sh, gc_h sh I118 J106 A)
      refine gv_if_ne (t := 82) hD rfl rfl ⟨by omega, by omega⟩ (fun c129 => ?_) (fun c129 => ?_)
      · show gv_X _ _ (82, [(1, .inl z99), (0, .inr (.inr (some 39)))], [], sh, gc_h sh I118 J106 A)
        refine gv_run 1 true hD (pc' := 83) (lv' := [(1, .inl z99), (0, .inr (.inr (some 39)))]) (st' := [.inr (.inr (some 39))]) (h' := gc_h sh I118 J106 A) (C := (True ∧ True)) rfl ⟨trivial, trivial⟩ ?_
        refine gv_get hD rfl rfl S_39 ⟨by decide, B_39⟩ (gc_hA S_39 rfl A_39_10) ?_
        show gv_X _ _ (86, [(1, .inl z99), (0, .inr (.inr (some 39)))], [.inr (.inr (some 41))], sh, gc_h sh I118 J106 A)
        refine gv_run 1 true hD (pc' := 87) (lv' := [(1, .inl z99), (0, .inr (.inr (some 39)))]) (st' := [.inl 0, .inr (.inr (some 41))]) (h' := gc_h sh I118 J106 A) (C := (True ∧ True)) rfl ⟨trivial, trivial⟩ ?_
        obtain ⟨I131, E130, hI131, g130, q130⟩ := gj_fill (ws0 := ws0) (tb := tb) sh ro I118 J106 A hI118 41 25 0 S_41 B_41 (by decide) ⟨by omega, by omega⟩ (fun k => by rw [R_41]; exact ⟨by show (-2147483648) ≤ _; omega, by show _ ≤ 2147483647; omega⟩)
        refine gv_callS hD rfl (As := [.inr (.inr (some 41)), .inl 0]) (st := []) rfl (gc_lS6 hws rfl) (Nat.le_of_ble_eq_true rfl) (gz_Ev_mono (d := 1) (by decide) E130) ?_
        have FI131 := gc_frc (W := fun q j => (q = 39 ∧ j = 3) ∨ (q = 39 ∧ j = 4) ∨ (q = 23 ∧ j = 5) ∨ (q = 23 ∧ j = 6) ∨ (q = 23 ∧ j = 7) ∨ (q = 23 ∧ j = 8) ∨ (q = 1 ∧ j = 17) ∨ (q = 1 ∧ j = 18) ∨ q = 20 ∨ (q = 39 ∧ j = 6) ∨ (q = 39 ∧ j = 7) ∨ q = 41 ∨ q = (t + 15) ∨ (q = t ∧ j = 11)) (V := fun q j => q = 41) FI118 (fun q j h => (Or.inr (Or.inr (Or.inr (Or.inr (Or.inr (Or.inr (Or.inr (Or.inr (Or.inr (Or.inr (Or.inr (Or.inl h))))))))))))) g130
        have KLT_I131 := gc_LT_fr KLT_I118 ((g130 23 5).resolve_left (fun h => absurd h (by decide))) ((g130 23 6).resolve_left (fun h => absurd h (by decide))) ((g130 23 7).resolve_left (fun h => absurd h (by decide))) (fun k => (g130 24 k).resolve_left (fun h => absurd h (by decide)))
        have KTK_I131 := gc_TK_fr KTK_I118 ((g130 23 1).resolve_left (fun h => absurd h (by decide))) ((g130 23 5).resolve_left (fun h => absurd h (by decide))) ((g130 23 6).resolve_left (fun h => absurd h (by decide))) ((g130 23 7).resolve_left (fun h => absurd h (by decide)))
        have KRW_I131 : gc_row 41 11 gc_fW I131 := gc_row_fill (z := 0) (fun j hj => q130 j (by omega)) (fun j => by unfold gc_fW; omega)
        have t133 := (g130 23 1).resolve_left (fun h => absurd h (by decide))
        have t134 := (g130 23 5).resolve_left (fun h => absurd h (by decide))
        have t135 := (g130 23 6).resolve_left (fun h => absurd h (by decide))
        have t136 := (g130 23 7).resolve_left (fun h => absurd h (by decide))
        have t137 := (g130 1 17).resolve_left (fun h => absurd h (by decide))
        have t138 := (g130 4 1).resolve_left (fun h => absurd h (by decide))
        have t139 := (g130 (t + 11) 1).resolve_left (fun h => absurd h N_t_11__41)
        have t140 := (g130 t 11).resolve_left (fun h => absurd h N_t__41)
        have t141 := (g130 39 2).resolve_left (fun h => absurd h (by decide))
        have t142 := gc_TK_mo KTK_I131
        have f143 := (show 0 ≤ I131 23 1 ∧ I131 23 1 ≤ 1000 from gc_in hI131 R_23 rfl rfl)
        have f144 := (show 0 ≤ I131 23 5 ∧ I131 23 5 ≤ 1000 from gc_in hI131 R_23 rfl rfl)
        have f145 := (show 0 ≤ I131 23 6 ∧ I131 23 6 ≤ 1001 from gc_in hI131 R_23 rfl rfl)
        have f146 := (show 0 ≤ I131 23 7 ∧ I131 23 7 ≤ 125 from gc_in hI131 R_23 rfl rfl)
        have f147 := (show 0 ≤ I131 1 17 ∧ I131 1 17 ≤ 12000 from gc_in hI131 R_1 rfl rfl)
        have f148 := (show 0 ≤ I131 4 1 ∧ I131 4 1 ≤ 96 from gc_in hI131 R_4 rfl rfl)
        have f149 := (show 0 ≤ I131 (t + 11) 1 ∧ I131 (t + 11) 1 ≤ 24 from gc_in hI131 R_t_11 rfl rfl)
        have f150 := (show 0 ≤ I131 t 11 ∧ I131 t 11 ≤ 64 from gc_in hI131 R_t rfl rfl)
        have f151 := (show (-1) ≤ I131 39 2 ∧ I131 39 2 ≤ 999999 from gc_in hI131 R_39 rfl rfl)
        show gv_X _ _ (90, [(1, .inl z99), (0, .inr (.inr (some 39)))], [], sh, gc_h sh I131 J106 A)
        refine gv_run 1 true hD (pc' := 91) (lv' := [(1, .inl z99), (0, .inr (.inr (some 39)))]) (st' := [.inr (.inr (some 39))]) (h' := gc_h sh I131 J106 A) (C := (True ∧ True)) rfl ⟨trivial, trivial⟩ ?_
        refine gv_get hD rfl rfl S_39 ⟨by decide, B_39⟩ (gc_hA S_39 rfl A_39_10) ?_
        show gv_X _ _ (94, [(1, .inl z99), (0, .inr (.inr (some 39)))], [.inr (.inr (some 41))], sh, gc_h sh I131 J106 A)
        refine gv_run 2 true hD (pc' := 96) (lv' := [(1, .inl z99), (0, .inr (.inr (some 39)))]) (st' := [.inl z99, .inl 0, .inr (.inr (some 41))]) (h' := gc_h sh I131 J106 A) (C := ((True ∧ True) ∧ True)) rfl ⟨⟨trivial, trivial⟩, trivial⟩ ?_
        refine gv_iast hD rfl S_41 ⟨by decide, B_41⟩ ⟨by omega, by omega⟩ ?_
        refine gc_st (k := 0) hI131 S_41 rfl R_41 (lo := (-2147483648)) (hi := 2147483647) rfl rfl (by omega) (by omega) (fun I152 hI152 q153 p153 => ?_)
        have FI152 := gc_frs (W := fun q j => (q = 39 ∧ j = 3) ∨ (q = 39 ∧ j = 4) ∨ (q = 23 ∧ j = 5) ∨ (q = 23 ∧ j = 6) ∨ (q = 23 ∧ j = 7) ∨ (q = 23 ∧ j = 8) ∨ (q = 1 ∧ j = 17) ∨ (q = 1 ∧ j = 18) ∨ q = 20 ∨ (q = 39 ∧ j = 6) ∨ (q = 39 ∧ j = 7) ∨ q = 41 ∨ q = (t + 15) ∨ (q = t ∧ j = 11)) FI131 (Or.inr (Or.inr (Or.inr (Or.inr (Or.inr (Or.inr (Or.inr (Or.inr (Or.inr (Or.inr (Or.inr (Or.inl rfl)))))))))))) p153
        have t154 := p153 23 1 (fun h => absurd h.2 (by decide))
        have t155 := p153 23 5 (fun h => absurd h.2 (by decide))
        have t156 := p153 23 6 (fun h => absurd h.2 (by decide))
        have t157 := p153 23 7 (fun h => absurd h.2 (by decide))
        have t158 := p153 1 17 (fun h => absurd h.2 (by decide))
        have t159 := p153 4 1 (fun h => absurd h.2 (by decide))
        have t160 := p153 (t + 11) 1 (fun h => absurd h.2 (by decide))
        have t161 := p153 t 11 (fun h => absurd h.2 (by decide))
        have t162 := p153 39 2 (fun h => absurd h.2 (by decide))
        have KLT_I152 := gc_LT_fr KLT_I131 (p153 23 5 (fun h => absurd h.2 (by decide))) (p153 23 6 (fun h => absurd h.2 (by decide))) (p153 23 7 (fun h => absurd h.2 (by decide))) (fun k => p153 24 k (fun h => absurd h.1 (by decide)))
        have KTK_I152 := gc_TK_fr KTK_I131 (p153 23 1 (fun h => absurd h.2 (by decide))) (p153 23 5 (fun h => absurd h.2 (by decide))) (p153 23 6 (fun h => absurd h.2 (by decide))) (p153 23 7 (fun h => absurd h.2 (by decide)))
        have KRW_I152 := gc_row_st KRW_I131 p153 q153 (by unfold gc_fW; omega)
        show gv_X _ _ (97, [(1, .inl z99), (0, .inr (.inr (some 39)))], [], sh, gc_h sh I152 J106 A)
        refine gv_run 1 true hD (pc' := 98) (lv' := [(1, .inl z99), (0, .inr (.inr (some 39)))]) (st' := [.inr (.inr (some 39))]) (h' := gc_h sh I152 J106 A) (C := (True ∧ True)) rfl ⟨trivial, trivial⟩ ?_
        refine gv_get hD rfl rfl S_39 ⟨by decide, B_39⟩ (gc_hA S_39 rfl A_39_10) ?_
        show gv_X _ _ (101, [(1, .inl z99), (0, .inr (.inr (some 39)))], [.inr (.inr (some 41))], sh, gc_h sh I152 J106 A)
        refine gv_run 2 true hD (pc' := 103) (lv' := [(1, .inl z99), (0, .inr (.inr (some 39)))]) (st' := [.inr (.inr (some 39)), .inl 1, .inr (.inr (some 41))]) (h' := gc_h sh I152 J106 A) (C := ((True ∧ True) ∧ True)) rfl ⟨⟨trivial, trivial⟩, trivial⟩ ?_
        refine gv_get hD rfl rfl S_39 ⟨by decide, B_39⟩ (gc_h5 (t := t) S_39 rfl (by omega)) ?_
        show gv_X _ _ (106, [(1, .inl z99), (0, .inr (.inr (some 39)))], [.inr (.inr (some t)), .inl 1, .inr (.inr (some 41))], sh, gc_h sh I152 J106 A)
        refine gv_get hD rfl rfl S_t ⟨by decide, B_t⟩ (gc_hA S_t rfl A_t_8) ?_
        show gv_X _ _ (109, [(1, .inl z99), (0, .inr (.inr (some 39)))], [.inr (.inr (some (t + 11))), .inl 1, .inr (.inr (some 41))], sh, gc_h sh I152 J106 A)
        refine gv_run 1 true hD (pc' := 110) (lv' := [(1, .inl z99), (0, .inr (.inr (some 39)))]) (st' := [.inr (.inr (some 39)), .inr (.inr (some (t + 11))), .inl 1, .inr (.inr (some 41))]) (h' := gc_h sh I152 J106 A) (C := (True ∧ True)) rfl ⟨trivial, trivial⟩ ?_
        refine gv_get hD rfl rfl S_39 ⟨by decide, B_39⟩ (gc_hA S_39 rfl A_39_1) ?_
        show gv_X _ _ (113, [(1, .inl z99), (0, .inr (.inr (some 39)))], [.inr (.inr (some 23)), .inr (.inr (some (t + 11))), .inl 1, .inr (.inr (some 41))], sh, gc_h sh I152 J106 A)
        refine gv_get hD rfl rfl S_23 ⟨by decide, B_23⟩ (gc_hJ S_23 rfl) ?_
        show gv_X _ _ (116, [(1, .inl z99), (0, .inr (.inr (some 39)))], [.inr (.inl (J106 23 9)), .inr (.inr (some (t + 11))), .inl 1, .inr (.inr (some 41))], sh, gc_h sh I152 J106 A)
        have t163 := (show gc_fd (J106 ((t + 11) + 1)) (J106 23 9) (Int.toNat (I152 (t + 11) 1)) = gc_fd (J106 ((t + 11) + 1)) (J106 23 9) (Int.toNat (I118 (t + 11) 1)) from by rw [show I152 (t + 11) 1 = I118 (t + 11) 1 from by omega])
        obtain ⟨r164, h164, E164, P164⟩ := d_X4_find (ws0 := ws0) (tb := tb) hws htb sh ro I152 J106 A hI152 (t + 11) 24 8 (J106 23 9) h_t_11     
        obtain ⟨rfl, ⟨z164, rfl, q164⟩⟩ := P164
        refine gv_callV hD rfl (As := [.inr (.inl (J106 23 9))]) (st := [.inl 1, .inr (.inr (some 41))]) rfl B_t_11 S_t_11 rfl (gc_lV6 hws rfl) (Nat.le_of_ble_eq_true rfl) (gz_Ev_mono (d := 1) (by decide) E164) ?_
        show gv_X _ _ (119, [(1, .inl z99), (0, .inr (.inr (some 39)))], [.inl z164, .inl 1, .inr (.inr (some 41))], sh, gc_h sh I152 J106 A)
        refine gv_iast hD rfl S_41 ⟨by decide, B_41⟩ ⟨by omega, by omega⟩ ?_
        refine gc_st (k := 1) hI152 S_41 rfl R_41 (lo := (-2147483648)) (hi := 2147483647) rfl rfl (by omega) (by omega) (fun I165 hI165 q166 p166 => ?_)
        have FI165 := gc_frs (W := fun q j => (q = 39 ∧ j = 3) ∨ (q = 39 ∧ j = 4) ∨ (q = 23 ∧ j = 5) ∨ (q = 23 ∧ j = 6) ∨ (q = 23 ∧ j = 7) ∨ (q = 23 ∧ j = 8) ∨ (q = 1 ∧ j = 17) ∨ (q = 1 ∧ j = 18) ∨ q = 20 ∨ (q = 39 ∧ j = 6) ∨ (q = 39 ∧ j = 7) ∨ q = 41 ∨ q = (t + 15) ∨ (q = t ∧ j = 11)) FI152 (Or.inr (Or.inr (Or.inr (Or.inr (Or.inr (Or.inr (Or.inr (Or.inr (Or.inr (Or.inr (Or.inr (Or.inl rfl)))))))))))) p166
        have t167 := p166 23 1 (fun h => absurd h.1 (by decide))
        have t168 := p166 23 5 (fun h => absurd h.2 (by decide))
        have t169 := p166 23 6 (fun h => absurd h.2 (by decide))
        have t170 := p166 23 7 (fun h => absurd h.2 (by decide))
        have t171 := p166 1 17 (fun h => absurd h.2 (by decide))
        have t172 := p166 4 1 (fun h => absurd h.1 (by decide))
        have t173 := p166 (t + 11) 1 (fun h => absurd h.1 N_t_11__41)
        have t174 := p166 t 11 (fun h => absurd h.2 (by decide))
        have t175 := p166 39 2 (fun h => absurd h.2 (by decide))
        have KLT_I165 := gc_LT_fr KLT_I152 (p166 23 5 (fun h => absurd h.2 (by decide))) (p166 23 6 (fun h => absurd h.2 (by decide))) (p166 23 7 (fun h => absurd h.2 (by decide))) (fun k => p166 24 k (fun h => absurd h.1 (by decide)))
        have KTK_I165 := gc_TK_fr KTK_I152 (p166 23 1 (fun h => absurd h.1 (by decide))) (p166 23 5 (fun h => absurd h.2 (by decide))) (p166 23 6 (fun h => absurd h.2 (by decide))) (p166 23 7 (fun h => absurd h.2 (by decide)))
        have KRW_I165 := gc_row_st KRW_I152 p166 q166 (by unfold gc_fW; omega)
        show gv_X _ _ (120, [(1, .inl z99), (0, .inr (.inr (some 39)))], [], sh, gc_h sh I165 J106 A)
        refine gv_run 1 true hD (pc' := 121) (lv' := [(1, .inl z99), (0, .inr (.inr (some 39)))]) (st' := [.inr (.inr (some 39))]) (h' := gc_h sh I165 J106 A) (C := (True ∧ True)) rfl ⟨trivial, trivial⟩ ?_
        refine gv_get hD rfl rfl S_39 ⟨by decide, B_39⟩ (gc_hA S_39 rfl A_39_1) ?_
        show gv_X _ _ (124, [(1, .inl z99), (0, .inr (.inr (some 39)))], [.inr (.inr (some 23))], sh, gc_h sh I165 J106 A)
        have t177 := gc_TK_nx KTK_I165 (by omega)
        have t178 := gc_TK_st KTK_I165 (by omega)
        obtain ⟨r176, h176, E176, P176⟩ := d_X9_advance (ws0 := ws0) (tb := tb) hws htb sh ro I165 J106 A hI165 23  (gc_b23 hb)    (by omega) 
        obtain ⟨I179, J180, rfl, hI179, g176, k176, ⟨rfl, V176_0, V176_1, V176_2, V176_3, V176_4, q176⟩⟩ := P176
        have FI179 := gc_frc (W := fun q j => (q = 39 ∧ j = 3) ∨ (q = 39 ∧ j = 4) ∨ (q = 23 ∧ j = 5) ∨ (q = 23 ∧ j = 6) ∨ (q = 23 ∧ j = 7) ∨ (q = 23 ∧ j = 8) ∨ (q = 1 ∧ j = 17) ∨ (q = 1 ∧ j = 18) ∨ q = 20 ∨ (q = 39 ∧ j = 6) ∨ (q = 39 ∧ j = 7) ∨ q = 41 ∨ q = (t + 15) ∨ (q = t ∧ j = 11)) (V := fun q j => (q = 23 ∧ j = 5) ∨ (q = 23 ∧ j = 6) ∨ (q = 23 ∧ j = 7) ∨ (q = 23 ∧ j = 8)) FI165 (fun q j h => (h.elim (fun h => (Or.inr (Or.inr (Or.inl h)))) (fun h => (h.elim (fun h => (Or.inr (Or.inr (Or.inr (Or.inl h))))) (fun h => (h.elim (fun h => (Or.inr (Or.inr (Or.inr (Or.inr (Or.inl h)))))) (fun h => (Or.inr (Or.inr (Or.inr (Or.inr (Or.inr (Or.inl h))))))))))))) g176
        have FJ180 := gc_frc (W := fun q j => (q = 23 ∧ j = 9)) (V := fun q j => (q = 23 ∧ j = 9)) FJ106 (fun q j h => h) k176
        have t181 := (g176 23 1).resolve_left (fun h => h.elim (fun h => absurd h.2 (by decide)) (fun h => h.elim (fun h => absurd h.2 (by decide)) (fun h => h.elim (fun h => absurd h.2 (by decide)) (fun h => absurd h.2 (by decide)))))
        have t182 := (g176 1 17).resolve_left (fun h => h.elim (fun h => absurd h.2 (by decide)) (fun h => h.elim (fun h => absurd h.2 (by decide)) (fun h => h.elim (fun h => absurd h.2 (by decide)) (fun h => absurd h.2 (by decide)))))
        have t183 := (g176 4 1).resolve_left (fun h => h.elim (fun h => absurd h.2 (by decide)) (fun h => h.elim (fun h => absurd h.2 (by decide)) (fun h => h.elim (fun h => absurd h.2 (by decide)) (fun h => absurd h.2 (by decide)))))
        have t184 := (g176 (t + 11) 1).resolve_left (fun h => h.elim (fun h => absurd h.2 (by decide)) (fun h => h.elim (fun h => absurd h.2 (by decide)) (fun h => h.elim (fun h => absurd h.2 (by decide)) (fun h => absurd h.2 (by decide)))))
        have t185 := (g176 t 11).resolve_left (fun h => h.elim (fun h => absurd h.2 (by decide)) (fun h => h.elim (fun h => absurd h.2 (by decide)) (fun h => h.elim (fun h => absurd h.2 (by decide)) (fun h => absurd h.2 (by decide)))))
        have t186 := (g176 39 2).resolve_left (fun h => h.elim (fun h => absurd h.2 (by decide)) (fun h => h.elim (fun h => absurd h.2 (by decide)) (fun h => h.elim (fun h => absurd h.2 (by decide)) (fun h => absurd h.2 (by decide)))))
        have f187 := (show 0 ≤ I179 23 5 ∧ I179 23 5 ≤ 1000 from gc_in hI179 R_23 rfl rfl)
        have f188 := (show 0 ≤ I179 23 6 ∧ I179 23 6 ≤ 1001 from gc_in hI179 R_23 rfl rfl)
        have f189 := (show 0 ≤ I179 23 7 ∧ I179 23 7 ≤ 125 from gc_in hI179 R_23 rfl rfl)
        have KLT_I179 : gc_LT I179 := q176.2.2
        have KRW_I179 := gc_row_fr KRW_I165 (fun k => (g176 41 k).resolve_left (fun h => h.elim (fun h => absurd h.1 (by decide)) (fun h => h.elim (fun h => absurd h.1 (by decide)) (fun h => h.elim (fun h => absurd h.1 (by decide)) (fun h => absurd h.1 (by decide))))))
        have KTK_I179 : gc_TK I179 := And.intro V176_0 (And.intro V176_1 (And.intro V176_2 (And.intro V176_3 V176_4)))
        have t190 := gc_TK_mo KTK_I179
        clear V176_0 V176_1 V176_2 V176_3 V176_4
        refine gv_callV hD rfl (As := []) (st := []) rfl B_23 S_23 rfl (gc_lV6 hws rfl) (Nat.le_of_ble_eq_true rfl) (gz_Ev_mono (d := 2) (by decide) E176) ?_
        show gv_X _ _ (127, [(1, .inl z99), (0, .inr (.inr (some 39)))], [], sh, gc_h sh I179 J180 A)
        refine gv_run 2 true hD (pc' := 129) (lv' := [(1, .inl z99), (0, .inr (.inr (some 39)))]) (st' := [.inl 3, .inr (.inr (some 39))]) (h' := gc_h sh I179 J180 A) (C := ((True ∧ True) ∧ True)) rfl ⟨⟨trivial, trivial⟩, trivial⟩ ?_
        obtain ⟨r191, h191, E191, P191⟩ := d_X6_need (ws0 := ws0) (tb := tb) hws htb sh ro I179 J180 A hI179  3 hb   ⟨by omega, by omega⟩  
        obtain ⟨I192, J193, rfl, hI192, g191, k191, ⟨z191, rfl, q191⟩⟩ := P191
        have FI192 := gc_frc (W := fun q j => (q = 39 ∧ j = 3) ∨ (q = 39 ∧ j = 4) ∨ (q = 23 ∧ j = 5) ∨ (q = 23 ∧ j = 6) ∨ (q = 23 ∧ j = 7) ∨ (q = 23 ∧ j = 8) ∨ (q = 1 ∧ j = 17) ∨ (q = 1 ∧ j = 18) ∨ q = 20 ∨ (q = 39 ∧ j = 6) ∨ (q = 39 ∧ j = 7) ∨ q = 41 ∨ q = (t + 15) ∨ (q = t ∧ j = 11)) (V := fun q j => (q = 39 ∧ j = 3) ∨ (q = 39 ∧ j = 4)) FI179 (fun q j h => (h.elim (fun h => (Or.inl h)) (fun h => (Or.inr (Or.inl h))))) g191
        have t194 := (g191 23 1).resolve_left (fun h => h.elim (fun h => absurd h.2 (by decide)) (fun h => absurd h.2 (by decide)))
        have t195 := (g191 23 5).resolve_left (fun h => h.elim (fun h => absurd h.2 (by decide)) (fun h => absurd h.2 (by decide)))
        have t196 := (g191 23 6).resolve_left (fun h => h.elim (fun h => absurd h.2 (by decide)) (fun h => absurd h.2 (by decide)))
        have t197 := (g191 23 7).resolve_left (fun h => h.elim (fun h => absurd h.2 (by decide)) (fun h => absurd h.2 (by decide)))
        have t198 := (g191 1 17).resolve_left (fun h => h.elim (fun h => absurd h.2 (by decide)) (fun h => absurd h.2 (by decide)))
        have t199 := (g191 4 1).resolve_left (fun h => h.elim (fun h => absurd h.2 (by decide)) (fun h => absurd h.2 (by decide)))
        have t200 := (g191 (t + 11) 1).resolve_left (fun h => h.elim (fun h => absurd h.2 (by decide)) (fun h => absurd h.2 (by decide)))
        have t201 := (g191 t 11).resolve_left (fun h => h.elim (fun h => absurd h.2 (by decide)) (fun h => absurd h.2 (by decide)))
        have t202 := (g191 39 2).resolve_left (fun h => h.elim (fun h => absurd h.2 (by decide)) (fun h => absurd h.2 (by decide)))
        obtain rfl : J180 = J193 := funext fun q => funext fun j => ((k191 q j).resolve_left id).symm
        have KLT_I192 := gc_LT_fr KLT_I179 ((g191 23 5).resolve_left (fun h => h.elim (fun h => absurd h.2 (by decide)) (fun h => absurd h.2 (by decide)))) ((g191 23 6).resolve_left (fun h => h.elim (fun h => absurd h.2 (by decide)) (fun h => absurd h.2 (by decide)))) ((g191 23 7).resolve_left (fun h => h.elim (fun h => absurd h.2 (by decide)) (fun h => absurd h.2 (by decide)))) (fun k => (g191 24 k).resolve_left (fun h => h.elim (fun h => absurd h.1 (by decide)) (fun h => absurd h.1 (by decide))))
        have KTK_I192 := gc_TK_fr KTK_I179 ((g191 23 1).resolve_left (fun h => h.elim (fun h => absurd h.2 (by decide)) (fun h => absurd h.2 (by decide)))) ((g191 23 5).resolve_left (fun h => h.elim (fun h => absurd h.2 (by decide)) (fun h => absurd h.2 (by decide)))) ((g191 23 6).resolve_left (fun h => h.elim (fun h => absurd h.2 (by decide)) (fun h => absurd h.2 (by decide)))) ((g191 23 7).resolve_left (fun h => h.elim (fun h => absurd h.2 (by decide)) (fun h => absurd h.2 (by decide))))
        have KRW_I192 := gc_row_fr KRW_I179 (fun k => (g191 41 k).resolve_left (fun h => h.elim (fun h => absurd h.1 (by decide)) (fun h => absurd h.1 (by decide))))
        refine gv_callV hD rfl (As := [.inl 3]) (st := []) rfl B_39 S_39 rfl (gc_lV6 hws rfl) (Nat.le_of_ble_eq_true rfl) (gz_Ev_mono (d := 2) (by decide) E191) ?_
        show gv_X _ _ (132, [(1, .inl z99), (0, .inr (.inr (some 39)))], [.inl z191], sh, gc_h sh I192 J180 A)
        refine gv_if_eq (t := 156) hD rfl rfl ⟨by omega, by omega⟩ (fun c203 => ?_) (fun c203 => ?_)
        · show gv_X _ _ (156, [(1, .inl z99), (0, .inr (.inr (some 39)))], [], sh, gc_h sh I192 J180 A)
          refine gv_pick [] rfl ?_
          exact L156 I192 J180 hI192 FI192 FJ180 KLT_I192 KTK_I192 (by omega)
        · show gv_X _ _ (135, [(1, .inl z99), (0, .inr (.inr (some 39)))], [], sh, gc_h sh I192 J180 A)
          refine gv_run 1 true hD (pc' := 136) (lv' := [(1, .inl z99), (0, .inr (.inr (some 39)))]) (st' := [.inr (.inr (some 39))]) (h' := gc_h sh I192 J180 A) (C := (True ∧ True)) rfl ⟨trivial, trivial⟩ ?_
          obtain ⟨r204, h204, E204, P204⟩ := d_X6_readStems (ws0 := ws0) (tb := tb) hws htb sh ro I192 J180 A hI192  B  hb    (by omega) KLT_I192 KTK_I192 KRW_I192
          obtain ⟨I205, J206, rfl, hI205, g204, k204, KLT_I205, KTK_I205, KRW_I205, ⟨z204, rfl, q204⟩⟩ := P204
          have FI205 := gc_frc (W := fun q j => (q = 39 ∧ j = 3) ∨ (q = 39 ∧ j = 4) ∨ (q = 23 ∧ j = 5) ∨ (q = 23 ∧ j = 6) ∨ (q = 23 ∧ j = 7) ∨ (q = 23 ∧ j = 8) ∨ (q = 1 ∧ j = 17) ∨ (q = 1 ∧ j = 18) ∨ q = 20 ∨ (q = 39 ∧ j = 6) ∨ (q = 39 ∧ j = 7) ∨ q = 41 ∨ q = (t + 15) ∨ (q = t ∧ j = 11)) (V := fun q j => (q = 39 ∧ j = 3) ∨ (q = 39 ∧ j = 4) ∨ (q = 23 ∧ j = 5) ∨ (q = 23 ∧ j = 6) ∨ (q = 23 ∧ j = 7) ∨ (q = 23 ∧ j = 8) ∨ (q = 1 ∧ j = 17) ∨ (q = 1 ∧ j = 18) ∨ q = 20 ∨ q = 41) FI192 (fun q j h => (h.elim (fun h => (Or.inl h)) (fun h => (h.elim (fun h => (Or.inr (Or.inl h))) (fun h => (h.elim (fun h => (Or.inr (Or.inr (Or.inl h)))) (fun h => (h.elim (fun h => (Or.inr (Or.inr (Or.inr (Or.inl h))))) (fun h => (h.elim (fun h => (Or.inr (Or.inr (Or.inr (Or.inr (Or.inl h)))))) (fun h => (h.elim (fun h => (Or.inr (Or.inr (Or.inr (Or.inr (Or.inr (Or.inl h))))))) (fun h => (h.elim (fun h => (Or.inr (Or.inr (Or.inr (Or.inr (Or.inr (Or.inr (Or.inl h)))))))) (fun h => (h.elim (fun h => (Or.inr (Or.inr (Or.inr (Or.inr (Or.inr (Or.inr (Or.inr (Or.inl h))))))))) (fun h => (h.elim (fun h => (Or.inr (Or.inr (Or.inr (Or.inr (Or.inr (Or.inr (Or.inr (Or.inr (Or.inl h)))))))))) (fun h => (Or.inr (Or.inr (Or.inr (Or.inr (Or.inr (Or.inr (Or.inr (Or.inr (Or.inr (Or.inr (Or.inr (Or.inl h))))))))))))))))))))))))))))))) g204
          have FJ206 := gc_frc (W := fun q j => (q = 23 ∧ j = 9)) (V := fun q j => (q = 23 ∧ j = 9)) FJ180 (fun q j h => h) k204
          have t207 := (g204 23 1).resolve_left (fun h => h.elim (fun h => absurd h.2 (by decide)) (fun h => h.elim (fun h => absurd h.2 (by decide)) (fun h => h.elim (fun h => absurd h.2 (by decide)) (fun h => h.elim (fun h => absurd h.2 (by decide)) (fun h => h.elim (fun h => absurd h.2 (by decide)) (fun h => h.elim (fun h => absurd h.2 (by decide)) (fun h => h.elim (fun h => absurd h.2 (by decide)) (fun h => h.elim (fun h => absurd h.2 (by decide)) (fun h => h.elim (fun h => absurd h (by decide)) (fun h => absurd h (by decide)))))))))))
          have t208 := (g204 4 1).resolve_left (fun h => h.elim (fun h => absurd h.2 (by decide)) (fun h => h.elim (fun h => absurd h.2 (by decide)) (fun h => h.elim (fun h => absurd h.2 (by decide)) (fun h => h.elim (fun h => absurd h.2 (by decide)) (fun h => h.elim (fun h => absurd h.2 (by decide)) (fun h => h.elim (fun h => absurd h.2 (by decide)) (fun h => h.elim (fun h => absurd h.2 (by decide)) (fun h => h.elim (fun h => absurd h.2 (by decide)) (fun h => h.elim (fun h => absurd h (by decide)) (fun h => absurd h (by decide)))))))))))
          have t209 := (g204 (t + 11) 1).resolve_left (fun h => h.elim (fun h => absurd h.2 (by decide)) (fun h => h.elim (fun h => absurd h.2 (by decide)) (fun h => h.elim (fun h => absurd h.2 (by decide)) (fun h => h.elim (fun h => absurd h.2 (by decide)) (fun h => h.elim (fun h => absurd h.2 (by decide)) (fun h => h.elim (fun h => absurd h.2 (by decide)) (fun h => h.elim (fun h => absurd h.2 (by decide)) (fun h => h.elim (fun h => absurd h.2 (by decide)) (fun h => h.elim (fun h => absurd h N_t_11__20) (fun h => absurd h N_t_11__41))))))))))
          have t210 := (g204 t 11).resolve_left (fun h => h.elim (fun h => absurd h.2 (by decide)) (fun h => h.elim (fun h => absurd h.2 (by decide)) (fun h => h.elim (fun h => absurd h.2 (by decide)) (fun h => h.elim (fun h => absurd h.2 (by decide)) (fun h => h.elim (fun h => absurd h.2 (by decide)) (fun h => h.elim (fun h => absurd h.2 (by decide)) (fun h => h.elim (fun h => absurd h.2 (by decide)) (fun h => h.elim (fun h => absurd h.2 (by decide)) (fun h => h.elim (fun h => absurd h N_t__20) (fun h => absurd h N_t__41))))))))))
          have t211 := (g204 39 2).resolve_left (fun h => h.elim (fun h => absurd h.2 (by decide)) (fun h => h.elim (fun h => absurd h.2 (by decide)) (fun h => h.elim (fun h => absurd h.2 (by decide)) (fun h => h.elim (fun h => absurd h.2 (by decide)) (fun h => h.elim (fun h => absurd h.2 (by decide)) (fun h => h.elim (fun h => absurd h.2 (by decide)) (fun h => h.elim (fun h => absurd h.2 (by decide)) (fun h => h.elim (fun h => absurd h.2 (by decide)) (fun h => h.elim (fun h => absurd h (by decide)) (fun h => absurd h (by decide)))))))))))
          have f212 := (show 0 ≤ I205 23 5 ∧ I205 23 5 ≤ 1000 from gc_in hI205 R_23 rfl rfl)
          have f213 := (show 0 ≤ I205 23 6 ∧ I205 23 6 ≤ 1001 from gc_in hI205 R_23 rfl rfl)
          have f214 := (show 0 ≤ I205 23 7 ∧ I205 23 7 ≤ 125 from gc_in hI205 R_23 rfl rfl)
          have f215 := (show 0 ≤ I205 1 17 ∧ I205 1 17 ≤ 12000 from gc_in hI205 R_1 rfl rfl)
          have t216 := gc_TK_mo KTK_I205
          refine gv_callV hD rfl (As := []) (st := []) rfl B_39 S_39 rfl (gc_lV6 hws rfl) (Nat.le_of_ble_eq_true rfl) (gz_Ev_mono (d := 3) (by decide) E204) ?_
          show gv_X _ _ (139, [(1, .inl z99), (0, .inr (.inr (some 39)))], [.inl z204], sh, gc_h sh I205 J206 A)
          refine gv_if_eq (t := 156) hD rfl rfl ⟨by omega, by omega⟩ (fun c217 => ?_) (fun c217 => ?_)
          · show gv_X _ _ (156, [(1, .inl z99), (0, .inr (.inr (some 39)))], [], sh, gc_h sh I205 J206 A)
            refine gv_pick [] rfl ?_
            exact L156 I205 J206 hI205 FI205 FJ206 KLT_I205 KTK_I205 (by omega)
          · show gv_X _ _ (142, [(1, .inl z99), (0, .inr (.inr (some 39)))], [], sh, gc_h sh I205 J206 A)
            refine gv_run 1 true hD (pc' := 143) (lv' := [(1, .inl z99), (0, .inr (.inr (some 39)))]) (st' := [.inr (.inr (some 39))]) (h' := gc_h sh I205 J206 A) (C := (True ∧ True)) rfl ⟨trivial, trivial⟩ ?_
            obtain ⟨r218, h218, E218, P218⟩ := d_X6_readHas (ws0 := ws0) (tb := tb) hws htb sh ro I205 J206 A hI205  t  hb  h_t G_t   (by omega) KLT_I205 KTK_I205
            obtain ⟨I219, J220, rfl, hI219, g218, k218, KLT_I219, KTK_I219, ⟨z218, rfl, q218⟩⟩ := P218
            have FI219 := gc_frc (W := fun q j => (q = 39 ∧ j = 3) ∨ (q = 39 ∧ j = 4) ∨ (q = 23 ∧ j = 5) ∨ (q = 23 ∧ j = 6) ∨ (q = 23 ∧ j = 7) ∨ (q = 23 ∧ j = 8) ∨ (q = 1 ∧ j = 17) ∨ (q = 1 ∧ j = 18) ∨ q = 20 ∨ (q = 39 ∧ j = 6) ∨ (q = 39 ∧ j = 7) ∨ q = 41 ∨ q = (t + 15) ∨ (q = t ∧ j = 11)) (V := fun q j => (q = 39 ∧ j = 3) ∨ (q = 39 ∧ j = 4) ∨ (q = 23 ∧ j = 5) ∨ (q = 23 ∧ j = 6) ∨ (q = 23 ∧ j = 7) ∨ (q = 23 ∧ j = 8) ∨ (q = 39 ∧ j = 6)) FI205 (fun q j h => (h.elim (fun h => (Or.inl h)) (fun h => (h.elim (fun h => (Or.inr (Or.inl h))) (fun h => (h.elim (fun h => (Or.inr (Or.inr (Or.inl h)))) (fun h => (h.elim (fun h => (Or.inr (Or.inr (Or.inr (Or.inl h))))) (fun h => (h.elim (fun h => (Or.inr (Or.inr (Or.inr (Or.inr (Or.inl h)))))) (fun h => (h.elim (fun h => (Or.inr (Or.inr (Or.inr (Or.inr (Or.inr (Or.inl h))))))) (fun h => (Or.inr (Or.inr (Or.inr (Or.inr (Or.inr (Or.inr (Or.inr (Or.inr (Or.inr (Or.inl h))))))))))))))))))))))) g218
            have FJ220 := gc_frc (W := fun q j => (q = 23 ∧ j = 9)) (V := fun q j => (q = 23 ∧ j = 9)) FJ206 (fun q j h => h) k218
            have t221 := (g218 23 1).resolve_left (fun h => h.elim (fun h => absurd h.2 (by decide)) (fun h => h.elim (fun h => absurd h.2 (by decide)) (fun h => h.elim (fun h => absurd h.2 (by decide)) (fun h => h.elim (fun h => absurd h.2 (by decide)) (fun h => h.elim (fun h => absurd h.2 (by decide)) (fun h => h.elim (fun h => absurd h.2 (by decide)) (fun h => absurd h.2 (by decide))))))))
            have t222 := (g218 1 17).resolve_left (fun h => h.elim (fun h => absurd h.2 (by decide)) (fun h => h.elim (fun h => absurd h.2 (by decide)) (fun h => h.elim (fun h => absurd h.2 (by decide)) (fun h => h.elim (fun h => absurd h.2 (by decide)) (fun h => h.elim (fun h => absurd h.2 (by decide)) (fun h => h.elim (fun h => absurd h.2 (by decide)) (fun h => absurd h.2 (by decide))))))))
            have t223 := (g218 4 1).resolve_left (fun h => h.elim (fun h => absurd h.2 (by decide)) (fun h => h.elim (fun h => absurd h.2 (by decide)) (fun h => h.elim (fun h => absurd h.2 (by decide)) (fun h => h.elim (fun h => absurd h.2 (by decide)) (fun h => h.elim (fun h => absurd h.2 (by decide)) (fun h => h.elim (fun h => absurd h.2 (by decide)) (fun h => absurd h.2 (by decide))))))))
            have t224 := (g218 (t + 11) 1).resolve_left (fun h => h.elim (fun h => absurd h.2 (by decide)) (fun h => h.elim (fun h => absurd h.2 (by decide)) (fun h => h.elim (fun h => absurd h.2 (by decide)) (fun h => h.elim (fun h => absurd h.2 (by decide)) (fun h => h.elim (fun h => absurd h.2 (by decide)) (fun h => h.elim (fun h => absurd h.2 (by decide)) (fun h => absurd h.2 (by decide))))))))
            have t225 := (g218 t 11).resolve_left (fun h => h.elim (fun h => absurd h.2 (by decide)) (fun h => h.elim (fun h => absurd h.2 (by decide)) (fun h => h.elim (fun h => absurd h.2 (by decide)) (fun h => h.elim (fun h => absurd h.2 (by decide)) (fun h => h.elim (fun h => absurd h.2 (by decide)) (fun h => h.elim (fun h => absurd h.2 (by decide)) (fun h => absurd h.2 (by decide))))))))
            have t226 := (g218 39 2).resolve_left (fun h => h.elim (fun h => absurd h.2 (by decide)) (fun h => h.elim (fun h => absurd h.2 (by decide)) (fun h => h.elim (fun h => absurd h.2 (by decide)) (fun h => h.elim (fun h => absurd h.2 (by decide)) (fun h => h.elim (fun h => absurd h.2 (by decide)) (fun h => h.elim (fun h => absurd h.2 (by decide)) (fun h => absurd h.2 (by decide))))))))
            have f227 := (show 0 ≤ I219 23 5 ∧ I219 23 5 ≤ 1000 from gc_in hI219 R_23 rfl rfl)
            have f228 := (show 0 ≤ I219 23 6 ∧ I219 23 6 ≤ 1001 from gc_in hI219 R_23 rfl rfl)
            have f229 := (show 0 ≤ I219 23 7 ∧ I219 23 7 ≤ 125 from gc_in hI219 R_23 rfl rfl)
            have t230 := gc_TK_mo KTK_I219
            have KRW_I219 := gc_row_fr KRW_I205 (fun k => (g218 41 k).resolve_left (fun h => h.elim (fun h => absurd h.1 (by decide)) (fun h => h.elim (fun h => absurd h.1 (by decide)) (fun h => h.elim (fun h => absurd h.1 (by decide)) (fun h => h.elim (fun h => absurd h.1 (by decide)) (fun h => h.elim (fun h => absurd h.1 (by decide)) (fun h => h.elim (fun h => absurd h.1 (by decide)) (fun h => absurd h.1 (by decide)))))))))
            refine gv_callV hD rfl (As := []) (st := []) rfl B_39 S_39 rfl (gc_lV6 hws rfl) (Nat.le_of_ble_eq_true rfl) (gz_Ev_mono (d := 4) (by decide) E218) ?_
            show gv_X _ _ (146, [(1, .inl z99), (0, .inr (.inr (some 39)))], [.inl z218], sh, gc_h sh I219 J220 A)
            refine gv_if_eq (t := 156) hD rfl rfl ⟨by omega, by omega⟩ (fun c231 => ?_) (fun c231 => ?_)
            · show gv_X _ _ (156, [(1, .inl z99), (0, .inr (.inr (some 39)))], [], sh, gc_h sh I219 J220 A)
              refine gv_pick [] rfl ?_
              exact L156 I219 J220 hI219 FI219 FJ220 KLT_I219 KTK_I219 (by omega)
            · show gv_X _ _ (149, [(1, .inl z99), (0, .inr (.inr (some 39)))], [], sh, gc_h sh I219 J220 A)
              refine gv_run 1 true hD (pc' := 150) (lv' := [(1, .inl z99), (0, .inr (.inr (some 39)))]) (st' := [.inr (.inr (some 39))]) (h' := gc_h sh I219 J220 A) (C := (True ∧ True)) rfl ⟨trivial, trivial⟩ ?_
              obtain ⟨r232, h232, E232, P232⟩ := d_X6_readCost (ws0 := ws0) (tb := tb) hws htb sh ro I219 J220 A hI219   hb     KLT_I219 KTK_I219
              obtain ⟨I233, J234, rfl, hI233, g232, k232, KLT_I233, KTK_I233, ⟨z232, rfl, q232⟩⟩ := P232
              have FI233 := gc_frc (W := fun q j => (q = 39 ∧ j = 3) ∨ (q = 39 ∧ j = 4) ∨ (q = 23 ∧ j = 5) ∨ (q = 23 ∧ j = 6) ∨ (q = 23 ∧ j = 7) ∨ (q = 23 ∧ j = 8) ∨ (q = 1 ∧ j = 17) ∨ (q = 1 ∧ j = 18) ∨ q = 20 ∨ (q = 39 ∧ j = 6) ∨ (q = 39 ∧ j = 7) ∨ q = 41 ∨ q = (t + 15) ∨ (q = t ∧ j = 11)) (V := fun q j => (q = 39 ∧ j = 3) ∨ (q = 39 ∧ j = 4) ∨ (q = 23 ∧ j = 5) ∨ (q = 23 ∧ j = 6) ∨ (q = 23 ∧ j = 7) ∨ (q = 23 ∧ j = 8) ∨ (q = 39 ∧ j = 7)) FI219 (fun q j h => (h.elim (fun h => (Or.inl h)) (fun h => (h.elim (fun h => (Or.inr (Or.inl h))) (fun h => (h.elim (fun h => (Or.inr (Or.inr (Or.inl h)))) (fun h => (h.elim (fun h => (Or.inr (Or.inr (Or.inr (Or.inl h))))) (fun h => (h.elim (fun h => (Or.inr (Or.inr (Or.inr (Or.inr (Or.inl h)))))) (fun h => (h.elim (fun h => (Or.inr (Or.inr (Or.inr (Or.inr (Or.inr (Or.inl h))))))) (fun h => (Or.inr (Or.inr (Or.inr (Or.inr (Or.inr (Or.inr (Or.inr (Or.inr (Or.inr (Or.inr (Or.inl h)))))))))))))))))))))))) g232
              have FJ234 := gc_frc (W := fun q j => (q = 23 ∧ j = 9)) (V := fun q j => (q = 23 ∧ j = 9)) FJ220 (fun q j h => h) k232
              have t235 := (g232 23 1).resolve_left (fun h => h.elim (fun h => absurd h.2 (by decide)) (fun h => h.elim (fun h => absurd h.2 (by decide)) (fun h => h.elim (fun h => absurd h.2 (by decide)) (fun h => h.elim (fun h => absurd h.2 (by decide)) (fun h => h.elim (fun h => absurd h.2 (by decide)) (fun h => h.elim (fun h => absurd h.2 (by decide)) (fun h => absurd h.2 (by decide))))))))
              have t236 := (g232 1 17).resolve_left (fun h => h.elim (fun h => absurd h.2 (by decide)) (fun h => h.elim (fun h => absurd h.2 (by decide)) (fun h => h.elim (fun h => absurd h.2 (by decide)) (fun h => h.elim (fun h => absurd h.2 (by decide)) (fun h => h.elim (fun h => absurd h.2 (by decide)) (fun h => h.elim (fun h => absurd h.2 (by decide)) (fun h => absurd h.2 (by decide))))))))
              have t237 := (g232 4 1).resolve_left (fun h => h.elim (fun h => absurd h.2 (by decide)) (fun h => h.elim (fun h => absurd h.2 (by decide)) (fun h => h.elim (fun h => absurd h.2 (by decide)) (fun h => h.elim (fun h => absurd h.2 (by decide)) (fun h => h.elim (fun h => absurd h.2 (by decide)) (fun h => h.elim (fun h => absurd h.2 (by decide)) (fun h => absurd h.2 (by decide))))))))
              have t238 := (g232 (t + 11) 1).resolve_left (fun h => h.elim (fun h => absurd h.2 (by decide)) (fun h => h.elim (fun h => absurd h.2 (by decide)) (fun h => h.elim (fun h => absurd h.2 (by decide)) (fun h => h.elim (fun h => absurd h.2 (by decide)) (fun h => h.elim (fun h => absurd h.2 (by decide)) (fun h => h.elim (fun h => absurd h.2 (by decide)) (fun h => absurd h.2 (by decide))))))))
              have t239 := (g232 t 11).resolve_left (fun h => h.elim (fun h => absurd h.2 (by decide)) (fun h => h.elim (fun h => absurd h.2 (by decide)) (fun h => h.elim (fun h => absurd h.2 (by decide)) (fun h => h.elim (fun h => absurd h.2 (by decide)) (fun h => h.elim (fun h => absurd h.2 (by decide)) (fun h => h.elim (fun h => absurd h.2 (by decide)) (fun h => absurd h.2 (by decide))))))))
              have t240 := (g232 39 2).resolve_left (fun h => h.elim (fun h => absurd h.2 (by decide)) (fun h => h.elim (fun h => absurd h.2 (by decide)) (fun h => h.elim (fun h => absurd h.2 (by decide)) (fun h => h.elim (fun h => absurd h.2 (by decide)) (fun h => h.elim (fun h => absurd h.2 (by decide)) (fun h => h.elim (fun h => absurd h.2 (by decide)) (fun h => absurd h.2 (by decide))))))))
              have f241 := (show 0 ≤ I233 23 5 ∧ I233 23 5 ≤ 1000 from gc_in hI233 R_23 rfl rfl)
              have f242 := (show 0 ≤ I233 23 6 ∧ I233 23 6 ≤ 1001 from gc_in hI233 R_23 rfl rfl)
              have f243 := (show 0 ≤ I233 23 7 ∧ I233 23 7 ≤ 125 from gc_in hI233 R_23 rfl rfl)
              have t244 := gc_TK_mo KTK_I233
              have KRW_I233 := gc_row_fr KRW_I219 (fun k => (g232 41 k).resolve_left (fun h => h.elim (fun h => absurd h.1 (by decide)) (fun h => h.elim (fun h => absurd h.1 (by decide)) (fun h => h.elim (fun h => absurd h.1 (by decide)) (fun h => h.elim (fun h => absurd h.1 (by decide)) (fun h => h.elim (fun h => absurd h.1 (by decide)) (fun h => h.elim (fun h => absurd h.1 (by decide)) (fun h => absurd h.1 (by decide)))))))))
              refine gv_callV hD rfl (As := []) (st := []) rfl B_39 S_39 rfl (gc_lV6 hws rfl) (Nat.le_of_ble_eq_true rfl) (gz_Ev_mono (d := 3) (by decide) E232) ?_
              show gv_X _ _ (153, [(1, .inl z99), (0, .inr (.inr (some 39)))], [.inl z232], sh, gc_h sh I233 J234 A)
              refine gv_if_ne (t := 158) hD rfl rfl ⟨by omega, by omega⟩ (fun c245 => ?_) (fun c245 => ?_)
              · show gv_X _ _ (158, [(1, .inl z99), (0, .inr (.inr (some 39)))], [], sh, gc_h sh I233 J234 A)
                refine gv_run 1 true hD (pc' := 159) (lv' := [(1, .inl z99), (0, .inr (.inr (some 39)))]) (st' := [.inr (.inr (some 39))]) (h' := gc_h sh I233 J234 A) (C := (True ∧ True)) rfl ⟨trivial, trivial⟩ ?_
                refine gv_get hD rfl rfl S_39 ⟨by decide, B_39⟩ (gc_hA S_39 rfl A_39_10) ?_
                show gv_X _ _ (162, [(1, .inl z99), (0, .inr (.inr (some 39)))], [.inr (.inr (some 41))], sh, gc_h sh I233 J234 A)
                refine gv_run 2 true hD (pc' := 164) (lv' := [(1, .inl z99), (0, .inr (.inr (some 39)))]) (st' := [.inr (.inr (some 39)), .inl 2, .inr (.inr (some 41))]) (h' := gc_h sh I233 J234 A) (C := ((True ∧ True) ∧ True)) rfl ⟨⟨trivial, trivial⟩, trivial⟩ ?_
                have f246 := (show 0 ≤ I233 39 6 ∧ I233 39 6 ≤ 16777215 from gc_in hI233 R_39 rfl rfl)
                refine gv_get hD rfl rfl S_39 ⟨by decide, B_39⟩ (gc_hI S_39 rfl) ?_
                show gv_X _ _ (167, [(1, .inl z99), (0, .inr (.inr (some 39)))], [.inl (I233 39 6), .inl 2, .inr (.inr (some 41))], sh, gc_h sh I233 J234 A)
                refine gv_iast hD rfl S_41 ⟨by decide, B_41⟩ ⟨by omega, by omega⟩ ?_
                refine gc_st (k := 2) hI233 S_41 rfl R_41 (lo := (-2147483648)) (hi := 2147483647) rfl rfl (by omega) (by omega) (fun I247 hI247 q248 p248 => ?_)
                have FI247 := gc_frs (W := fun q j => (q = 39 ∧ j = 3) ∨ (q = 39 ∧ j = 4) ∨ (q = 23 ∧ j = 5) ∨ (q = 23 ∧ j = 6) ∨ (q = 23 ∧ j = 7) ∨ (q = 23 ∧ j = 8) ∨ (q = 1 ∧ j = 17) ∨ (q = 1 ∧ j = 18) ∨ q = 20 ∨ (q = 39 ∧ j = 6) ∨ (q = 39 ∧ j = 7) ∨ q = 41 ∨ q = (t + 15) ∨ (q = t ∧ j = 11)) FI233 (Or.inr (Or.inr (Or.inr (Or.inr (Or.inr (Or.inr (Or.inr (Or.inr (Or.inr (Or.inr (Or.inr (Or.inl rfl)))))))))))) p248
                have t249 := p248 23 1 (fun h => absurd h.2 (by decide))
                have t250 := p248 23 5 (fun h => absurd h.2 (by decide))
                have t251 := p248 23 6 (fun h => absurd h.2 (by decide))
                have t252 := p248 23 7 (fun h => absurd h.2 (by decide))
                have t253 := p248 1 17 (fun h => absurd h.2 (by decide))
                have t254 := p248 4 1 (fun h => absurd h.2 (by decide))
                have t255 := p248 (t + 11) 1 (fun h => absurd h.2 (by decide))
                have t256 := p248 t 11 (fun h => absurd h.2 (by decide))
                have t257 := p248 39 2 (fun h => absurd h.1 (by decide))
                have KLT_I247 := gc_LT_fr KLT_I233 (p248 23 5 (fun h => absurd h.2 (by decide))) (p248 23 6 (fun h => absurd h.2 (by decide))) (p248 23 7 (fun h => absurd h.2 (by decide))) (fun k => p248 24 k (fun h => absurd h.1 (by decide)))
                have KTK_I247 := gc_TK_fr KTK_I233 (p248 23 1 (fun h => absurd h.2 (by decide))) (p248 23 5 (fun h => absurd h.2 (by decide))) (p248 23 6 (fun h => absurd h.2 (by decide))) (p248 23 7 (fun h => absurd h.2 (by decide)))
                have KRW_I247 := gc_row_st KRW_I233 p248 q248 (by unfold gc_fW; omega)
                show gv_X _ _ (168, [(1, .inl z99), (0, .inr (.inr (some 39)))], [], sh, gc_h sh I247 J234 A)
                refine gv_run 1 true hD (pc' := 169) (lv' := [(1, .inl z99), (0, .inr (.inr (some 39)))]) (st' := [.inr (.inr (some 39))]) (h' := gc_h sh I247 J234 A) (C := (True ∧ True)) rfl ⟨trivial, trivial⟩ ?_
                refine gv_get hD rfl rfl S_39 ⟨by decide, B_39⟩ (gc_hA S_39 rfl A_39_10) ?_
                show gv_X _ _ (172, [(1, .inl z99), (0, .inr (.inr (some 39)))], [.inr (.inr (some 41))], sh, gc_h sh I247 J234 A)
                refine gv_run 2 true hD (pc' := 174) (lv' := [(1, .inl z99), (0, .inr (.inr (some 39)))]) (st' := [.inr (.inr (some 39)), .inl 3, .inr (.inr (some 41))]) (h' := gc_h sh I247 J234 A) (C := ((True ∧ True) ∧ True)) rfl ⟨⟨trivial, trivial⟩, trivial⟩ ?_
                have f258 := (show 0 ≤ I247 39 7 ∧ I247 39 7 ≤ 10000 from gc_in hI247 R_39 rfl rfl)
                refine gv_get hD rfl rfl S_39 ⟨by decide, B_39⟩ (gc_hI S_39 rfl) ?_
                show gv_X _ _ (177, [(1, .inl z99), (0, .inr (.inr (some 39)))], [.inl (I247 39 7), .inl 3, .inr (.inr (some 41))], sh, gc_h sh I247 J234 A)
                refine gv_iast hD rfl S_41 ⟨by decide, B_41⟩ ⟨by omega, by omega⟩ ?_
                refine gc_st (k := 3) hI247 S_41 rfl R_41 (lo := (-2147483648)) (hi := 2147483647) rfl rfl (by omega) (by omega) (fun I259 hI259 q260 p260 => ?_)
                have FI259 := gc_frs (W := fun q j => (q = 39 ∧ j = 3) ∨ (q = 39 ∧ j = 4) ∨ (q = 23 ∧ j = 5) ∨ (q = 23 ∧ j = 6) ∨ (q = 23 ∧ j = 7) ∨ (q = 23 ∧ j = 8) ∨ (q = 1 ∧ j = 17) ∨ (q = 1 ∧ j = 18) ∨ q = 20 ∨ (q = 39 ∧ j = 6) ∨ (q = 39 ∧ j = 7) ∨ q = 41 ∨ q = (t + 15) ∨ (q = t ∧ j = 11)) FI247 (Or.inr (Or.inr (Or.inr (Or.inr (Or.inr (Or.inr (Or.inr (Or.inr (Or.inr (Or.inr (Or.inr (Or.inl rfl)))))))))))) p260
                have t261 := p260 23 1 (fun h => absurd h.2 (by decide))
                have t262 := p260 23 5 (fun h => absurd h.2 (by decide))
                have t263 := p260 23 6 (fun h => absurd h.2 (by decide))
                have t264 := p260 23 7 (fun h => absurd h.2 (by decide))
                have t265 := p260 1 17 (fun h => absurd h.2 (by decide))
                have t266 := p260 4 1 (fun h => absurd h.2 (by decide))
                have t267 := p260 (t + 11) 1 (fun h => absurd h.2 (by decide))
                have t268 := p260 t 11 (fun h => absurd h.2 (by decide))
                have t269 := p260 39 2 (fun h => absurd h.2 (by decide))
                have KLT_I259 := gc_LT_fr KLT_I247 (p260 23 5 (fun h => absurd h.2 (by decide))) (p260 23 6 (fun h => absurd h.2 (by decide))) (p260 23 7 (fun h => absurd h.2 (by decide))) (fun k => p260 24 k (fun h => absurd h.1 (by decide)))
                have KTK_I259 := gc_TK_fr KTK_I247 (p260 23 1 (fun h => absurd h.2 (by decide))) (p260 23 5 (fun h => absurd h.2 (by decide))) (p260 23 6 (fun h => absurd h.2 (by decide))) (p260 23 7 (fun h => absurd h.2 (by decide)))
                have KRW_I259 := gc_row_st KRW_I247 p260 q260 (by unfold gc_fW; omega)
                show gv_X _ _ (178, [(1, .inl z99), (0, .inr (.inr (some 39)))], [], sh, gc_h sh I259 J234 A)
                refine gv_run 2 true hD (pc' := 180) (lv' := [(1, .inl z99), (0, .inr (.inr (some 39)))]) (st' := [.inr (.inr (some 39)), .inr (.inr (some 39))]) (h' := gc_h sh I259 J234 A) (C := ((True ∧ True) ∧ True)) rfl ⟨⟨trivial, trivial⟩, trivial⟩ ?_
                refine gv_get hD rfl rfl S_39 ⟨by decide, B_39⟩ (gc_h5 (t := t) S_39 rfl (by omega)) ?_
                show gv_X _ _ (183, [(1, .inl z99), (0, .inr (.inr (some 39)))], [.inr (.inr (some t)), .inr (.inr (some 39))], sh, gc_h sh I259 J234 A)
                have f270 := (show 0 ≤ I259 t 11 ∧ I259 t 11 ≤ 64 from gc_in hI259 R_t rfl rfl)
                refine gv_get hD rfl rfl S_t ⟨by decide, B_t⟩ (gc_hI S_t rfl) ?_
                show gv_X _ _ (186, [(1, .inl z99), (0, .inr (.inr (some 39)))], [.inl (I259 t 11), .inr (.inr (some 39))], sh, gc_h sh I259 J234 A)
                refine gv_run 1 true hD (pc' := 188) (lv' := [(1, .inl z99), (0, .inr (.inr (some 39)))]) (st' := [.inl 64, .inl (I259 t 11), .inr (.inr (some 39))]) (h' := gc_h sh I259 J234 A) (C := (True ∧ True)) rfl ⟨trivial, trivial⟩ ?_
                refine gv_icmp_lt (t := 195) hD rfl rfl ⟨⟨by omega, by omega⟩, ⟨by omega, by omega⟩⟩ (fun c271 => ?_) (fun c271 => ?_)
                · show gv_X _ _ (195, [(1, .inl z99), (0, .inr (.inr (some 39)))], [.inr (.inr (some 39))], sh, gc_h sh I259 J234 A)
                  refine gv_run 1 true hD (pc' := 196) (lv' := [(1, .inl z99), (0, .inr (.inr (some 39)))]) (st' := [.inl 0, .inr (.inr (some 39))]) (h' := gc_h sh I259 J234 A) (C := (True ∧ True)) rfl ⟨trivial, trivial⟩ ?_
                  refine gv_pick [1] rfl ?_
                  exact L196 I259 J234 0 hI259 FI259 FJ234 KLT_I259 KTK_I259 KRW_I259 (by omega)
                · show gv_X _ _ (191, [(1, .inl z99), (0, .inr (.inr (some 39)))], [.inr (.inr (some 39))], sh, gc_h sh I259 J234 A)
                  refine gv_run 2 true hD (pc' := 196) (lv' := [(1, .inl z99), (0, .inr (.inr (some 39)))]) (st' := [.inl 1, .inr (.inr (some 39))]) (h' := gc_h sh I259 J234 A) (C := ((True ∧ True) ∧ True)) rfl ⟨⟨trivial, trivial⟩, trivial⟩ ?_
                  refine gv_pick [1] rfl ?_
                  exact L196 I259 J234 1 hI259 FI259 FJ234 KLT_I259 KTK_I259 KRW_I259 (by omega)
              · show gv_X _ _ (156, [(1, .inl z99), (0, .inr (.inr (some 39)))], [], sh, gc_h sh I233 J234 A)
                refine gv_pick [] rfl ?_
                exact L156 I233 J234 hI233 FI233 FJ234 KLT_I233 KTK_I233 (by omega)
      · show gv_X _ _ (80, [(1, .inl z99), (0, .inr (.inr (some 39)))], [], sh, gc_h sh I118 J106 A)
        refine gv_run 1 true hD (pc' := 81) (lv' := [(1, .inl z99), (0, .inr (.inr (some 39)))]) (st' := [.inl 0]) (h' := gc_h sh I118 J106 A) (C := (True ∧ True)) rfl ⟨trivial, trivial⟩ ?_
        exact gv_zret hD rfl (by omega) ⟨I118, J106, rfl, hI118, FI118, FJ106, KLT_I118, KTK_I118, ⟨_, rfl, by omega⟩⟩
    · show gv_X _ _ (46, [(1, .inl z99), (0, .inr (.inr (some 39)))], [], sh, gc_h sh I87 J A)
      refine gv_run 3 true hD (pc' := 49) (lv' := [(1, .inl z99), (0, .inr (.inr (some 39)))]) (st' := [.inr (.inr (some 39)), .inl 5, .inr (.inr (some 39))]) (h' := gc_h sh I87 J A) (C := (((True ∧ True) ∧ True) ∧ True)) rfl ⟨⟨⟨trivial, trivial⟩, trivial⟩, trivial⟩ ?_
      refine gv_get hD rfl rfl S_39 ⟨by decide, B_39⟩ (gc_hA S_39 rfl A_39_1) ?_
      show gv_X _ _ (52, [(1, .inl z99), (0, .inr (.inr (some 39)))], [.inr (.inr (some 23)), .inl 5, .inr (.inr (some 39))], sh, gc_h sh I87 J A)
      have f272 := (show 0 ≤ I87 23 5 ∧ I87 23 5 ≤ 1000 from gc_in hI87 R_23 rfl rfl)
      refine gv_get hD rfl rfl S_23 ⟨by decide, B_23⟩ (gc_hI S_23 rfl) ?_
      show gv_X _ _ (55, [(1, .inl z99), (0, .inr (.inr (some 39)))], [.inl (I87 23 5), .inl 5, .inr (.inr (some 39))], sh, gc_h sh I87 J A)
      obtain ⟨r273, h273, E273, P273⟩ := d_X6_wrong (ws0 := ws0) (tb := tb) hws htb sh ro I87 J A hI87  5 (I87 23 5) hb   ⟨by omega, by omega⟩ ⟨by omega, by omega⟩  
      obtain ⟨I274, J275, rfl, hI274, g273, k273, ⟨z273, rfl, q273⟩⟩ := P273
      have FI274 := gc_frc (W := fun q j => (q = 39 ∧ j = 3) ∨ (q = 39 ∧ j = 4) ∨ (q = 23 ∧ j = 5) ∨ (q = 23 ∧ j = 6) ∨ (q = 23 ∧ j = 7) ∨ (q = 23 ∧ j = 8) ∨ (q = 1 ∧ j = 17) ∨ (q = 1 ∧ j = 18) ∨ q = 20 ∨ (q = 39 ∧ j = 6) ∨ (q = 39 ∧ j = 7) ∨ q = 41 ∨ q = (t + 15) ∨ (q = t ∧ j = 11)) (V := fun q j => (q = 39 ∧ j = 3) ∨ (q = 39 ∧ j = 4)) FI87 (fun q j h => (h.elim (fun h => (Or.inl h)) (fun h => (Or.inr (Or.inl h))))) g273
      have t276 := (g273 23 1).resolve_left (fun h => h.elim (fun h => absurd h.2 (by decide)) (fun h => absurd h.2 (by decide)))
      have t277 := (g273 23 5).resolve_left (fun h => h.elim (fun h => absurd h.2 (by decide)) (fun h => absurd h.2 (by decide)))
      have t278 := (g273 23 6).resolve_left (fun h => h.elim (fun h => absurd h.2 (by decide)) (fun h => absurd h.2 (by decide)))
      have t279 := (g273 23 7).resolve_left (fun h => h.elim (fun h => absurd h.2 (by decide)) (fun h => absurd h.2 (by decide)))
      have t280 := (g273 1 17).resolve_left (fun h => h.elim (fun h => absurd h.2 (by decide)) (fun h => absurd h.2 (by decide)))
      have t281 := (g273 4 1).resolve_left (fun h => h.elim (fun h => absurd h.2 (by decide)) (fun h => absurd h.2 (by decide)))
      have t282 := (g273 (t + 11) 1).resolve_left (fun h => h.elim (fun h => absurd h.2 (by decide)) (fun h => absurd h.2 (by decide)))
      have t283 := (g273 t 11).resolve_left (fun h => h.elim (fun h => absurd h.2 (by decide)) (fun h => absurd h.2 (by decide)))
      have t284 := (g273 39 2).resolve_left (fun h => h.elim (fun h => absurd h.2 (by decide)) (fun h => absurd h.2 (by decide)))
      obtain rfl : J = J275 := funext fun q => funext fun j => ((k273 q j).resolve_left id).symm
      have KLT_I274 := gc_LT_fr KLT_I87 ((g273 23 5).resolve_left (fun h => h.elim (fun h => absurd h.2 (by decide)) (fun h => absurd h.2 (by decide)))) ((g273 23 6).resolve_left (fun h => h.elim (fun h => absurd h.2 (by decide)) (fun h => absurd h.2 (by decide)))) ((g273 23 7).resolve_left (fun h => h.elim (fun h => absurd h.2 (by decide)) (fun h => absurd h.2 (by decide)))) (fun k => (g273 24 k).resolve_left (fun h => h.elim (fun h => absurd h.1 (by decide)) (fun h => absurd h.1 (by decide))))
      have KTK_I274 := gc_TK_fr KTK_I87 ((g273 23 1).resolve_left (fun h => h.elim (fun h => absurd h.2 (by decide)) (fun h => absurd h.2 (by decide)))) ((g273 23 5).resolve_left (fun h => h.elim (fun h => absurd h.2 (by decide)) (fun h => absurd h.2 (by decide)))) ((g273 23 6).resolve_left (fun h => h.elim (fun h => absurd h.2 (by decide)) (fun h => absurd h.2 (by decide)))) ((g273 23 7).resolve_left (fun h => h.elim (fun h => absurd h.2 (by decide)) (fun h => absurd h.2 (by decide))))
      refine gv_callV hD rfl (As := [.inl 5, .inl (I87 23 5)]) (st := []) rfl B_39 S_39 rfl (gc_lV6 hws rfl) (Nat.le_of_ble_eq_true rfl) (gz_Ev_mono (d := 1) (by decide) E273) ?_
      show gv_X _ _ (58, [(1, .inl z99), (0, .inr (.inr (some 39)))], [.inl z273], sh, gc_h sh I274 J A)
      exact gv_zret hD rfl (by omega) ⟨I274, J, rfl, hI274, FI274, FJ, KLT_I274, KTK_I274, ⟨_, rfl, by omega⟩⟩
  · show gv_X _ _ (14, [(0, .inr (.inr (some 39)))], [], sh, gc_h sh I87 J A)
    refine gv_run 1 true hD (pc' := 15) (lv' := [(0, .inr (.inr (some 39)))]) (st' := [.inl 0]) (h' := gc_h sh I87 J A) (C := (True ∧ True)) rfl ⟨trivial, trivial⟩ ?_
    exact gv_zret hD rfl (by omega) ⟨I87, J, rfl, hI87, FI87, FJ, KLT_I87, KTK_I87, ⟨_, rfl, by omega⟩⟩
