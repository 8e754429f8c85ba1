set_option maxHeartbeats 4000000 in
set_option maxRecDepth 100000 in
theorem d_X6_readStems_a {ws0 : List Cond} {tb : String → gz_T} (hws : gc_Ws ws0) (htb : gc_tbs tb) (sh : gz_Sh) (ro : Nat → Nat) (I : gr_I) (J : gr_J) (A : gc_A) (hI : gc_Inv ro I) (B : Int)  (hb : gc_Base sh ro A)  (x0 : B ≤ 1280 ∧ I 1 17 + I 23 1 ≤ B + I 23 5) (KLT_I : gc_LT I) (KTK_I : gc_TK I) (KRW_I : gc_row 41 11 gc_fW I) : ∃ r h', gz_Ev ws0 tb 3 (yX6_readStems, cX6_readStems, 2, (some .boolean)) [.inr (.inr (some 39))] sh (gc_h sh I J A) r sh h' 0 0 ∧ (∃ (I' : gr_I) (J' : gr_J), h' = gc_h sh I' J' A ∧ gc_Inv ro I' ∧ (∀ q j : Nat, ((q = 39 ∧ j = 3) ∨ (q = 39 ∧ j = 4) ∨ (q = 23 ∧ j = 5) ∨ (q = 23 ∧ j = 6) ∨ (q = 23 ∧ j = 7) ∨ (q = 23 ∧ j = 8) ∨ (q = 1 ∧ j = 17) ∨ (q = 1 ∧ j = 18) ∨ q = 20 ∨ (q = 41 ∧ (4 ≤ j))) ∨ I' q j = I q j) ∧ (∀ q j : Nat, ((q = 23 ∧ j = 9)) ∨ J' q j = J q j) ∧ gc_LT I' ∧ gc_TK I' ∧ gc_row 41 11 gc_fW I' ∧ (∃ z : Int, r = some (.inl z) ∧ 0 ≤ z ∧ z ≤ 1 ∧ (I' 23 1 = I 23 1) ∧ (I 23 5 ≤ I' 23 5) ∧ (B ≤ 1280 ∧ I' 1 17 + I' 23 1 ≤ B + I' 23 5))) := by
  have FI : ∀ q j : Nat, ((q = 39 ∧ j = 3) ∨ (q = 39 ∧ j = 4) ∨ (q = 23 ∧ j = 5) ∨ (q = 23 ∧ j = 6) ∨ (q = 23 ∧ j = 7) ∨ (q = 23 ∧ j = 8) ∨ (q = 1 ∧ j = 17) ∨ (q = 1 ∧ j = 18) ∨ q = 20 ∨ (q = 41 ∧ (4 ≤ j))) ∨ I q j = I q j := fun _ _ => Or.inr rfl
  have FJ : ∀ q j : Nat, ((q = 23 ∧ j = 9)) ∨ J q j = J q j := fun _ _ => Or.inr rfl
  have A_39_1 : A 39 1 = some 23 := gc_bA hb rfl
  have A_39_10 : A 39 10 = some 41 := gc_bA hb rfl
  have B_23 : 23 < 1000000 := by decide
  have B_39 : 39 < 1000000 := by decide
  have B_41 : 41 < 1000000 := by decide
  have R_1 : ro 1 = 22 := gc_bR hb (by decide) rfl
  have R_23 : ro 23 = 3 := gc_bR hb (by decide) rfl
  have R_41 : ro 41 = 0 := gc_bR hb (by decide) rfl
  have S_23 : sh[23]? = some (false, 9, 10) := gc_bS hb rfl
  have S_39 : sh[39]? = some (false, 6, 19) := gc_bS hb rfl
  have S_41 : sh[41]? = some (true, 1, 25) := gc_bS hb rfl
  have hD : gv_D (gc_E6 ws0 tb 2 (yX6_readStems, cX6_readStems, 2, (some .boolean)) kX6_readStems) := gq_ok oX6_readStems
  refine gc_ev6 (d := 2) (l := kX6_readStems) (Po := fun r h' => (∃ (I' : gr_I) (J' : gr_J), h' = gc_h sh I' J' A ∧ gc_Inv ro I' ∧ (∀ q j : Nat, ((q = 39 ∧ j = 3) ∨ (q = 39 ∧ j = 4) ∨ (q = 23 ∧ j = 5) ∨ (q = 23 ∧ j = 6) ∨ (q = 23 ∧ j = 7) ∨ (q = 23 ∧ j = 8) ∨ (q = 1 ∧ j = 17) ∨ (q = 1 ∧ j = 18) ∨ q = 20 ∨ (q = 41 ∧ (4 ≤ j))) ∨ I' q j = I q j) ∧ (∀ q j : Nat, ((q = 23 ∧ j = 9)) ∨ J' q j = J q j) ∧ gc_LT I' ∧ gc_TK I' ∧ gc_row 41 11 gc_fW I' ∧ (∃ z : Int, r = some (.inl z) ∧ 0 ≤ z ∧ z ≤ 1 ∧ (I' 23 1 = I 23 1) ∧ (I 23 5 ≤ I' 23 5) ∧ (B ≤ 1280 ∧ I' 1 17 + I' 23 1 ≤ B + I' 23 5)))) htb rfl (Nat.le_of_ble_eq_true rfl) ?_
  have t1 := gc_TK_mo KTK_I
  have f2 := (show 0 ≤ I 23 1 ∧ I 23 1 ≤ 1000 from gc_in hI R_23 rfl rfl)
  have f3 := (show 0 ≤ I 23 5 ∧ I 23 5 ≤ 1000 from gc_in hI R_23 rfl rfl)
  have f4 := (show 0 ≤ I 23 6 ∧ I 23 6 ≤ 1001 from gc_in hI R_23 rfl rfl)
  have f5 := (show 0 ≤ I 23 7 ∧ I 23 7 ≤ 125 from gc_in hI R_23 rfl rfl)
  have f6 := (show 0 ≤ I 1 17 ∧ I 1 17 ≤ 12000 from gc_in hI R_1 rfl rfl)
  have L2 : ∀ (n9 : Nat) (I7 : gr_I) (J8 : gr_J) (v1_9 : Int), (4 - v1_9).toNat < n9 → gc_Inv ro I7 → (∀ q j : Nat, ((q = 39 ∧ j = 3) ∨ (q = 39 ∧ j = 4) ∨ (q = 23 ∧ j = 5) ∨ (q = 23 ∧ j = 6) ∨ (q = 23 ∧ j = 7) ∨ (q = 23 ∧ j = 8) ∨ (q = 1 ∧ j = 17) ∨ (q = 1 ∧ j = 18) ∨ q = 20 ∨ (q = 41 ∧ (4 ≤ j))) ∨ I7 q j = I q j) → (∀ q j : Nat, ((q = 23 ∧ j = 9)) ∨ J8 q j = J q j) → gc_LT I7 → gc_TK I7 → gc_row 41 11 gc_fW I7 → ((0 ≤ v1_9 ∧ v1_9 ≤ 3) ∧ (I7 23 1 = I 23 1) ∧ (I 23 5 ≤ I7 23 5) ∧ (B ≤ 1280 ∧ I7 1 17 + I7 23 1 ≤ B + I7 23 5)) → gv_X (gc_E6 ws0 tb 2 (yX6_readStems, cX6_readStems, 2, (some .boolean)) kX6_readStems) (gv_Q cX6_readStems (some .boolean) sh (fun r h' => (∃ (I' : gr_I) (J' : gr_J), h' = gc_h sh I' J' A ∧ gc_Inv ro I' ∧ (∀ q j : Nat, ((q = 39 ∧ j = 3) ∨ (q = 39 ∧ j = 4) ∨ (q = 23 ∧ j = 5) ∨ (q = 23 ∧ j = 6) ∨ (q = 23 ∧ j = 7) ∨ (q = 23 ∧ j = 8) ∨ (q = 1 ∧ j = 17) ∨ (q = 1 ∧ j = 18) ∨ q = 20 ∨ (q = 41 ∧ (4 ≤ j))) ∨ I' q j = I q j) ∧ (∀ q j : Nat, ((q = 23 ∧ j = 9)) ∨ J' q j = J q j) ∧ gc_LT I' ∧ gc_TK I' ∧ gc_row 41 11 gc_fW I' ∧ (∃ z : Int, r = some (.inl z) ∧ 0 ≤ z ∧ z ≤ 1 ∧ (I' 23 1 = I 23 1) ∧ (I 23 5 ≤ I' 23 5) ∧ (B ≤ 1280 ∧ I' 1 17 + I' 23 1 ≤ B + I' 23 5))))) (2, [(0, .inr (.inr (some 39))), (1, .inl v1_9)], [], sh, gc_h sh I7 J8 A) := by
    intro n9
    induction n9 with
    | zero => intro I7 J8 v1_9 hn; omega
    | succ n9 ih2 =>
      intro I7 J8 v1_9 hn hI7 FI7 FJ8 KLT_I7 KTK_I7 KRW_I7 m_9
      obtain ⟨hv1_9, e0_9, e1_9, e2_9⟩ := m_9
      have t10 := gc_TK_mo KTK_I7
      have f11 := (show 0 ≤ I7 23 1 ∧ I7 23 1 ≤ 1000 from gc_in hI7 R_23 rfl rfl)
      have f12 := (show 0 ≤ I7 23 5 ∧ I7 23 5 ≤ 1000 from gc_in hI7 R_23 rfl rfl)
      have f13 := (show 0 ≤ I7 23 6 ∧ I7 23 6 ≤ 1001 from gc_in hI7 R_23 rfl rfl)
      have f14 := (show 0 ≤ I7 23 7 ∧ I7 23 7 ≤ 125 from gc_in hI7 R_23 rfl rfl)
      have f15 := (show 0 ≤ I7 1 17 ∧ I7 1 17 ≤ 12000 from gc_in hI7 R_1 rfl rfl)
      have L64 : ((0 ≤ v1_9 ∧ v1_9 ≤ 3) ∧ (I7 23 1 = I 23 1) ∧ (I 23 5 ≤ I7 23 5) ∧ (B ≤ 1280 ∧ I7 1 17 + I7 23 1 ≤ B + I7 23 5)) → gv_X (gc_E6 ws0 tb 2 (yX6_readStems, cX6_readStems, 2, (some .boolean)) kX6_readStems) (gv_Q cX6_readStems (some .boolean) sh (fun r h' => (∃ (I' : gr_I) (J' : gr_J), h' = gc_h sh I' J' A ∧ gc_Inv ro I' ∧ (∀ q j : Nat, ((q = 39 ∧ j = 3) ∨ (q = 39 ∧ j = 4) ∨ (q = 23 ∧ j = 5) ∨ (q = 23 ∧ j = 6) ∨ (q = 23 ∧ j = 7) ∨ (q = 23 ∧ j = 8) ∨ (q = 1 ∧ j = 17) ∨ (q = 1 ∧ j = 18) ∨ q = 20 ∨ (q = 41 ∧ (4 ≤ j))) ∨ I' q j = I q j) ∧ (∀ q j : Nat, ((q = 23 ∧ j = 9)) ∨ J' q j = J q j) ∧ gc_LT I' ∧ gc_TK I' ∧ gc_row 41 11 gc_fW I' ∧ (∃ z : Int, r = some (.inl z) ∧ 0 ≤ z ∧ z ≤ 1 ∧ (I' 23 1 = I 23 1) ∧ (I 23 5 ≤ I' 23 5) ∧ (B ≤ 1280 ∧ I' 1 17 + I' 23 1 ≤ B + I' 23 5))))) (64, [(0, .inr (.inr (some 39))), (1, .inl v1_9)], [], sh, gc_h sh I7 J8 A) := by
        intro m_16
        obtain ⟨hv1_9_16, e0_16, e1_16, e2_16⟩ := m_16
        have t17 := gc_TK_mo KTK_I7
        have f18 := (show 0 ≤ I7 23 1 ∧ I7 23 1 ≤ 1000 from gc_in hI7 R_23 rfl rfl)
        have f19 := (show 0 ≤ I7 23 5 ∧ I7 23 5 ≤ 1000 from gc_in hI7 R_23 rfl rfl)
        have f20 := (show 0 ≤ I7 23 6 ∧ I7 23 6 ≤ 1001 from gc_in hI7 R_23 rfl rfl)
        have f21 := (show 0 ≤ I7 23 7 ∧ I7 23 7 ≤ 125 from gc_in hI7 R_23 rfl rfl)
        have f22 := (show 0 ≤ I7 1 17 ∧ I7 1 17 ≤ 12000 from gc_in hI7 R_1 rfl rfl)
        have L80 : ∀ (I23 : gr_I) (J24 : gr_J) (s0_25 : Int), gc_Inv ro I23 → (∀ q j : Nat, ((q = 39 ∧ j = 3) ∨ (q = 39 ∧ j = 4) ∨ (q = 23 ∧ j = 5) ∨ (q = 23 ∧ j = 6) ∨ (q = 23 ∧ j = 7) ∨ (q = 23 ∧ j = 8) ∨ (q = 1 ∧ j = 17) ∨ (q = 1 ∧ j = 18) ∨ q = 20 ∨ (q = 41 ∧ (4 ≤ j))) ∨ I23 q j = I q j) → (∀ q j : Nat, ((q = 23 ∧ j = 9)) ∨ J24 q j = J q j) → gc_LT I23 → gc_TK I23 → gc_row 41 11 gc_fW I23 → ((0 ≤ s0_25 ∧ s0_25 ≤ 1) ∧ (I23 23 1 = I 23 1) ∧ (I 23 5 ≤ I23 23 5) ∧ (B ≤ 1280 ∧ I23 1 17 + I23 23 1 ≤ B + I23 23 5)) → gv_X (gc_E6 ws0 tb 2 (yX6_readStems, cX6_readStems, 2, (some .boolean)) kX6_readStems) (gv_Q cX6_readStems (some .boolean) sh (fun r h' => (∃ (I' : gr_I) (J' : gr_J), h' = gc_h sh I' J' A ∧ gc_Inv ro I' ∧ (∀ q j : Nat, ((q = 39 ∧ j = 3) ∨ (q = 39 ∧ j = 4) ∨ (q = 23 ∧ j = 5) ∨ (q = 23 ∧ j = 6) ∨ (q = 23 ∧ j = 7) ∨ (q = 23 ∧ j = 8) ∨ (q = 1 ∧ j = 17) ∨ (q = 1 ∧ j = 18) ∨ q = 20 ∨ (q = 41 ∧ (4 ≤ j))) ∨ I' q j = I q j) ∧ (∀ q j : Nat, ((q = 23 ∧ j = 9)) ∨ J' q j = J q j) ∧ gc_LT I' ∧ gc_TK I' ∧ gc_row 41 11 gc_fW I' ∧ (∃ z : Int, r = some (.inl z) ∧ 0 ≤ z ∧ z ≤ 1 ∧ (I' 23 1 = I 23 1) ∧ (I 23 5 ≤ I' 23 5) ∧ (B ≤ 1280 ∧ I' 1 17 + I' 23 1 ≤ B + I' 23 5))))) (80, [], [.inl s0_25], sh, gc_h sh I23 J24 A) := by
          intro I23 J24 s0_25 hI23 FI23 FJ24 KLT_I23 KTK_I23 KRW_I23 m_25
          clear hv1_9_16 e0_16 e1_16 e2_16 t17 f18 f19 f20 f21 f22 hv1_9 e0_9 e1_9 e2_9 t10 f11 f12 f13 f14 f15
          obtain ⟨hs0_25, e0_25, e1_25, e2_25⟩ := m_25
          have t26 := gc_TK_mo KTK_I23
          have f27 := (show 0 ≤ I23 23 1 ∧ I23 23 1 ≤ 1000 from gc_in hI23 R_23 rfl rfl)
          have f28 := (show 0 ≤ I23 23 5 ∧ I23 23 5 ≤ 1000 from gc_in hI23 R_23 rfl rfl)
          have f29 := (show 0 ≤ I23 23 6 ∧ I23 23 6 ≤ 1001 from gc_in hI23 R_23 rfl rfl)
          have f30 := (show 0 ≤ I23 23 7 ∧ I23 23 7 ≤ 125 from gc_in hI23 R_23 rfl rfl)
          have f31 := (show 0 ≤ I23 1 17 ∧ I23 1 17 ≤ 12000 from gc_in hI23 R_1 rfl rfl)
          exact gv_zret hD rfl (by omega) ⟨I23, J24, rfl, hI23, FI23, FJ24, KLT_I23, KTK_I23, KRW_I23, ⟨_, rfl, by omega⟩⟩
        refine gv_run 1 true hD (pc' := 65) (lv' := [(0, .inr (.inr (some 39))), (1, .inl v1_9)]) (st' := [.inr (.inr (some 39))]) (h' := gc_h sh I7 J8 A) (C := (True ∧ True)) rfl ⟨trivial, trivial⟩ ?_
        refine gv_get hD rfl rfl S_39 ⟨by decide, B_39⟩ (gc_hA S_39 rfl A_39_10) ?_
        show gv_X _ _ (68, [(0, .inr (.inr (some 39))), (1, .inl v1_9)], [.inr (.inr (some 41))], sh, gc_h sh I7 J8 A)
        refine gv_run 2 true hD (pc' := 70) (lv' := [(0, .inr (.inr (some 39))), (1, .inl v1_9)]) (st' := [.inl v1_9, .inl 4, .inr (.inr (some 41))]) (h' := gc_h sh I7 J8 A) (C := ((True ∧ True) ∧ True)) rfl ⟨⟨trivial, trivial⟩, trivial⟩ ?_
        refine gv_iast hD rfl S_41 ⟨by decide, B_41⟩ ⟨by omega, by omega⟩ ?_
        refine gc_st (k := 4) hI7 S_41 rfl R_41 (lo := (-2147483648)) (hi := 2147483647) rfl rfl (by omega) (by omega) (fun I32 hI32 q33 p33 => ?_)
        have FI32 := gc_frs (W := fun q j => (q = 39 ∧ j = 3) ∨ (q = 39 ∧ j = 4) ∨ (q = 23 ∧ j = 5) ∨ (q = 23 ∧ j = 6) ∨ (q = 23 ∧ j = 7) ∨ (q = 23 ∧ j = 8) ∨ (q = 1 ∧ j = 17) ∨ (q = 1 ∧ j = 18) ∨ q = 20 ∨ (q = 41 ∧ (4 ≤ j))) FI7 (Or.inr (Or.inr (Or.inr (Or.inr (Or.inr (Or.inr (Or.inr (Or.inr (Or.inr ⟨rfl, by omega⟩))))))))) p33
        have t34 := p33 23 1 (fun h => absurd h.2 (by decide))
        have t35 := p33 23 5 (fun h => absurd h.2 (by decide))
        have t36 := p33 23 6 (fun h => absurd h.2 (by decide))
        have t37 := p33 23 7 (fun h => absurd h.2 (by decide))
        have t38 := p33 1 17 (fun h => absurd h.2 (by decide))
        have KLT_I32 := gc_LT_fr KLT_I7 (p33 23 5 (fun h => absurd h.2 (by decide))) (p33 23 6 (fun h => absurd h.2 (by decide))) (p33 23 7 (fun h => absurd h.2 (by decide))) (fun k => p33 24 k (fun h => absurd h.1 (by decide)))
        have KTK_I32 := gc_TK_fr KTK_I7 (p33 23 1 (fun h => absurd h.2 (by decide))) (p33 23 5 (fun h => absurd h.2 (by decide))) (p33 23 6 (fun h => absurd h.2 (by decide))) (p33 23 7 (fun h => absurd h.2 (by decide)))
        have KRW_I32 := gc_row_st KRW_I7 p33 q33 (by unfold gc_fW; omega)
        show gv_X _ _ (71, [(0, .inr (.inr (some 39))), (1, .inl v1_9)], [], sh, gc_h sh I32 J8 A)
        refine gv_run 1 true hD (pc' := 72) (lv' := [(0, .inr (.inr (some 39))), (1, .inl v1_9)]) (st' := [.inl v1_9]) (h' := gc_h sh I32 J8 A) (C := (True ∧ True)) rfl ⟨trivial, trivial⟩ ?_
        refine gv_if_le (t := 79) hD rfl rfl ⟨by omega, by omega⟩ (fun c39 => ?_) (fun c39 => ?_)
        · show gv_X _ _ (79, [(0, .inr (.inr (some 39))), (1, .inl v1_9)], [], sh, gc_h sh I32 J8 A)
          refine gv_run 1 true hD (pc' := 80) (lv' := [(0, .inr (.inr (some 39))), (1, .inl v1_9)]) (st' := [.inl 0]) (h' := gc_h sh I32 J8 A) (C := (True ∧ True)) rfl ⟨trivial, trivial⟩ ?_
          refine gv_pick [] rfl ?_
          exact L80 I32 J8 0 hI32 FI32 FJ8 KLT_I32 KTK_I32 KRW_I32 (by omega)
        · show gv_X _ _ (75, [(0, .inr (.inr (some 39))), (1, .inl v1_9)], [], sh, gc_h sh I32 J8 A)
          refine gv_run 2 true hD (pc' := 80) (lv' := [(0, .inr (.inr (some 39))), (1, .inl v1_9)]) (st' := [.inl 1]) (h' := gc_h sh I32 J8 A) (C := ((True ∧ True) ∧ True)) rfl ⟨⟨trivial, trivial⟩, trivial⟩ ?_
          refine gv_pick [] rfl ?_
          exact L80 I32 J8 1 hI32 FI32 FJ8 KLT_I32 KTK_I32 KRW_I32 (by omega)
      refine gv_run 2 true hD (pc' := 4) (lv' := [(0, .inr (.inr (some 39))), (1, .inl v1_9)]) (st' := [.inl 3, .inl v1_9]) (h' := gc_h sh I7 J8 A) (C := ((True ∧ True) ∧ True)) rfl ⟨⟨trivial, trivial⟩, trivial⟩ ?_
      refine gv_icmp_ge (t := 64) hD rfl rfl ⟨⟨by omega, by omega⟩, ⟨by omega, by omega⟩⟩ (fun c40 => ?_) (fun c40 => ?_)
      · show gv_X _ _ (64, [(0, .inr (.inr (some 39))), (1, .inl v1_9)], [], sh, gc_h sh I7 J8 A)
        exact L64 (by omega)
      · show gv_X _ _ (7, [(0, .inr (.inr (some 39))), (1, .inl v1_9)], [], sh, gc_h sh I7 J8 A)
        refine gv_run 1 true hD (pc' := 8) (lv' := [(0, .inr (.inr (some 39))), (1, .inl v1_9)]) (st' := [.inr (.inr (some 39))]) (h' := gc_h sh I7 J8 A) (C := (True ∧ True)) rfl ⟨trivial, trivial⟩ ?_
        refine gv_get hD rfl rfl S_39 ⟨by decide, B_39⟩ (gc_hA S_39 rfl A_39_1) ?_
        show gv_X _ _ (11, [(0, .inr (.inr (some 39))), (1, .inl v1_9)], [.inr (.inr (some 23))], sh, gc_h sh I7 J8 A)
        have f41 := (show 0 ≤ I7 23 7 ∧ I7 23 7 ≤ 125 from gc_in hI7 R_23 rfl rfl)
        refine gv_get hD rfl rfl S_23 ⟨by decide, B_23⟩ (gc_hI S_23 rfl) ?_
        show gv_X _ _ (14, [(0, .inr (.inr (some 39))), (1, .inl v1_9)], [.inl (I7 23 7)], sh, gc_h sh I7 J8 A)
        refine gv_run 1 true hD (pc' := 15) (lv' := [(0, .inr (.inr (some 39))), (1, .inl v1_9)]) (st' := [.inl 3, .inl (I7 23 7)]) (h' := gc_h sh I7 J8 A) (C := (True ∧ True)) rfl ⟨trivial, trivial⟩ ?_
        refine gv_icmp_ne (t := 64) hD rfl rfl ⟨⟨by omega, by omega⟩, ⟨by omega, by omega⟩⟩ (fun c42 => ?_) (fun c42 => ?_)
        · show gv_X _ _ (64, [(0, .inr (.inr (some 39))), (1, .inl v1_9)], [], sh, gc_h sh I7 J8 A)
          exact L64 (by omega)
        · show gv_X _ _ (18, [(0, .inr (.inr (some 39))), (1, .inl v1_9)], [], sh, gc_h sh I7 J8 A)
          refine gv_run 1 true hD (pc' := 19) (lv' := [(0, .inr (.inr (some 39))), (1, .inl v1_9)]) (st' := [.inr (.inr (some 39))]) (h' := gc_h sh I7 J8 A) (C := (True ∧ True)) rfl ⟨trivial, trivial⟩ ?_
          refine gv_get hD rfl rfl S_39 ⟨by decide, B_39⟩ (gc_hA S_39 rfl A_39_10) ?_
          show gv_X _ _ (22, [(0, .inr (.inr (some 39))), (1, .inl v1_9)], [.inr (.inr (some 41))], sh, gc_h sh I7 J8 A)
          refine gv_run 6 true hD (pc' := 28) (lv' := [(0, .inr (.inr (some 39))), (1, .inl v1_9)]) (st' := [.inr (.inr (some 39)), .inl (5 + (2 * v1_9)), .inr (.inr (some 41))]) (h' := gc_h sh I7 J8 A) (C := ((((((True ∧ True) ∧ True) ∧ True) ∧ True) ∧ True) ∧ True)) rfl ⟨⟨⟨⟨⟨⟨trivial, trivial⟩, trivial⟩, trivial⟩, trivial⟩, trivial⟩, trivial⟩ ?_
          obtain ⟨r43, h43, E43, P43⟩ := d_X6_keepLetters (ws0 := ws0) (tb := tb) hws htb sh ro I7 J8 A hI7   hb    (by omega) KLT_I7 KTK_I7
          obtain ⟨I44, J45, rfl, hI44, g43, k43, KLT_I44, KTK_I44, ⟨z43, rfl, q43⟩⟩ := P43
          have FI44 := gc_frc (W := fun q j => (q = 39 ∧ j = 3) ∨ (q = 39 ∧ j = 4) ∨ (q = 23 ∧ j = 5) ∨ (q = 23 ∧ j = 6) ∨ (q = 23 ∧ j = 7) ∨ (q = 23 ∧ j = 8) ∨ (q = 1 ∧ j = 17) ∨ (q = 1 ∧ j = 18) ∨ q = 20 ∨ (q = 41 ∧ (4 ≤ j))) (V := fun q j => (q = 1 ∧ j = 17) ∨ (q = 1 ∧ j = 18) ∨ q = 20) FI7 (fun q j h => (h.elim (fun h => (Or.inr (Or.inr (Or.inr (Or.inr (Or.inr (Or.inr (Or.inl h)))))))) (fun h => (h.elim (fun h => (Or.inr (Or.inr (Or.inr (Or.inr (Or.inr (Or.inr (Or.inr (Or.inl h))))))))) (fun h => (Or.inr (Or.inr (Or.inr (Or.inr (Or.inr (Or.inr (Or.inr (Or.inr (Or.inl h)))))))))))))) g43
          have t46 := (g43 23 1).resolve_left (fun h => h.elim (fun h => absurd h.2 (by decide)) (fun h => h.elim (fun h => absurd h.2 (by decide)) (fun h => absurd h (by decide))))
          have t47 := (g43 23 5).resolve_left (fun h => h.elim (fun h => absurd h.2 (by decide)) (fun h => h.elim (fun h => absurd h.2 (by decide)) (fun h => absurd h (by decide))))
          have t48 := (g43 23 6).resolve_left (fun h => h.elim (fun h => absurd h.2 (by decide)) (fun h => h.elim (fun h => absurd h.2 (by decide)) (fun h => absurd h (by decide))))
          have t49 := (g43 23 7).resolve_left (fun h => h.elim (fun h => absurd h.2 (by decide)) (fun h => h.elim (fun h => absurd h.2 (by decide)) (fun h => absurd h (by decide))))
          have f50 := (show 0 ≤ I44 1 17 ∧ I44 1 17 ≤ 12000 from gc_in hI44 R_1 rfl rfl)
          obtain rfl : J8 = J45 := funext fun q => funext fun j => ((k43 q j).resolve_left id).symm
          have KRW_I44 := gc_row_fr KRW_I7 (fun k => (g43 41 k).resolve_left (fun h => h.elim (fun h => absurd h.1 (by decide)) (fun h => h.elim (fun h => absurd h.1 (by decide)) (fun h => absurd h (by decide)))))
          refine gv_callV hD rfl (As := []) (st := [.inl (5 + (2 * v1_9)), .inr (.inr (some 41))]) rfl B_39 S_39 rfl (gc_lV6 hws rfl) (Nat.le_of_ble_eq_true rfl) (gz_Ev_mono (d := 2) (by decide) E43) ?_
          show gv_X _ _ (31, [(0, .inr (.inr (some 39))), (1, .inl v1_9)], [.inl z43, .inl (5 + (2 * v1_9)), .inr (.inr (some 41))], sh, gc_h sh I44 J8 A)
          refine gv_iast hD rfl S_41 ⟨by decide, B_41⟩ ⟨by omega, by omega⟩ ?_
          refine gc_st hI44 S_41 rfl R_41 (lo := (-2147483648)) (hi := 2147483647) rfl rfl (by omega) (by omega) (fun I51 hI51 q52 p52 => ?_)
          have FI51 := gc_frs (W := fun q j => (q = 39 ∧ j = 3) ∨ (q = 39 ∧ j = 4) ∨ (q = 23 ∧ j = 5) ∨ (q = 23 ∧ j = 6) ∨ (q = 23 ∧ j = 7) ∨ (q = 23 ∧ j = 8) ∨ (q = 1 ∧ j = 17) ∨ (q = 1 ∧ j = 18) ∨ q = 20 ∨ (q = 41 ∧ (4 ≤ j))) FI44 (Or.inr (Or.inr (Or.inr (Or.inr (Or.inr (Or.inr (Or.inr (Or.inr (Or.inr ⟨rfl, by omega⟩))))))))) p52
          have t53 := p52 23 1 (fun h => absurd h.1 (by decide))
          have t54 := p52 23 5 (fun h => absurd h.1 (by decide))
          have t55 := p52 23 6 (fun h => absurd h.1 (by decide))
          have t56 := p52 23 7 (fun h => absurd h.1 (by decide))
          have t57 := p52 1 17 (fun h => absurd h.1 (by decide))
          have KLT_I51 := gc_LT_fr KLT_I44 (p52 23 5 (fun h => absurd h.1 (by decide))) (p52 23 6 (fun h => absurd h.1 (by decide))) (p52 23 7 (fun h => absurd h.1 (by decide))) (fun k => p52 24 k (fun h => absurd h.1 (by decide)))
          have KTK_I51 := gc_TK_fr KTK_I44 (p52 23 1 (fun h => absurd h.1 (by decide))) (p52 23 5 (fun h => absurd h.1 (by decide))) (p52 23 6 (fun h => absurd h.1 (by decide))) (p52 23 7 (fun h => absurd h.1 (by decide)))
          have KRW_I51 := gc_row_st KRW_I44 p52 q52 (by unfold gc_fW; omega)
          show gv_X _ _ (32, [(0, .inr (.inr (some 39))), (1, .inl v1_9)], [], sh, gc_h sh I51 J8 A)
          refine gv_run 1 true hD (pc' := 33) (lv' := [(0, .inr (.inr (some 39))), (1, .inl v1_9)]) (st' := [.inr (.inr (some 39))]) (h' := gc_h sh I51 J8 A) (C := (True ∧ True)) rfl ⟨trivial, trivial⟩ ?_
          refine gv_get hD rfl rfl S_39 ⟨by decide, B_39⟩ (gc_hA S_39 rfl A_39_10) ?_
          show gv_X _ _ (36, [(0, .inr (.inr (some 39))), (1, .inl v1_9)], [.inr (.inr (some 41))], sh, gc_h sh I51 J8 A)
          refine gv_run 7 true hD (pc' := 43) (lv' := [(0, .inr (.inr (some 39))), (1, .inl v1_9)]) (st' := [.inl ((5 + (2 * v1_9)) + 1), .inr (.inr (some 41))]) (h' := gc_h sh I51 J8 A) (C := (((((((True ∧ True) ∧ True) ∧ True) ∧ True) ∧ True) ∧ True) ∧ True)) rfl ⟨⟨⟨⟨⟨⟨⟨trivial, trivial⟩, trivial⟩, trivial⟩, trivial⟩, trivial⟩, trivial⟩, trivial⟩ ?_
          refine gv_run 1 true hD (pc' := 44) (lv' := [(0, .inr (.inr (some 39))), (1, .inl v1_9)]) (st' := [.inr (.inr (some 39)), .inl ((5 + (2 * v1_9)) + 1), .inr (.inr (some 41))]) (h' := gc_h sh I51 J8 A) (C := (True ∧ True)) rfl ⟨trivial, trivial⟩ ?_
          refine gv_get hD rfl rfl S_39 ⟨by decide, B_39⟩ (gc_hA S_39 rfl A_39_1) ?_
          show gv_X _ _ (47, [(0, .inr (.inr (some 39))), (1, .inl v1_9)], [.inr (.inr (some 23)), .inl ((5 + (2 * v1_9)) + 1), .inr (.inr (some 41))], sh, gc_h sh I51 J8 A)
          have t59 := gc_TK_l3 KTK_I51 (by omega)
          obtain ⟨r58, h58, E58, P58⟩ := d_X9_lettersSize (ws0 := ws0) (tb := tb) hws htb sh ro I51 J8 A hI51 23  (gc_b23 hb)     
          obtain ⟨rfl, ⟨z58, rfl, q58⟩⟩ := P58
          refine gv_callV hD rfl (As := []) (st := [.inl ((5 + (2 * v1_9)) + 1), .inr (.inr (some 41))]) rfl B_23 S_23 rfl (gc_lV6 hws rfl) (Nat.le_of_ble_eq_true rfl) (gz_Ev_mono (d := 1) (by decide) E58) ?_
          show gv_X _ _ (50, [(0, .inr (.inr (some 39))), (1, .inl v1_9)], [.inl z58, .inl ((5 + (2 * v1_9)) + 1), .inr (.inr (some 41))], sh, gc_h sh I51 J8 A)
          refine gv_iast hD rfl S_41 ⟨by decide, B_41⟩ ⟨by omega, by omega⟩ ?_
          refine gc_st hI51 S_41 rfl R_41 (lo := (-2147483648)) (hi := 2147483647) rfl rfl (by omega) (by omega) (fun I60 hI60 q61 p61 => ?_)
          have FI60 := gc_frs (W := fun q j => (q = 39 ∧ j = 3) ∨ (q = 39 ∧ j = 4) ∨ (q = 23 ∧ j = 5) ∨ (q = 23 ∧ j = 6) ∨ (q = 23 ∧ j = 7) ∨ (q = 23 ∧ j = 8) ∨ (q = 1 ∧ j = 17) ∨ (q = 1 ∧ j = 18) ∨ q = 20 ∨ (q = 41 ∧ (4 ≤ j))) FI51 (Or.inr (Or.inr (Or.inr (Or.inr (Or.inr (Or.inr (Or.inr (Or.inr (Or.inr ⟨rfl, by omega⟩))))))))) p61
          have t62 := p61 23 1 (fun h => absurd h.1 (by decide))
          have t63 := p61 23 5 (fun h => absurd h.1 (by decide))
          have t64 := p61 23 6 (fun h => absurd h.1 (by decide))
          have t65 := p61 23 7 (fun h => absurd h.1 (by decide))
          have t66 := p61 1 17 (fun h => absurd h.1 (by decide))
          have KLT_I60 := gc_LT_fr KLT_I51 (p61 23 5 (fun h => absurd h.1 (by decide))) (p61 23 6 (fun h => absurd h.1 (by decide))) (p61 23 7 (fun h => absurd h.1 (by decide))) (fun k => p61 24 k (fun h => absurd h.1 (by decide)))
          have KTK_I60 := gc_TK_fr KTK_I51 (p61 23 1 (fun h => absurd h.1 (by decide))) (p61 23 5 (fun h => absurd h.1 (by decide))) (p61 23 6 (fun h => absurd h.1 (by decide))) (p61 23 7 (fun h => absurd h.1 (by decide)))
          have KRW_I60 := gc_row_st KRW_I51 p61 q61 (by unfold gc_fW; omega)
          show gv_X _ _ (51, [(0, .inr (.inr (some 39))), (1, .inl v1_9)], [], sh, gc_h sh I60 J8 A)
          refine gv_run 1 true hD (pc' := 52) (lv' := [(0, .inr (.inr (some 39))), (1, .inl v1_9)]) (st' := [.inr (.inr (some 39))]) (h' := gc_h sh I60 J8 A) (C := (True ∧ True)) rfl ⟨trivial, trivial⟩ ?_
          refine gv_get hD rfl rfl S_39 ⟨by decide, B_39⟩ (gc_hA S_39 rfl A_39_1) ?_
          show gv_X _ _ (55, [(0, .inr (.inr (some 39))), (1, .inl v1_9)], [.inr (.inr (some 23))], sh, gc_h sh I60 J8 A)
          have t68 := gc_TK_nx KTK_I60 (by omega)
          have t69 := gc_TK_st KTK_I60 (by omega)
          obtain ⟨r67, h67, E67, P67⟩ := d_X9_advance (ws0 := ws0) (tb := tb) hws htb sh ro I60 J8 A hI60 23  (gc_b23 hb)    (by omega) 
          obtain ⟨I70, J71, rfl, hI70, g67, k67, ⟨rfl, V67_0, V67_1, V67_2, V67_3, V67_4, q67⟩⟩ := P67
          have FI70 := gc_frc (W := fun q j => (q = 39 ∧ j = 3) ∨ (q = 39 ∧ j = 4) ∨ (q = 23 ∧ j = 5) ∨ (q = 23 ∧ j = 6) ∨ (q = 23 ∧ j = 7) ∨ (q = 23 ∧ j = 8) ∨ (q = 1 ∧ j = 17) ∨ (q = 1 ∧ j = 18) ∨ q = 20 ∨ (q = 41 ∧ (4 ≤ j))) (V := fun q j => (q = 23 ∧ j = 5) ∨ (q = 23 ∧ j = 6) ∨ (q = 23 ∧ j = 7) ∨ (q = 23 ∧ j = 8)) FI60 (fun q j h => (h.elim (fun h => (Or.inr (Or.inr (Or.inl h)))) (fun h => (h.elim (fun h => (Or.inr (Or.inr (Or.inr (Or.inl h))))) (fun h => (h.elim (fun h => (Or.inr (Or.inr (Or.inr (Or.inr (Or.inl h)))))) (fun h => (Or.inr (Or.inr (Or.inr (Or.inr (Or.inr (Or.inl h))))))))))))) g67
          have FJ71 := gc_frc (W := fun q j => (q = 23 ∧ j = 9)) (V := fun q j => (q = 23 ∧ j = 9)) FJ8 (fun q j h => h) k67
          have t72 := (g67 23 1).resolve_left (fun h => h.elim (fun h => absurd h.2 (by decide)) (fun h => h.elim (fun h => absurd h.2 (by decide)) (fun h => h.elim (fun h => absurd h.2 (by decide)) (fun h => absurd h.2 (by decide)))))
          have t73 := (g67 1 17).resolve_left (fun h => h.elim (fun h => absurd h.2 (by decide)) (fun h => h.elim (fun h => absurd h.2 (by decide)) (fun h => h.elim (fun h => absurd h.2 (by decide)) (fun h => absurd h.2 (by decide)))))
          have f74 := (show 0 ≤ I70 23 5 ∧ I70 23 5 ≤ 1000 from gc_in hI70 R_23 rfl rfl)
          have f75 := (show 0 ≤ I70 23 6 ∧ I70 23 6 ≤ 1001 from gc_in hI70 R_23 rfl rfl)
          have f76 := (show 0 ≤ I70 23 7 ∧ I70 23 7 ≤ 125 from gc_in hI70 R_23 rfl rfl)
          have KLT_I70 : gc_LT I70 := q67.2.2
          have KRW_I70 := gc_row_fr KRW_I60 (fun k => (g67 41 k).resolve_left (fun h => h.elim (fun h => absurd h.1 (by decide)) (fun h => h.elim (fun h => absurd h.1 (by decide)) (fun h => h.elim (fun h => absurd h.1 (by decide)) (fun h => absurd h.1 (by decide))))))
          have KTK_I70 : gc_TK I70 := And.intro V67_0 (And.intro V67_1 (And.intro V67_2 (And.intro V67_3 V67_4)))
          have t77 := gc_TK_mo KTK_I70
          clear V67_0 V67_1 V67_2 V67_3 V67_4
          refine gv_callV hD rfl (As := []) (st := []) rfl B_23 S_23 rfl (gc_lV6 hws rfl) (Nat.le_of_ble_eq_true rfl) (gz_Ev_mono (d := 2) (by decide) E67) ?_
          show gv_X _ _ (58, [(0, .inr (.inr (some 39))), (1, .inl v1_9)], [], sh, gc_h sh I70 J71 A)
          refine gv_run 2 true hD (pc' := 2) (lv' := [(1, .inl (v1_9 + 1)), (0, .inr (.inr (some 39)))]) (st' := []) (h' := gc_h sh I70 J71 A) (C := ((True ∧ True) ∧ True)) rfl ⟨⟨trivial, trivial⟩, trivial⟩ ?_
          refine gv_pick [1, 0] rfl ?_
          exact ih2 I70 J71 (v1_9 + 1) (by omega) hI70 FI70 FJ71 KLT_I70 KTK_I70 KRW_I70 (by omega)
  refine gv_run 2 true hD (pc' := 2) (lv' := [(1, .inl 0), (0, .inr (.inr (some 39)))]) (st' := []) (h' := gc_h sh I J A) (C := ((True ∧ True) ∧ True)) rfl ⟨⟨trivial, trivial⟩, trivial⟩ ?_
  refine gv_pick [1, 0] rfl ?_
  exact L2 _ I J 0 (Nat.lt_succ_self _) hI FI FJ KLT_I KTK_I KRW_I (by omega)
