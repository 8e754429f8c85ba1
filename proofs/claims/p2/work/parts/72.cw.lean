set_option maxHeartbeats 4000000 in
set_option maxRecDepth 100000 in
theorem d_X6_readStems {ws0 : List Cond} {tb : String → gz_T} (hws : gc_Ws ws0) (htb : gc_tbs tb) (sh : gz_Sh) (ro : Nat → Nat) (I : gr_I) (J : gr_J) (A : gc_A) (hI : gc_Inv ro I)  (hb : gc_Base sh ro A)  (x0 : I 23 5 ≤ I 23 6) (x1 : I 23 7 = 5 ∨ I 23 6 ≤ I 23 1) (x2 : I 23 5 ≤ I 23 1) (x3 : I 23 7 = 4 ∨ (I 23 5 < I 23 6 ∧ I 23 5 < I 23 1)) (x4 : I 23 7 = 3 → 2 ≤ I 23 6 - I 23 5 ∧ I 23 6 - I 23 5 ≤ 14) (x5 : I 1 17 + I 23 1 ≤ 1280 + I 23 5) (KLT_I : gc_LT I) (KRW_I : gc_row 41 11 gc_fW I) : ∃ r h', gz_Ev ws0 tb 3 (yX6_readStems, cX6_readStems, 2, (some .boolean)) [.inr (.inr (some 39))] sh (gc_h sh I J A) r sh h' 0 0 ∧ (∃ (I' : gr_I) (J' : gr_J), h' = gc_h sh I' J' A ∧ gc_Inv ro I' ∧ (∀ q j : Nat, ((q = 39 ∧ j = 3) ∨ (q = 39 ∧ j = 4) ∨ (q = 23 ∧ j = 5) ∨ (q = 23 ∧ j = 6) ∨ (q = 23 ∧ j = 7) ∨ (q = 23 ∧ j = 8) ∨ (q = 1 ∧ j = 17) ∨ (q = 1 ∧ j = 18) ∨ q = 20 ∨ q = 41) ∨ I' q j = I q j) ∧ (∀ q j : Nat, ((q = 23 ∧ j = 9)) ∨ J' q j = J q j) ∧ gc_LT I' ∧ gc_row 41 11 gc_fW I' ∧ (∃ z : Int, r = some (.inl z) ∧ 0 ≤ z ∧ z ≤ 1 ∧ (I' 23 5 ≤ I' 23 6) ∧ (I' 23 7 = 5 ∨ I' 23 6 ≤ I' 23 1) ∧ (I' 23 5 ≤ I' 23 1) ∧ (I' 23 7 = 4 ∨ (I' 23 5 < I' 23 6 ∧ I' 23 5 < I' 23 1)) ∧ (I' 23 7 = 3 → 2 ≤ I' 23 6 - I' 23 5 ∧ I' 23 6 - I' 23 5 ≤ 14) ∧ (I' 23 1 = I 23 1) ∧ (I 23 5 ≤ I' 23 5) ∧ (I' 1 17 + I' 23 1 ≤ 1280 + I' 23 5))) := by
  have FI : ∀ q j : Nat, ((q = 39 ∧ j = 3) ∨ (q = 39 ∧ j = 4) ∨ (q = 23 ∧ j = 5) ∨ (q = 23 ∧ j = 6) ∨ (q = 23 ∧ j = 7) ∨ (q = 23 ∧ j = 8) ∨ (q = 1 ∧ j = 17) ∨ (q = 1 ∧ j = 18) ∨ q = 20 ∨ q = 41) ∨ I q j = I q j := fun _ _ => Or.inr rfl
  have FJ : ∀ q j : Nat, ((q = 23 ∧ j = 9)) ∨ J q j = J q j := fun _ _ => Or.inr rfl
  have A_39_1 : A 39 1 = some 23 := gc_bA hb rfl
  have A_39_10 : A 39 10 = some 41 := gc_bA hb rfl
  have B_23 : 23 < 1000000 := by decide
  have B_39 : 39 < 1000000 := by decide
  have B_41 : 41 < 1000000 := by decide
  have R_1 : ro 1 = 22 := gc_bR hb (by decide) rfl
  have R_23 : ro 23 = 3 := gc_bR hb (by decide) rfl
  have R_41 : ro 41 = 0 := gc_bR hb (by decide) rfl
  have S_23 : sh[23]? = some (false, 9, 10) := gc_bS hb rfl
  have S_39 : sh[39]? = some (false, 6, 19) := gc_bS hb rfl
  have S_41 : sh[41]? = some (true, 1, 25) := gc_bS hb rfl
  have hD : gv_D (gc_E6 ws0 tb 2 (yX6_readStems, cX6_readStems, 2, (some .boolean)) kX6_readStems) := gq_ok oX6_readStems
  refine gc_ev6 (d := 2) (l := kX6_readStems) (Po := fun r h' => (∃ (I' : gr_I) (J' : gr_J), h' = gc_h sh I' J' A ∧ gc_Inv ro I' ∧ (∀ q j : Nat, ((q = 39 ∧ j = 3) ∨ (q = 39 ∧ j = 4) ∨ (q = 23 ∧ j = 5) ∨ (q = 23 ∧ j = 6) ∨ (q = 23 ∧ j = 7) ∨ (q = 23 ∧ j = 8) ∨ (q = 1 ∧ j = 17) ∨ (q = 1 ∧ j = 18) ∨ q = 20 ∨ q = 41) ∨ I' q j = I q j) ∧ (∀ q j : Nat, ((q = 23 ∧ j = 9)) ∨ J' q j = J q j) ∧ gc_LT I' ∧ gc_row 41 11 gc_fW I' ∧ (∃ z : Int, r = some (.inl z) ∧ 0 ≤ z ∧ z ≤ 1 ∧ (I' 23 5 ≤ I' 23 6) ∧ (I' 23 7 = 5 ∨ I' 23 6 ≤ I' 23 1) ∧ (I' 23 5 ≤ I' 23 1) ∧ (I' 23 7 = 4 ∨ (I' 23 5 < I' 23 6 ∧ I' 23 5 < I' 23 1)) ∧ (I' 23 7 = 3 → 2 ≤ I' 23 6 - I' 23 5 ∧ I' 23 6 - I' 23 5 ≤ 14) ∧ (I' 23 1 = I 23 1) ∧ (I 23 5 ≤ I' 23 5) ∧ (I' 1 17 + I' 23 1 ≤ 1280 + I' 23 5)))) htb rfl (Nat.le_of_ble_eq_true rfl) ?_
  have f1 := (show 0 ≤ I 23 1 ∧ I 23 1 ≤ 1000 from gc_in hI R_23 rfl rfl)
  have f2 := (show 0 ≤ I 23 5 ∧ I 23 5 ≤ 1000 from gc_in hI R_23 rfl rfl)
  have f3 := (show 0 ≤ I 23 6 ∧ I 23 6 ≤ 1001 from gc_in hI R_23 rfl rfl)
  have f4 := (show 0 ≤ I 23 7 ∧ I 23 7 ≤ 125 from gc_in hI R_23 rfl rfl)
  have f5 := (show 0 ≤ I 1 17 ∧ I 1 17 ≤ 12000 from gc_in hI R_1 rfl rfl)
  have L2 : ∀ (n9 : Nat) (I6 : gr_I) (J7 : gr_J) (v1_8 : Int), (4 - v1_8).toNat < n9 → gc_Inv ro I6 → (∀ q j : Nat, ((q = 39 ∧ j = 3) ∨ (q = 39 ∧ j = 4) ∨ (q = 23 ∧ j = 5) ∨ (q = 23 ∧ j = 6) ∨ (q = 23 ∧ j = 7) ∨ (q = 23 ∧ j = 8) ∨ (q = 1 ∧ j = 17) ∨ (q = 1 ∧ j = 18) ∨ q = 20 ∨ q = 41) ∨ I6 q j = I q j) → (∀ q j : Nat, ((q = 23 ∧ j = 9)) ∨ J7 q j = J q j) → gc_LT I6 → gc_row 41 11 gc_fW I6 → ((0 ≤ v1_8 ∧ v1_8 ≤ 3) ∧ (I6 23 5 ≤ I6 23 6) ∧ (I6 23 7 = 5 ∨ I6 23 6 ≤ I6 23 1) ∧ (I6 23 5 ≤ I6 23 1) ∧ (I6 23 7 = 4 ∨ (I6 23 5 < I6 23 6 ∧ I6 23 5 < I6 23 1)) ∧ (I6 23 7 = 3 → 2 ≤ I6 23 6 - I6 23 5 ∧ I6 23 6 - I6 23 5 ≤ 14) ∧ (I6 23 1 = I 23 1) ∧ (I 23 5 ≤ I6 23 5) ∧ (I6 1 17 + I6 23 1 ≤ 1280 + I6 23 5)) → gv_X (gc_E6 ws0 tb 2 (yX6_readStems, cX6_readStems, 2, (some .boolean)) kX6_readStems) (gv_Q cX6_readStems (some .boolean) sh (fun r h' => (∃ (I' : gr_I) (J' : gr_J), h' = gc_h sh I' J' A ∧ gc_Inv ro I' ∧ (∀ q j : Nat, ((q = 39 ∧ j = 3) ∨ (q = 39 ∧ j = 4) ∨ (q = 23 ∧ j = 5) ∨ (q = 23 ∧ j = 6) ∨ (q = 23 ∧ j = 7) ∨ (q = 23 ∧ j = 8) ∨ (q = 1 ∧ j = 17) ∨ (q = 1 ∧ j = 18) ∨ q = 20 ∨ q = 41) ∨ I' q j = I q j) ∧ (∀ q j : Nat, ((q = 23 ∧ j = 9)) ∨ J' q j = J q j) ∧ gc_LT I' ∧ gc_row 41 11 gc_fW I' ∧ (∃ z : Int, r = some (.inl z) ∧ 0 ≤ z ∧ z ≤ 1 ∧ (I' 23 5 ≤ I' 23 6) ∧ (I' 23 7 = 5 ∨ I' 23 6 ≤ I' 23 1) ∧ (I' 23 5 ≤ I' 23 1) ∧ (I' 23 7 = 4 ∨ (I' 23 5 < I' 23 6 ∧ I' 23 5 < I' 23 1)) ∧ (I' 23 7 = 3 → 2 ≤ I' 23 6 - I' 23 5 ∧ I' 23 6 - I' 23 5 ≤ 14) ∧ (I' 23 1 = I 23 1) ∧ (I 23 5 ≤ I' 23 5) ∧ (I' 1 17 + I' 23 1 ≤ 1280 + I' 23 5))))) (2, [(0, .inr (.inr (some 39))), (1, .inl v1_8)], [], sh, gc_h sh I6 J7 A) := by
    intro n9
    induction n9 with
    | zero => intro I6 J7 v1_8 hn; omega
    | succ n9 ih2 =>
      intro I6 J7 v1_8 hn hI6 FI6 FJ7 KLT_I6 KRW_I6 m_8
      clear x0 x1 x2 x3 x4
      obtain ⟨hv1_8, e0_8, e1_8, e2_8, e3_8, e4_8, e5_8, e6_8, e7_8⟩ := m_8
      have f9 := (show 0 ≤ I6 23 1 ∧ I6 23 1 ≤ 1000 from gc_in hI6 R_23 rfl rfl)
      have f10 := (show 0 ≤ I6 23 5 ∧ I6 23 5 ≤ 1000 from gc_in hI6 R_23 rfl rfl)
      have f11 := (show 0 ≤ I6 23 6 ∧ I6 23 6 ≤ 1001 from gc_in hI6 R_23 rfl rfl)
      have f12 := (show 0 ≤ I6 23 7 ∧ I6 23 7 ≤ 125 from gc_in hI6 R_23 rfl rfl)
      have f13 := (show 0 ≤ I6 1 17 ∧ I6 1 17 ≤ 12000 from gc_in hI6 R_1 rfl rfl)
      have L64 : ((0 ≤ v1_8 ∧ v1_8 ≤ 3) ∧ (I6 23 5 ≤ I6 23 6) ∧ (I6 23 7 = 5 ∨ I6 23 6 ≤ I6 23 1) ∧ (I6 23 5 ≤ I6 23 1) ∧ (I6 23 7 = 4 ∨ (I6 23 5 < I6 23 6 ∧ I6 23 5 < I6 23 1)) ∧ (I6 23 7 = 3 → 2 ≤ I6 23 6 - I6 23 5 ∧ I6 23 6 - I6 23 5 ≤ 14) ∧ (I6 23 1 = I 23 1) ∧ (I 23 5 ≤ I6 23 5) ∧ (I6 1 17 + I6 23 1 ≤ 1280 + I6 23 5)) → gv_X (gc_E6 ws0 tb 2 (yX6_readStems, cX6_readStems, 2, (some .boolean)) kX6_readStems) (gv_Q cX6_readStems (some .boolean) sh (fun r h' => (∃ (I' : gr_I) (J' : gr_J), h' = gc_h sh I' J' A ∧ gc_Inv ro I' ∧ (∀ q j : Nat, ((q = 39 ∧ j = 3) ∨ (q = 39 ∧ j = 4) ∨ (q = 23 ∧ j = 5) ∨ (q = 23 ∧ j = 6) ∨ (q = 23 ∧ j = 7) ∨ (q = 23 ∧ j = 8) ∨ (q = 1 ∧ j = 17) ∨ (q = 1 ∧ j = 18) ∨ q = 20 ∨ q = 41) ∨ I' q j = I q j) ∧ (∀ q j : Nat, ((q = 23 ∧ j = 9)) ∨ J' q j = J q j) ∧ gc_LT I' ∧ gc_row 41 11 gc_fW I' ∧ (∃ z : Int, r = some (.inl z) ∧ 0 ≤ z ∧ z ≤ 1 ∧ (I' 23 5 ≤ I' 23 6) ∧ (I' 23 7 = 5 ∨ I' 23 6 ≤ I' 23 1) ∧ (I' 23 5 ≤ I' 23 1) ∧ (I' 23 7 = 4 ∨ (I' 23 5 < I' 23 6 ∧ I' 23 5 < I' 23 1)) ∧ (I' 23 7 = 3 → 2 ≤ I' 23 6 - I' 23 5 ∧ I' 23 6 - I' 23 5 ≤ 14) ∧ (I' 23 1 = I 23 1) ∧ (I 23 5 ≤ I' 23 5) ∧ (I' 1 17 + I' 23 1 ≤ 1280 + I' 23 5))))) (64, [(0, .inr (.inr (some 39))), (1, .inl v1_8)], [], sh, gc_h sh I6 J7 A) := by
        intro m_14
        obtain ⟨hv1_8_14, e0_14, e1_14, e2_14, e3_14, e4_14, e5_14, e6_14, e7_14⟩ := m_14
        have f15 := (show 0 ≤ I6 23 1 ∧ I6 23 1 ≤ 1000 from gc_in hI6 R_23 rfl rfl)
        have f16 := (show 0 ≤ I6 23 5 ∧ I6 23 5 ≤ 1000 from gc_in hI6 R_23 rfl rfl)
        have f17 := (show 0 ≤ I6 23 6 ∧ I6 23 6 ≤ 1001 from gc_in hI6 R_23 rfl rfl)
        have f18 := (show 0 ≤ I6 23 7 ∧ I6 23 7 ≤ 125 from gc_in hI6 R_23 rfl rfl)
        have f19 := (show 0 ≤ I6 1 17 ∧ I6 1 17 ≤ 12000 from gc_in hI6 R_1 rfl rfl)
        have L80 : ∀ (I20 : gr_I) (J21 : gr_J) (s0_22 : Int), gc_Inv ro I20 → (∀ q j : Nat, ((q = 39 ∧ j = 3) ∨ (q = 39 ∧ j = 4) ∨ (q = 23 ∧ j = 5) ∨ (q = 23 ∧ j = 6) ∨ (q = 23 ∧ j = 7) ∨ (q = 23 ∧ j = 8) ∨ (q = 1 ∧ j = 17) ∨ (q = 1 ∧ j = 18) ∨ q = 20 ∨ q = 41) ∨ I20 q j = I q j) → (∀ q j : Nat, ((q = 23 ∧ j = 9)) ∨ J21 q j = J q j) → gc_LT I20 → gc_row 41 11 gc_fW I20 → ((0 ≤ s0_22 ∧ s0_22 ≤ 1) ∧ (I20 23 5 ≤ I20 23 6) ∧ (I20 23 7 = 5 ∨ I20 23 6 ≤ I20 23 1) ∧ (I20 23 5 ≤ I20 23 1) ∧ (I20 23 7 = 4 ∨ (I20 23 5 < I20 23 6 ∧ I20 23 5 < I20 23 1)) ∧ (I20 23 7 = 3 → 2 ≤ I20 23 6 - I20 23 5 ∧ I20 23 6 - I20 23 5 ≤ 14) ∧ (I20 23 1 = I 23 1) ∧ (I 23 5 ≤ I20 23 5) ∧ (I20 1 17 + I20 23 1 ≤ 1280 + I20 23 5)) → gv_X (gc_E6 ws0 tb 2 (yX6_readStems, cX6_readStems, 2, (some .boolean)) kX6_readStems) (gv_Q cX6_readStems (some .boolean) sh (fun r h' => (∃ (I' : gr_I) (J' : gr_J), h' = gc_h sh I' J' A ∧ gc_Inv ro I' ∧ (∀ q j : Nat, ((q = 39 ∧ j = 3) ∨ (q = 39 ∧ j = 4) ∨ (q = 23 ∧ j = 5) ∨ (q = 23 ∧ j = 6) ∨ (q = 23 ∧ j = 7) ∨ (q = 23 ∧ j = 8) ∨ (q = 1 ∧ j = 17) ∨ (q = 1 ∧ j = 18) ∨ q = 20 ∨ q = 41) ∨ I' q j = I q j) ∧ (∀ q j : Nat, ((q = 23 ∧ j = 9)) ∨ J' q j = J q j) ∧ gc_LT I' ∧ gc_row 41 11 gc_fW I' ∧ (∃ z : Int, r = some (.inl z) ∧ 0 ≤ z ∧ z ≤ 1 ∧ (I' 23 5 ≤ I' 23 6) ∧ (I' 23 7 = 5 ∨ I' 23 6 ≤ I' 23 1) ∧ (I' 23 5 ≤ I' 23 1) ∧ (I' 23 7 = 4 ∨ (I' 23 5 < I' 23 6 ∧ I' 23 5 < I' 23 1)) ∧ (I' 23 7 = 3 → 2 ≤ I' 23 6 - I' 23 5 ∧ I' 23 6 - I' 23 5 ≤ 14) ∧ (I' 23 1 = I 23 1) ∧ (I 23 5 ≤ I' 23 5) ∧ (I' 1 17 + I' 23 1 ≤ 1280 + I' 23 5))))) (80, [], [.inl s0_22], sh, gc_h sh I20 J21 A) := by
          intro I20 J21 s0_22 hI20 FI20 FJ21 KLT_I20 KRW_I20 m_22
          clear hv1_8_14 e0_14 e1_14 e2_14 e3_14 e4_14 e5_14 e6_14 e7_14 f15 f16 f17 f18 f19 hv1_8 e0_8 e1_8 e2_8 e3_8 e4_8 e5_8 e6_8 e7_8 f9 f10 f11 f12 f13
          obtain ⟨hs0_22, e0_22, e1_22, e2_22, e3_22, e4_22, e5_22, e6_22, e7_22⟩ := m_22
          have f23 := (show 0 ≤ I20 23 1 ∧ I20 23 1 ≤ 1000 from gc_in hI20 R_23 rfl rfl)
          have f24 := (show 0 ≤ I20 23 5 ∧ I20 23 5 ≤ 1000 from gc_in hI20 R_23 rfl rfl)
          have f25 := (show 0 ≤ I20 23 6 ∧ I20 23 6 ≤ 1001 from gc_in hI20 R_23 rfl rfl)
          have f26 := (show 0 ≤ I20 23 7 ∧ I20 23 7 ≤ 125 from gc_in hI20 R_23 rfl rfl)
          have f27 := (show 0 ≤ I20 1 17 ∧ I20 1 17 ≤ 12000 from gc_in hI20 R_1 rfl rfl)
          exact gv_zret hD rfl (by omega) ⟨I20, J21, rfl, hI20, FI20, FJ21, KLT_I20, KRW_I20, ⟨_, rfl, by omega⟩⟩
        refine gv_run 1 true hD (pc' := 65) (lv' := [(0, .inr (.inr (some 39))), (1, .inl v1_8)]) (st' := [.inr (.inr (some 39))]) (h' := gc_h sh I6 J7 A) (C := (True ∧ True)) rfl ⟨trivial, trivial⟩ ?_
        refine gv_get hD rfl rfl S_39 ⟨by decide, B_39⟩ (gc_hA S_39 rfl A_39_10) ?_
        show gv_X _ _ (68, [(0, .inr (.inr (some 39))), (1, .inl v1_8)], [.inr (.inr (some 41))], sh, gc_h sh I6 J7 A)
        refine gv_run 2 true hD (pc' := 70) (lv' := [(0, .inr (.inr (some 39))), (1, .inl v1_8)]) (st' := [.inl v1_8, .inl 4, .inr (.inr (some 41))]) (h' := gc_h sh I6 J7 A) (C := ((True ∧ True) ∧ True)) rfl ⟨⟨trivial, trivial⟩, trivial⟩ ?_
        refine gv_iast hD rfl S_41 ⟨by decide, B_41⟩ ⟨by omega, by omega⟩ ?_
        refine gc_st (k := 4) hI6 S_41 rfl R_41 (lo := (-2147483648)) (hi := 2147483647) rfl rfl (by omega) (by omega) (fun I28 hI28 q29 p29 => ?_)
        have FI28 := gc_frs (W := fun q j => (q = 39 ∧ j = 3) ∨ (q = 39 ∧ j = 4) ∨ (q = 23 ∧ j = 5) ∨ (q = 23 ∧ j = 6) ∨ (q = 23 ∧ j = 7) ∨ (q = 23 ∧ j = 8) ∨ (q = 1 ∧ j = 17) ∨ (q = 1 ∧ j = 18) ∨ q = 20 ∨ q = 41) FI6 (Or.inr (Or.inr (Or.inr (Or.inr (Or.inr (Or.inr (Or.inr (Or.inr (Or.inr rfl))))))))) p29
        have t30 := p29 23 1 (fun h => absurd h.1 (by omega))
        have t31 := p29 23 5 (fun h => absurd h.1 (by omega))
        have t32 := p29 23 6 (fun h => absurd h.1 (by omega))
        have t33 := p29 23 7 (fun h => absurd h.1 (by omega))
        have t34 := p29 1 17 (fun h => absurd h.1 (by omega))
        have f35 := (show 0 ≤ I28 23 1 ∧ I28 23 1 ≤ 1000 from gc_in hI28 R_23 rfl rfl)
        have f36 := (show 0 ≤ I28 23 5 ∧ I28 23 5 ≤ 1000 from gc_in hI28 R_23 rfl rfl)
        have f37 := (show 0 ≤ I28 23 6 ∧ I28 23 6 ≤ 1001 from gc_in hI28 R_23 rfl rfl)
        have f38 := (show 0 ≤ I28 23 7 ∧ I28 23 7 ≤ 125 from gc_in hI28 R_23 rfl rfl)
        have f39 := (show 0 ≤ I28 1 17 ∧ I28 1 17 ≤ 12000 from gc_in hI28 R_1 rfl rfl)
        have KLT_I28 := gc_LT_fr KLT_I6 (p29 23 5 (fun h => absurd h.1 (by omega))) (p29 23 6 (fun h => absurd h.1 (by omega))) (p29 23 7 (fun h => absurd h.1 (by omega))) (fun k => p29 24 k (fun h => absurd h.1 (by omega)))
        have KRW_I28 := gc_row_st KRW_I6 p29 q29 (by unfold gc_fW; omega)
        show gv_X _ _ (71, [(0, .inr (.inr (some 39))), (1, .inl v1_8)], [], sh, gc_h sh I28 J7 A)
        refine gv_run 1 true hD (pc' := 72) (lv' := [(0, .inr (.inr (some 39))), (1, .inl v1_8)]) (st' := [.inl v1_8]) (h' := gc_h sh I28 J7 A) (C := (True ∧ True)) rfl ⟨trivial, trivial⟩ ?_
        refine gv_if_le (t := 79) hD rfl rfl ⟨by omega, by omega⟩ (fun c40 => ?_) (fun c40 => ?_)
        · show gv_X _ _ (79, [(0, .inr (.inr (some 39))), (1, .inl v1_8)], [], sh, gc_h sh I28 J7 A)
          refine gv_run 1 true hD (pc' := 80) (lv' := [(0, .inr (.inr (some 39))), (1, .inl v1_8)]) (st' := [.inl 0]) (h' := gc_h sh I28 J7 A) (C := (True ∧ True)) rfl ⟨trivial, trivial⟩ ?_
          refine gv_pick [] rfl ?_
          exact L80 I28 J7 0 hI28 FI28 FJ7 KLT_I28 KRW_I28 (by omega)
        · show gv_X _ _ (75, [(0, .inr (.inr (some 39))), (1, .inl v1_8)], [], sh, gc_h sh I28 J7 A)
          refine gv_run 2 true hD (pc' := 80) (lv' := [(0, .inr (.inr (some 39))), (1, .inl v1_8)]) (st' := [.inl 1]) (h' := gc_h sh I28 J7 A) (C := ((True ∧ True) ∧ True)) rfl ⟨⟨trivial, trivial⟩, trivial⟩ ?_
          refine gv_pick [] rfl ?_
          exact L80 I28 J7 1 hI28 FI28 FJ7 KLT_I28 KRW_I28 (by omega)
      refine gv_run 2 true hD (pc' := 4) (lv' := [(0, .inr (.inr (some 39))), (1, .inl v1_8)]) (st' := [.inl 3, .inl v1_8]) (h' := gc_h sh I6 J7 A) (C := ((True ∧ True) ∧ True)) rfl ⟨⟨trivial, trivial⟩, trivial⟩ ?_
      refine gv_icmp_ge (t := 64) hD rfl rfl ⟨⟨by omega, by omega⟩, ⟨by omega, by omega⟩⟩ (fun c41 => ?_) (fun c41 => ?_)
      · show gv_X _ _ (64, [(0, .inr (.inr (some 39))), (1, .inl v1_8)], [], sh, gc_h sh I6 J7 A)
        exact L64 (by omega)
      · show gv_X _ _ (7, [(0, .inr (.inr (some 39))), (1, .inl v1_8)], [], sh, gc_h sh I6 J7 A)
        refine gv_run 1 true hD (pc' := 8) (lv' := [(0, .inr (.inr (some 39))), (1, .inl v1_8)]) (st' := [.inr (.inr (some 39))]) (h' := gc_h sh I6 J7 A) (C := (True ∧ True)) rfl ⟨trivial, trivial⟩ ?_
        refine gv_get hD rfl rfl S_39 ⟨by decide, B_39⟩ (gc_hA S_39 rfl A_39_1) ?_
        show gv_X _ _ (11, [(0, .inr (.inr (some 39))), (1, .inl v1_8)], [.inr (.inr (some 23))], sh, gc_h sh I6 J7 A)
        have f42 := (show 0 ≤ I6 23 7 ∧ I6 23 7 ≤ 125 from gc_in hI6 R_23 rfl rfl)
        refine gv_get hD rfl rfl S_23 ⟨by decide, B_23⟩ (gc_hI S_23 rfl) ?_
        show gv_X _ _ (14, [(0, .inr (.inr (some 39))), (1, .inl v1_8)], [.inl (I6 23 7)], sh, gc_h sh I6 J7 A)
        refine gv_run 1 true hD (pc' := 15) (lv' := [(0, .inr (.inr (some 39))), (1, .inl v1_8)]) (st' := [.inl 3, .inl (I6 23 7)]) (h' := gc_h sh I6 J7 A) (C := (True ∧ True)) rfl ⟨trivial, trivial⟩ ?_
        refine gv_icmp_ne (t := 64) hD rfl rfl ⟨⟨by omega, by omega⟩, ⟨by omega, by omega⟩⟩ (fun c43 => ?_) (fun c43 => ?_)
        · show gv_X _ _ (64, [(0, .inr (.inr (some 39))), (1, .inl v1_8)], [], sh, gc_h sh I6 J7 A)
          exact L64 (by omega)
        · show gv_X _ _ (18, [(0, .inr (.inr (some 39))), (1, .inl v1_8)], [], sh, gc_h sh I6 J7 A)
          refine gv_run 1 true hD (pc' := 19) (lv' := [(0, .inr (.inr (some 39))), (1, .inl v1_8)]) (st' := [.inr (.inr (some 39))]) (h' := gc_h sh I6 J7 A) (C := (True ∧ True)) rfl ⟨trivial, trivial⟩ ?_
          refine gv_get hD rfl rfl S_39 ⟨by decide, B_39⟩ (gc_hA S_39 rfl A_39_10) ?_
          show gv_X _ _ (22, [(0, .inr (.inr (some 39))), (1, .inl v1_8)], [.inr (.inr (some 41))], sh, gc_h sh I6 J7 A)
          refine gv_run 6 true hD (pc' := 28) (lv' := [(0, .inr (.inr (some 39))), (1, .inl v1_8)]) (st' := [.inr (.inr (some 39)), .inl (5 + (2 * v1_8)), .inr (.inr (some 41))]) (h' := gc_h sh I6 J7 A) (C := ((((((True ∧ True) ∧ True) ∧ True) ∧ True) ∧ True) ∧ True)) rfl ⟨⟨⟨⟨⟨⟨trivial, trivial⟩, trivial⟩, trivial⟩, trivial⟩, trivial⟩, trivial⟩ ?_
          obtain ⟨r44, h44, E44, P44⟩ := d_X6_keepLetters (ws0 := ws0) (tb := tb) hws htb sh ro I6 J7 A hI6   hb    (by omega) (by omega) (by omega) (by omega) (by omega) (by omega) KLT_I6
          obtain ⟨I45, J46, rfl, hI45, g44, k44, KLT_I45, ⟨z44, rfl, q44⟩⟩ := P44
          have FI45 := gc_frc (W := fun q j => (q = 39 ∧ j = 3) ∨ (q = 39 ∧ j = 4) ∨ (q = 23 ∧ j = 5) ∨ (q = 23 ∧ j = 6) ∨ (q = 23 ∧ j = 7) ∨ (q = 23 ∧ j = 8) ∨ (q = 1 ∧ j = 17) ∨ (q = 1 ∧ j = 18) ∨ q = 20 ∨ q = 41) (V := fun q j => (q = 1 ∧ j = 17) ∨ (q = 1 ∧ j = 18) ∨ q = 20) FI6 (fun q j h => (h.elim (fun h => (Or.inr (Or.inr (Or.inr (Or.inr (Or.inr (Or.inr (Or.inl h)))))))) (fun h => (h.elim (fun h => (Or.inr (Or.inr (Or.inr (Or.inr (Or.inr (Or.inr (Or.inr (Or.inl h))))))))) (fun h => (Or.inr (Or.inr (Or.inr (Or.inr (Or.inr (Or.inr (Or.inr (Or.inr (Or.inl h)))))))))))))) g44
          have t47 := (g44 23 1).resolve_left (by omega)
          have t48 := (g44 23 5).resolve_left (by omega)
          have t49 := (g44 23 6).resolve_left (by omega)
          have t50 := (g44 23 7).resolve_left (by omega)
          have f51 := (show 0 ≤ I45 23 1 ∧ I45 23 1 ≤ 1000 from gc_in hI45 R_23 rfl rfl)
          have f52 := (show 0 ≤ I45 23 5 ∧ I45 23 5 ≤ 1000 from gc_in hI45 R_23 rfl rfl)
          have f53 := (show 0 ≤ I45 23 6 ∧ I45 23 6 ≤ 1001 from gc_in hI45 R_23 rfl rfl)
          have f54 := (show 0 ≤ I45 23 7 ∧ I45 23 7 ≤ 125 from gc_in hI45 R_23 rfl rfl)
          have f55 := (show 0 ≤ I45 1 17 ∧ I45 1 17 ≤ 12000 from gc_in hI45 R_1 rfl rfl)
          obtain rfl : J7 = J46 := funext fun q => funext fun j => ((k44 q j).resolve_left id).symm
          have KRW_I45 := gc_row_fr KRW_I6 (fun k => (g44 41 k).resolve_left (by omega))
          refine gv_callV hD rfl (As := []) (st := [.inl (5 + (2 * v1_8)), .inr (.inr (some 41))]) rfl B_39 S_39 rfl (gc_lV6 hws rfl) (Nat.le_of_ble_eq_true rfl) (gz_Ev_mono (d := 2) (by decide) E44) ?_
          show gv_X _ _ (31, [(0, .inr (.inr (some 39))), (1, .inl v1_8)], [.inl z44, .inl (5 + (2 * v1_8)), .inr (.inr (some 41))], sh, gc_h sh I45 J7 A)
          refine gv_iast hD rfl S_41 ⟨by decide, B_41⟩ ⟨by omega, by omega⟩ ?_
          refine gc_st hI45 S_41 rfl R_41 (lo := (-2147483648)) (hi := 2147483647) rfl rfl (by omega) (by omega) (fun I56 hI56 q57 p57 => ?_)
          have FI56 := gc_frs (W := fun q j => (q = 39 ∧ j = 3) ∨ (q = 39 ∧ j = 4) ∨ (q = 23 ∧ j = 5) ∨ (q = 23 ∧ j = 6) ∨ (q = 23 ∧ j = 7) ∨ (q = 23 ∧ j = 8) ∨ (q = 1 ∧ j = 17) ∨ (q = 1 ∧ j = 18) ∨ q = 20 ∨ q = 41) FI45 (Or.inr (Or.inr (Or.inr (Or.inr (Or.inr (Or.inr (Or.inr (Or.inr (Or.inr rfl))))))))) p57
          have t58 := p57 23 1 (fun h => absurd h.1 (by omega))
          have t59 := p57 23 5 (fun h => absurd h.1 (by omega))
          have t60 := p57 23 6 (fun h => absurd h.1 (by omega))
          have t61 := p57 23 7 (fun h => absurd h.1 (by omega))
          have t62 := p57 1 17 (fun h => absurd h.1 (by omega))
          have f63 := (show 0 ≤ I56 23 1 ∧ I56 23 1 ≤ 1000 from gc_in hI56 R_23 rfl rfl)
          have f64 := (show 0 ≤ I56 23 5 ∧ I56 23 5 ≤ 1000 from gc_in hI56 R_23 rfl rfl)
          have f65 := (show 0 ≤ I56 23 6 ∧ I56 23 6 ≤ 1001 from gc_in hI56 R_23 rfl rfl)
          have f66 := (show 0 ≤ I56 23 7 ∧ I56 23 7 ≤ 125 from gc_in hI56 R_23 rfl rfl)
          have f67 := (show 0 ≤ I56 1 17 ∧ I56 1 17 ≤ 12000 from gc_in hI56 R_1 rfl rfl)
          have KLT_I56 := gc_LT_fr KLT_I45 (p57 23 5 (fun h => absurd h.1 (by omega))) (p57 23 6 (fun h => absurd h.1 (by omega))) (p57 23 7 (fun h => absurd h.1 (by omega))) (fun k => p57 24 k (fun h => absurd h.1 (by omega)))
          have KRW_I56 := gc_row_st KRW_I45 p57 q57 (by unfold gc_fW; omega)
          show gv_X _ _ (32, [(0, .inr (.inr (some 39))), (1, .inl v1_8)], [], sh, gc_h sh I56 J7 A)
          refine gv_run 1 true hD (pc' := 33) (lv' := [(0, .inr (.inr (some 39))), (1, .inl v1_8)]) (st' := [.inr (.inr (some 39))]) (h' := gc_h sh I56 J7 A) (C := (True ∧ True)) rfl ⟨trivial, trivial⟩ ?_
          refine gv_get hD rfl rfl S_39 ⟨by decide, B_39⟩ (gc_hA S_39 rfl A_39_10) ?_
          show gv_X _ _ (36, [(0, .inr (.inr (some 39))), (1, .inl v1_8)], [.inr (.inr (some 41))], sh, gc_h sh I56 J7 A)
          refine gv_run 7 true hD (pc' := 43) (lv' := [(0, .inr (.inr (some 39))), (1, .inl v1_8)]) (st' := [.inl ((5 + (2 * v1_8)) + 1), .inr (.inr (some 41))]) (h' := gc_h sh I56 J7 A) (C := (((((((True ∧ True) ∧ True) ∧ True) ∧ True) ∧ True) ∧ True) ∧ True)) rfl ⟨⟨⟨⟨⟨⟨⟨trivial, trivial⟩, trivial⟩, trivial⟩, trivial⟩, trivial⟩, trivial⟩, trivial⟩ ?_
          refine gv_run 1 true hD (pc' := 44) (lv' := [(0, .inr (.inr (some 39))), (1, .inl v1_8)]) (st' := [.inr (.inr (some 39)), .inl ((5 + (2 * v1_8)) + 1), .inr (.inr (some 41))]) (h' := gc_h sh I56 J7 A) (C := (True ∧ True)) rfl ⟨trivial, trivial⟩ ?_
          refine gv_get hD rfl rfl S_39 ⟨by decide, B_39⟩ (gc_hA S_39 rfl A_39_1) ?_
          show gv_X _ _ (47, [(0, .inr (.inr (some 39))), (1, .inl v1_8)], [.inr (.inr (some 23)), .inl ((5 + (2 * v1_8)) + 1), .inr (.inr (some 41))], sh, gc_h sh I56 J7 A)
          obtain ⟨r68, h68, E68, P68⟩ := d_X9_lettersSize (ws0 := ws0) (tb := tb) hws htb sh ro I56 J7 A hI56 23  (gc_b23 hb)     
          obtain ⟨rfl, ⟨z68, rfl, q68⟩⟩ := P68
          refine gv_callV hD rfl (As := []) (st := [.inl ((5 + (2 * v1_8)) + 1), .inr (.inr (some 41))]) rfl B_23 S_23 rfl (gc_lV6 hws rfl) (Nat.le_of_ble_eq_true rfl) (gz_Ev_mono (d := 1) (by decide) E68) ?_
          show gv_X _ _ (50, [(0, .inr (.inr (some 39))), (1, .inl v1_8)], [.inl z68, .inl ((5 + (2 * v1_8)) + 1), .inr (.inr (some 41))], sh, gc_h sh I56 J7 A)
          refine gv_iast hD rfl S_41 ⟨by decide, B_41⟩ ⟨by omega, by omega⟩ ?_
          refine gc_st hI56 S_41 rfl R_41 (lo := (-2147483648)) (hi := 2147483647) rfl rfl (by omega) (by omega) (fun I69 hI69 q70 p70 => ?_)
          have FI69 := gc_frs (W := fun q j => (q = 39 ∧ j = 3) ∨ (q = 39 ∧ j = 4) ∨ (q = 23 ∧ j = 5) ∨ (q = 23 ∧ j = 6) ∨ (q = 23 ∧ j = 7) ∨ (q = 23 ∧ j = 8) ∨ (q = 1 ∧ j = 17) ∨ (q = 1 ∧ j = 18) ∨ q = 20 ∨ q = 41) FI56 (Or.inr (Or.inr (Or.inr (Or.inr (Or.inr (Or.inr (Or.inr (Or.inr (Or.inr rfl))))))))) p70
          have t71 := p70 23 1 (fun h => absurd h.1 (by omega))
          have t72 := p70 23 5 (fun h => absurd h.1 (by omega))
          have t73 := p70 23 6 (fun h => absurd h.1 (by omega))
          have t74 := p70 23 7 (fun h => absurd h.1 (by omega))
          have t75 := p70 1 17 (fun h => absurd h.1 (by omega))
          have f76 := (show 0 ≤ I69 23 1 ∧ I69 23 1 ≤ 1000 from gc_in hI69 R_23 rfl rfl)
          have f77 := (show 0 ≤ I69 23 5 ∧ I69 23 5 ≤ 1000 from gc_in hI69 R_23 rfl rfl)
          have f78 := (show 0 ≤ I69 23 6 ∧ I69 23 6 ≤ 1001 from gc_in hI69 R_23 rfl rfl)
          have f79 := (show 0 ≤ I69 23 7 ∧ I69 23 7 ≤ 125 from gc_in hI69 R_23 rfl rfl)
          have f80 := (show 0 ≤ I69 1 17 ∧ I69 1 17 ≤ 12000 from gc_in hI69 R_1 rfl rfl)
          have KLT_I69 := gc_LT_fr KLT_I56 (p70 23 5 (fun h => absurd h.1 (by omega))) (p70 23 6 (fun h => absurd h.1 (by omega))) (p70 23 7 (fun h => absurd h.1 (by omega))) (fun k => p70 24 k (fun h => absurd h.1 (by omega)))
          have KRW_I69 := gc_row_st KRW_I56 p70 q70 (by unfold gc_fW; omega)
          show gv_X _ _ (51, [(0, .inr (.inr (some 39))), (1, .inl v1_8)], [], sh, gc_h sh I69 J7 A)
          refine gv_run 1 true hD (pc' := 52) (lv' := [(0, .inr (.inr (some 39))), (1, .inl v1_8)]) (st' := [.inr (.inr (some 39))]) (h' := gc_h sh I69 J7 A) (C := (True ∧ True)) rfl ⟨trivial, trivial⟩ ?_
          refine gv_get hD rfl rfl S_39 ⟨by decide, B_39⟩ (gc_hA S_39 rfl A_39_1) ?_
          show gv_X _ _ (55, [(0, .inr (.inr (some 39))), (1, .inl v1_8)], [.inr (.inr (some 23))], sh, gc_h sh I69 J7 A)
          obtain ⟨r81, h81, E81, P81⟩ := d_X9_advance (ws0 := ws0) (tb := tb) hws htb sh ro I69 J7 A hI69 23  (gc_b23 hb)    (by omega) 
          obtain ⟨I82, J83, rfl, hI82, g81, k81, ⟨rfl, q81⟩⟩ := P81
          have FI82 := gc_frc (W := fun q j => (q = 39 ∧ j = 3) ∨ (q = 39 ∧ j = 4) ∨ (q = 23 ∧ j = 5) ∨ (q = 23 ∧ j = 6) ∨ (q = 23 ∧ j = 7) ∨ (q = 23 ∧ j = 8) ∨ (q = 1 ∧ j = 17) ∨ (q = 1 ∧ j = 18) ∨ q = 20 ∨ q = 41) (V := fun q j => (q = 23 ∧ j = 5) ∨ (q = 23 ∧ j = 6) ∨ (q = 23 ∧ j = 7) ∨ (q = 23 ∧ j = 8)) FI69 (fun q j h => (h.elim (fun h => (Or.inr (Or.inr (Or.inl h)))) (fun h => (h.elim (fun h => (Or.inr (Or.inr (Or.inr (Or.inl h))))) (fun h => (h.elim (fun h => (Or.inr (Or.inr (Or.inr (Or.inr (Or.inl h)))))) (fun h => (Or.inr (Or.inr (Or.inr (Or.inr (Or.inr (Or.inl h))))))))))))) g81
          have FJ83 := gc_frc (W := fun q j => (q = 23 ∧ j = 9)) (V := fun q j => (q = 23 ∧ j = 9)) FJ7 (fun q j h => h) k81
          have t84 := (g81 23 1).resolve_left (by omega)
          have t85 := (g81 1 17).resolve_left (by omega)
          have f86 := (show 0 ≤ I82 23 1 ∧ I82 23 1 ≤ 1000 from gc_in hI82 R_23 rfl rfl)
          have f87 := (show 0 ≤ I82 23 5 ∧ I82 23 5 ≤ 1000 from gc_in hI82 R_23 rfl rfl)
          have f88 := (show 0 ≤ I82 23 6 ∧ I82 23 6 ≤ 1001 from gc_in hI82 R_23 rfl rfl)
          have f89 := (show 0 ≤ I82 23 7 ∧ I82 23 7 ≤ 125 from gc_in hI82 R_23 rfl rfl)
          have f90 := (show 0 ≤ I82 1 17 ∧ I82 1 17 ≤ 12000 from gc_in hI82 R_1 rfl rfl)
          have KLT_I82 : gc_LT I82 := q81.2.2.2.2.2.2.2
          have KRW_I82 := gc_row_fr KRW_I69 (fun k => (g81 41 k).resolve_left (by omega))
          refine gv_callV hD rfl (As := []) (st := []) rfl B_23 S_23 rfl (gc_lV6 hws rfl) (Nat.le_of_ble_eq_true rfl) (gz_Ev_mono (d := 2) (by decide) E81) ?_
          show gv_X _ _ (58, [(0, .inr (.inr (some 39))), (1, .inl v1_8)], [], sh, gc_h sh I82 J83 A)
          refine gv_run 2 true hD (pc' := 2) (lv' := [(1, .inl (v1_8 + 1)), (0, .inr (.inr (some 39)))]) (st' := []) (h' := gc_h sh I82 J83 A) (C := ((True ∧ True) ∧ True)) rfl ⟨⟨trivial, trivial⟩, trivial⟩ ?_
          refine gv_pick [1, 0] rfl ?_
          exact ih2 I82 J83 (v1_8 + 1) (by omega) hI82 FI82 FJ83 KLT_I82 KRW_I82 (by omega)
  refine gv_run 2 true hD (pc' := 2) (lv' := [(1, .inl 0), (0, .inr (.inr (some 39)))]) (st' := []) (h' := gc_h sh I J A) (C := ((True ∧ True) ∧ True)) rfl ⟨⟨trivial, trivial⟩, trivial⟩ ?_
  refine gv_pick [1, 0] rfl ?_
  exact L2 _ I J 0 (Nat.lt_succ_self _) hI FI FJ KLT_I KRW_I (by omega)
set_option maxHeartbeats 4000000 in
set_option maxRecDepth 100000 in
theorem d_X6_readHas {ws0 : List Cond} {tb : String → gz_T} (hws : gc_Ws ws0) (htb : gc_tbs tb) (sh : gz_Sh) (ro : Nat → Nat) (I : gr_I) (J : gr_J) (A : gc_A) (hI : gc_Inv ro I) (t : Nat)  (hb : gc_Base sh ro A) (h_t : gc_isTongue sh ro A t) (G_t : 144 ≤ t)  (x0 : I 23 5 ≤ I 23 6) (x1 : I 23 7 = 5 ∨ I 23 6 ≤ I 23 1) (x2 : I 23 5 ≤ I 23 1) (x3 : I 23 7 = 4 ∨ (I 23 5 < I 23 6 ∧ I 23 5 < I 23 1)) (x4 : I 23 7 = 3 → 2 ≤ I 23 6 - I 23 5 ∧ I 23 6 - I 23 5 ≤ 14) (x5 : I 39 2 = (t : Int)) (KLT_I : gc_LT I) : ∃ r h', gz_Ev ws0 tb 4 (yX6_readHas, cX6_readHas, 1, (some .boolean)) [.inr (.inr (some 39))] sh (gc_h sh I J A) r sh h' 0 0 ∧ (∃ (I' : gr_I) (J' : gr_J), h' = gc_h sh I' J' A ∧ gc_Inv ro I' ∧ (∀ q j : Nat, ((q = 39 ∧ j = 3) ∨ (q = 39 ∧ j = 4) ∨ (q = 23 ∧ j = 5) ∨ (q = 23 ∧ j = 6) ∨ (q = 23 ∧ j = 7) ∨ (q = 23 ∧ j = 8) ∨ (q = 39 ∧ j = 6)) ∨ I' q j = I q j) ∧ (∀ q j : Nat, ((q = 23 ∧ j = 9)) ∨ J' q j = J q j) ∧ gc_LT I' ∧ (∃ z : Int, r = some (.inl z) ∧ 0 ≤ z ∧ z ≤ 1 ∧ (I' 23 5 ≤ I' 23 6) ∧ (I' 23 7 = 5 ∨ I' 23 6 ≤ I' 23 1) ∧ (I' 23 5 ≤ I' 23 1) ∧ (I' 23 7 = 4 ∨ (I' 23 5 < I' 23 6 ∧ I' 23 5 < I' 23 1)) ∧ (I' 23 7 = 3 → 2 ≤ I' 23 6 - I' 23 5 ∧ I' 23 6 - I' 23 5 ≤ 14) ∧ (I' 23 1 = I 23 1) ∧ (I 23 5 ≤ I' 23 5))) := by
  have FI : ∀ q j : Nat, ((q = 39 ∧ j = 3) ∨ (q = 39 ∧ j = 4) ∨ (q = 23 ∧ j = 5) ∨ (q = 23 ∧ j = 6) ∨ (q = 23 ∧ j = 7) ∨ (q = 23 ∧ j = 8) ∨ (q = 39 ∧ j = 6)) ∨ I q j = I q j := fun _ _ => Or.inr rfl
  have FJ : ∀ q j : Nat, ((q = 23 ∧ j = 9)) ∨ J q j = J q j := fun _ _ => Or.inr rfl
  have A_39_1 : A 39 1 = some 23 := gc_bA hb rfl
  have B_23 : 23 < 1000000 := by decide
  have B_39 : 39 < 1000000 := by decide
  have R_23 : ro 23 = 3 := gc_bR hb (by decide) rfl
  have R_39 : ro 39 = 42 := gc_bR hb (by decide) rfl
  have S_23 : sh[23]? = some (false, 9, 10) := gc_bS hb rfl
  have S_39 : sh[39]? = some (false, 6, 19) := gc_bS hb rfl
  obtain ⟨S_t, R_t, B_t, A_t_0, h_t_1, A_t_1, h_t_3, A_t_2, S_t_5, R_t_5, B_t_5, A_t_3, S_t_6, R_t_6, B_t_6, A_t_4, h_t_7, A_t_5, S_t_9, R_t_9, B_t_9, A_t_7, S_t_10, R_t_10, B_t_10, A_t_8, h_t_11, A_t_9, S_t_13, R_t_13, B_t_13, A_t_10, S_t_14, R_t_14, B_t_14, A_t_12, S_t_15, R_t_15, B_t_15, A_t_14, S_t_16, R_t_16, B_t_16, A_t_15, h_t_17⟩ := id h_t
  obtain ⟨S_t_1, R_t_1, B_t_1, A_t_1_0, S_t_1_1, R_t_1_1, B_t_1_1, Q0_t_1, Q1_t_1, Q2_t_1⟩ := id h_t_1
  obtain ⟨S_t_3, R_t_3, B_t_3, A_t_3_0, S_t_3_1, R_t_3_1, B_t_3_1, Q0_t_3, Q1_t_3, Q2_t_3⟩ := id h_t_3
  obtain ⟨S_t_7, R_t_7, B_t_7, A_t_7_0, S_t_7_1, R_t_7_1, B_t_7_1, Q0_t_7, Q1_t_7, Q2_t_7⟩ := id h_t_7
  obtain ⟨S_t_11, R_t_11, B_t_11, A_t_11_0, S_t_11_1, R_t_11_1, B_t_11_1, Q0_t_11, Q1_t_11, Q2_t_11⟩ := id h_t_11
  obtain ⟨S_t_17, R_t_17, B_t_17, A_t_17_0, S_20, R_20, B_20, A_t_17_1, S_t_17_1, R_t_17_1, B_t_17_1, A_t_17_2, S_t_17_2, R_t_17_2, B_t_17_2, A_t_17_3, S_t_17_3, R_t_17_3, B_t_17_3, A_t_17_4, S_t_17_4, R_t_17_4, B_t_17_4, A_t_17_5, S_t_17_5, R_t_17_5, B_t_17_5, S_t_17_6, R_t_17_6, B_t_17_6, S_t_17_7, R_t_17_7, B_t_17_7⟩ := id h_t_17
  have hD : gv_D (gc_E6 ws0 tb 3 (yX6_readHas, cX6_readHas, 1, (some .boolean)) kX6_readHas) := gq_ok oX6_readHas
  refine gc_ev6 (d := 3) (l := kX6_readHas) (Po := fun r h' => (∃ (I' : gr_I) (J' : gr_J), h' = gc_h sh I' J' A ∧ gc_Inv ro I' ∧ (∀ q j : Nat, ((q = 39 ∧ j = 3) ∨ (q = 39 ∧ j = 4) ∨ (q = 23 ∧ j = 5) ∨ (q = 23 ∧ j = 6) ∨ (q = 23 ∧ j = 7) ∨ (q = 23 ∧ j = 8) ∨ (q = 39 ∧ j = 6)) ∨ I' q j = I q j) ∧ (∀ q j : Nat, ((q = 23 ∧ j = 9)) ∨ J' q j = J q j) ∧ gc_LT I' ∧ (∃ z : Int, r = some (.inl z) ∧ 0 ≤ z ∧ z ≤ 1 ∧ (I' 23 5 ≤ I' 23 6) ∧ (I' 23 7 = 5 ∨ I' 23 6 ≤ I' 23 1) ∧ (I' 23 5 ≤ I' 23 1) ∧ (I' 23 7 = 4 ∨ (I' 23 5 < I' 23 6 ∧ I' 23 5 < I' 23 1)) ∧ (I' 23 7 = 3 → 2 ≤ I' 23 6 - I' 23 5 ∧ I' 23 6 - I' 23 5 ≤ 14) ∧ (I' 23 1 = I 23 1) ∧ (I 23 5 ≤ I' 23 5)))) htb rfl (Nat.le_of_ble_eq_true rfl) ?_
  have f1 := (show 0 ≤ I 23 1 ∧ I 23 1 ≤ 1000 from gc_in hI R_23 rfl rfl)
  have f2 := (show 0 ≤ I 23 5 ∧ I 23 5 ≤ 1000 from gc_in hI R_23 rfl rfl)
  have f3 := (show 0 ≤ I 23 6 ∧ I 23 6 ≤ 1001 from gc_in hI R_23 rfl rfl)
  have f4 := (show 0 ≤ I 23 7 ∧ I 23 7 ≤ 125 from gc_in hI R_23 rfl rfl)
  have f5 := (show (-1) ≤ I 39 2 ∧ I 39 2 ≤ 999999 from gc_in hI R_39 rfl rfl)
  have L45 : ∀ (I6 : gr_I) (J7 : gr_J) (s0_8 : Int), gc_Inv ro I6 → (∀ q j : Nat, ((q = 39 ∧ j = 3) ∨ (q = 39 ∧ j = 4) ∨ (q = 23 ∧ j = 5) ∨ (q = 23 ∧ j = 6) ∨ (q = 23 ∧ j = 7) ∨ (q = 23 ∧ j = 8) ∨ (q = 39 ∧ j = 6)) ∨ I6 q j = I q j) → (∀ q j : Nat, ((q = 23 ∧ j = 9)) ∨ J7 q j = J q j) → gc_LT I6 → ((0 ≤ s0_8 ∧ s0_8 ≤ 1) ∧ (I6 23 5 ≤ I6 23 6) ∧ (I6 23 7 = 5 ∨ I6 23 6 ≤ I6 23 1) ∧ (I6 23 5 ≤ I6 23 1) ∧ (I6 23 7 = 4 ∨ (I6 23 5 < I6 23 6 ∧ I6 23 5 < I6 23 1)) ∧ (I6 23 7 = 3 → 2 ≤ I6 23 6 - I6 23 5 ∧ I6 23 6 - I6 23 5 ≤ 14) ∧ (I6 23 1 = I 23 1) ∧ (I 23 5 ≤ I6 23 5) ∧ (I6 39 2 = (t : Int))) → gv_X (gc_E6 ws0 tb 3 (yX6_readHas, cX6_readHas, 1, (some .boolean)) kX6_readHas) (gv_Q cX6_readHas (some .boolean) sh (fun r h' => (∃ (I' : gr_I) (J' : gr_J), h' = gc_h sh I' J' A ∧ gc_Inv ro I' ∧ (∀ q j : Nat, ((q = 39 ∧ j = 3) ∨ (q = 39 ∧ j = 4) ∨ (q = 23 ∧ j = 5) ∨ (q = 23 ∧ j = 6) ∨ (q = 23 ∧ j = 7) ∨ (q = 23 ∧ j = 8) ∨ (q = 39 ∧ j = 6)) ∨ I' q j = I q j) ∧ (∀ q j : Nat, ((q = 23 ∧ j = 9)) ∨ J' q j = J q j) ∧ gc_LT I' ∧ (∃ z : Int, r = some (.inl z) ∧ 0 ≤ z ∧ z ≤ 1 ∧ (I' 23 5 ≤ I' 23 6) ∧ (I' 23 7 = 5 ∨ I' 23 6 ≤ I' 23 1) ∧ (I' 23 5 ≤ I' 23 1) ∧ (I' 23 7 = 4 ∨ (I' 23 5 < I' 23 6 ∧ I' 23 5 < I' 23 1)) ∧ (I' 23 7 = 3 → 2 ≤ I' 23 6 - I' 23 5 ∧ I' 23 6 - I' 23 5 ≤ 14) ∧ (I' 23 1 = I 23 1) ∧ (I 23 5 ≤ I' 23 5))))) (45, [], [.inl s0_8], sh, gc_h sh I6 J7 A) := by
    intro I6 J7 s0_8 hI6 FI6 FJ7 KLT_I6 m_8
    clear x0 x1 x2 x3 x4
    obtain ⟨hs0_8, e0_8, e1_8, e2_8, e3_8, e4_8, e5_8, e6_8, e7_8⟩ := m_8
    have f9 := (show 0 ≤ I6 23 1 ∧ I6 23 1 ≤ 1000 from gc_in hI6 R_23 rfl rfl)
    have f10 := (show 0 ≤ I6 23 5 ∧ I6 23 5 ≤ 1000 from gc_in hI6 R_23 rfl rfl)
    have f11 := (show 0 ≤ I6 23 6 ∧ I6 23 6 ≤ 1001 from gc_in hI6 R_23 rfl rfl)
    have f12 := (show 0 ≤ I6 23 7 ∧ I6 23 7 ≤ 125 from gc_in hI6 R_23 rfl rfl)
    have f13 := (show (-1) ≤ I6 39 2 ∧ I6 39 2 ≤ 999999 from gc_in hI6 R_39 rfl rfl)
    exact gv_zret hD rfl (by omega) ⟨I6, J7, rfl, hI6, FI6, FJ7, KLT_I6, ⟨_, rfl, by omega⟩⟩
  have L44 : ∀ (I14 : gr_I) (J15 : gr_J) , gc_Inv ro I14 → (∀ q j : Nat, ((q = 39 ∧ j = 3) ∨ (q = 39 ∧ j = 4) ∨ (q = 23 ∧ j = 5) ∨ (q = 23 ∧ j = 6) ∨ (q = 23 ∧ j = 7) ∨ (q = 23 ∧ j = 8) ∨ (q = 39 ∧ j = 6)) ∨ I14 q j = I q j) → (∀ q j : Nat, ((q = 23 ∧ j = 9)) ∨ J15 q j = J q j) → gc_LT I14 → ((I14 23 5 ≤ I14 23 6) ∧ (I14 23 7 = 5 ∨ I14 23 6 ≤ I14 23 1) ∧ (I14 23 5 ≤ I14 23 1) ∧ (I14 23 7 = 4 ∨ (I14 23 5 < I14 23 6 ∧ I14 23 5 < I14 23 1)) ∧ (I14 23 7 = 3 → 2 ≤ I14 23 6 - I14 23 5 ∧ I14 23 6 - I14 23 5 ≤ 14) ∧ (I14 23 1 = I 23 1) ∧ (I 23 5 ≤ I14 23 5) ∧ (I14 39 2 = (t : Int))) → gv_X (gc_E6 ws0 tb 3 (yX6_readHas, cX6_readHas, 1, (some .boolean)) kX6_readHas) (gv_Q cX6_readHas (some .boolean) sh (fun r h' => (∃ (I' : gr_I) (J' : gr_J), h' = gc_h sh I' J' A ∧ gc_Inv ro I' ∧ (∀ q j : Nat, ((q = 39 ∧ j = 3) ∨ (q = 39 ∧ j = 4) ∨ (q = 23 ∧ j = 5) ∨ (q = 23 ∧ j = 6) ∨ (q = 23 ∧ j = 7) ∨ (q = 23 ∧ j = 8) ∨ (q = 39 ∧ j = 6)) ∨ I' q j = I q j) ∧ (∀ q j : Nat, ((q = 23 ∧ j = 9)) ∨ J' q j = J q j) ∧ gc_LT I' ∧ (∃ z : Int, r = some (.inl z) ∧ 0 ≤ z ∧ z ≤ 1 ∧ (I' 23 5 ≤ I' 23 6) ∧ (I' 23 7 = 5 ∨ I' 23 6 ≤ I' 23 1) ∧ (I' 23 5 ≤ I' 23 1) ∧ (I' 23 7 = 4 ∨ (I' 23 5 < I' 23 6 ∧ I' 23 5 < I' 23 1)) ∧ (I' 23 7 = 3 → 2 ≤ I' 23 6 - I' 23 5 ∧ I' 23 6 - I' 23 5 ≤ 14) ∧ (I' 23 1 = I 23 1) ∧ (I 23 5 ≤ I' 23 5))))) (44, [], [], sh, gc_h sh I14 J15 A) := by
    intro I14 J15 hI14 FI14 FJ15 KLT_I14 m_16
    clear x0 x1 x2 x3 x4
    obtain ⟨e0_16, e1_16, e2_16, e3_16, e4_16, e5_16, e6_16, e7_16⟩ := m_16
    have f17 := (show 0 ≤ I14 23 1 ∧ I14 23 1 ≤ 1000 from gc_in hI14 R_23 rfl rfl)
    have f18 := (show 0 ≤ I14 23 5 ∧ I14 23 5 ≤ 1000 from gc_in hI14 R_23 rfl rfl)
    have f19 := (show 0 ≤ I14 23 6 ∧ I14 23 6 ≤ 1001 from gc_in hI14 R_23 rfl rfl)
    have f20 := (show 0 ≤ I14 23 7 ∧ I14 23 7 ≤ 125 from gc_in hI14 R_23 rfl rfl)
    have f21 := (show (-1) ≤ I14 39 2 ∧ I14 39 2 ≤ 999999 from gc_in hI14 R_39 rfl rfl)
    refine gv_run 1 true hD (pc' := 45) (lv' := []) (st' := [.inl 0]) (h' := gc_h sh I14 J15 A) (C := (True ∧ True)) rfl ⟨trivial, trivial⟩ ?_
    exact L45 I14 J15 0 hI14 FI14 FJ15 KLT_I14 (by omega)
  refine gv_run 2 true hD (pc' := 2) (lv' := [(0, .inr (.inr (some 39)))]) (st' := [.inl 0, .inr (.inr (some 39))]) (h' := gc_h sh I J A) (C := ((True ∧ True) ∧ True)) rfl ⟨⟨trivial, trivial⟩, trivial⟩ ?_
  refine gv_put hD rfl rfl S_39 ⟨by decide, B_39⟩ rfl trivial ?_
  refine gc_st (k := 6) hI S_39 rfl R_39 (lo := 0) (hi := 16777215) rfl rfl (by omega) (by omega) (fun I22 hI22 q23 p23 => ?_)
  have FI22 := gc_frs (W := fun q j => (q = 39 ∧ j = 3) ∨ (q = 39 ∧ j = 4) ∨ (q = 23 ∧ j = 5) ∨ (q = 23 ∧ j = 6) ∨ (q = 23 ∧ j = 7) ∨ (q = 23 ∧ j = 8) ∨ (q = 39 ∧ j = 6)) FI (Or.inr (Or.inr (Or.inr (Or.inr (Or.inr (Or.inr ⟨rfl, rfl⟩)))))) p23
  have t24 := p23 23 1 (fun h => absurd h.1 (by omega))
  have t25 := p23 23 5 (fun h => absurd h.1 (by omega))
  have t26 := p23 23 6 (fun h => absurd h.1 (by omega))
  have t27 := p23 23 7 (fun h => absurd h.1 (by omega))
  have t28 := p23 39 2 (fun h => absurd h.2 (by decide))
  have f29 := (show 0 ≤ I22 23 1 ∧ I22 23 1 ≤ 1000 from gc_in hI22 R_23 rfl rfl)
  have f30 := (show 0 ≤ I22 23 5 ∧ I22 23 5 ≤ 1000 from gc_in hI22 R_23 rfl rfl)
  have f31 := (show 0 ≤ I22 23 6 ∧ I22 23 6 ≤ 1001 from gc_in hI22 R_23 rfl rfl)
  have f32 := (show 0 ≤ I22 23 7 ∧ I22 23 7 ≤ 125 from gc_in hI22 R_23 rfl rfl)
  have f33 := (show (-1) ≤ I22 39 2 ∧ I22 39 2 ≤ 999999 from gc_in hI22 R_39 rfl rfl)
  have KLT_I22 := gc_LT_fr KLT_I (p23 23 5 (fun h => absurd h.1 (by omega))) (p23 23 6 (fun h => absurd h.1 (by omega))) (p23 23 7 (fun h => absurd h.1 (by omega))) (fun k => p23 24 k (fun h => absurd h.1 (by omega)))
  show gv_X _ _ (5, [(0, .inr (.inr (some 39)))], [], sh, gc_h sh I22 J A)
  refine gv_run 2 true hD (pc' := 9) (lv' := [(0, .inr (.inr (some 39)))]) (st' := [.inr (.inl (6840691)), .inr (.inr (some 39))]) (h' := gc_h sh I22 J A) (C := ((True ∧ True) ∧ True)) rfl ⟨⟨trivial, trivial⟩, trivial⟩ ?_
  obtain ⟨r34, h34, E34, P34⟩ := d_X6_isWord (ws0 := ws0) (tb := tb) hws htb sh ro I22 J A hI22  (6840691) hb     
  obtain ⟨rfl, ⟨z34, rfl, q34⟩⟩ := P34
  refine gv_callV hD rfl (As := [.inr (.inl (6840691))]) (st := []) rfl B_39 S_39 rfl (gc_lV6 hws rfl) (Nat.le_of_ble_eq_true rfl) (gz_Ev_mono (d := 1) (by decide) E34) ?_
  show gv_X _ _ (12, [(0, .inr (.inr (some 39)))], [.inl z34], sh, gc_h sh I22 J A)
  refine gv_if_ne (t := 17) hD rfl rfl ⟨by omega, by omega⟩ (fun c35 => ?_) (fun c35 => ?_)
  · show gv_X _ _ (17, [(0, .inr (.inr (some 39)))], [], sh, gc_h sh I22 J A)
    refine gv_run 1 true hD (pc' := 18) (lv' := [(0, .inr (.inr (some 39)))]) (st' := [.inr (.inr (some 39))]) (h' := gc_h sh I22 J A) (C := (True ∧ True)) rfl ⟨trivial, trivial⟩ ?_
    refine gv_get hD rfl rfl S_39 ⟨by decide, B_39⟩ (gc_hA S_39 rfl A_39_1) ?_
    show gv_X _ _ (21, [(0, .inr (.inr (some 39)))], [.inr (.inr (some 23))], sh, gc_h sh I22 J A)
    obtain ⟨r36, h36, E36, P36⟩ := d_X9_advance (ws0 := ws0) (tb := tb) hws htb sh ro I22 J A hI22 23  (gc_b23 hb)    (by omega) 
    obtain ⟨I37, J38, rfl, hI37, g36, k36, ⟨rfl, q36⟩⟩ := P36
    have FI37 := gc_frc (W := fun q j => (q = 39 ∧ j = 3) ∨ (q = 39 ∧ j = 4) ∨ (q = 23 ∧ j = 5) ∨ (q = 23 ∧ j = 6) ∨ (q = 23 ∧ j = 7) ∨ (q = 23 ∧ j = 8) ∨ (q = 39 ∧ j = 6)) (V := fun q j => (q = 23 ∧ j = 5) ∨ (q = 23 ∧ j = 6) ∨ (q = 23 ∧ j = 7) ∨ (q = 23 ∧ j = 8)) FI22 (fun q j h => (h.elim (fun h => (Or.inr (Or.inr (Or.inl h)))) (fun h => (h.elim (fun h => (Or.inr (Or.inr (Or.inr (Or.inl h))))) (fun h => (h.elim (fun h => (Or.inr (Or.inr (Or.inr (Or.inr (Or.inl h)))))) (fun h => (Or.inr (Or.inr (Or.inr (Or.inr (Or.inr (Or.inl h))))))))))))) g36
    have FJ38 := gc_frc (W := fun q j => (q = 23 ∧ j = 9)) (V := fun q j => (q = 23 ∧ j = 9)) FJ (fun q j h => h) k36
    have t39 := (g36 23 1).resolve_left (by omega)
    have t40 := (g36 39 2).resolve_left (by omega)
    have f41 := (show 0 ≤ I37 23 1 ∧ I37 23 1 ≤ 1000 from gc_in hI37 R_23 rfl rfl)
    have f42 := (show 0 ≤ I37 23 5 ∧ I37 23 5 ≤ 1000 from gc_in hI37 R_23 rfl rfl)
    have f43 := (show 0 ≤ I37 23 6 ∧ I37 23 6 ≤ 1001 from gc_in hI37 R_23 rfl rfl)
    have f44 := (show 0 ≤ I37 23 7 ∧ I37 23 7 ≤ 125 from gc_in hI37 R_23 rfl rfl)
    have f45 := (show (-1) ≤ I37 39 2 ∧ I37 39 2 ≤ 999999 from gc_in hI37 R_39 rfl rfl)
    have KLT_I37 : gc_LT I37 := q36.2.2.2.2.2.2.2
    refine gv_callV hD rfl (As := []) (st := []) rfl B_23 S_23 rfl (gc_lV6 hws rfl) (Nat.le_of_ble_eq_true rfl) (gz_Ev_mono (d := 2) (by decide) E36) ?_
    show gv_X _ _ (24, [(0, .inr (.inr (some 39)))], [], sh, gc_h sh I37 J38 A)
    refine gv_run 2 true hD (pc' := 26) (lv' := [(0, .inr (.inr (some 39)))]) (st' := [.inl 1, .inr (.inr (some 39))]) (h' := gc_h sh I37 J38 A) (C := ((True ∧ True) ∧ True)) rfl ⟨⟨trivial, trivial⟩, trivial⟩ ?_
    obtain ⟨r46, h46, E46, P46⟩ := d_X6_need (ws0 := ws0) (tb := tb) hws htb sh ro I37 J38 A hI37  1 hb   ⟨by omega, by omega⟩  
    obtain ⟨I47, J48, rfl, hI47, g46, k46, ⟨z46, rfl, q46⟩⟩ := P46
    have FI47 := gc_frc (W := fun q j => (q = 39 ∧ j = 3) ∨ (q = 39 ∧ j = 4) ∨ (q = 23 ∧ j = 5) ∨ (q = 23 ∧ j = 6) ∨ (q = 23 ∧ j = 7) ∨ (q = 23 ∧ j = 8) ∨ (q = 39 ∧ j = 6)) (V := fun q j => (q = 39 ∧ j = 3) ∨ (q = 39 ∧ j = 4)) FI37 (fun q j h => (h.elim (fun h => (Or.inl h)) (fun h => (Or.inr (Or.inl h))))) g46
    have t49 := (g46 23 1).resolve_left (by omega)
    have t50 := (g46 23 5).resolve_left (by omega)
    have t51 := (g46 23 6).resolve_left (by omega)
    have t52 := (g46 23 7).resolve_left (by omega)
    have t53 := (g46 39 2).resolve_left (by omega)
    have f54 := (show 0 ≤ I47 23 1 ∧ I47 23 1 ≤ 1000 from gc_in hI47 R_23 rfl rfl)
    have f55 := (show 0 ≤ I47 23 5 ∧ I47 23 5 ≤ 1000 from gc_in hI47 R_23 rfl rfl)
    have f56 := (show 0 ≤ I47 23 6 ∧ I47 23 6 ≤ 1001 from gc_in hI47 R_23 rfl rfl)
    have f57 := (show 0 ≤ I47 23 7 ∧ I47 23 7 ≤ 125 from gc_in hI47 R_23 rfl rfl)
    have f58 := (show (-1) ≤ I47 39 2 ∧ I47 39 2 ≤ 999999 from gc_in hI47 R_39 rfl rfl)
    obtain rfl : J38 = J48 := funext fun q => funext fun j => ((k46 q j).resolve_left id).symm
    have KLT_I47 := gc_LT_fr KLT_I37 ((g46 23 5).resolve_left (by omega)) ((g46 23 6).resolve_left (by omega)) ((g46 23 7).resolve_left (by omega)) (fun k => (g46 24 k).resolve_left (by omega))
    refine gv_callV hD rfl (As := [.inl 1]) (st := []) rfl B_39 S_39 rfl (gc_lV6 hws rfl) (Nat.le_of_ble_eq_true rfl) (gz_Ev_mono (d := 2) (by decide) E46) ?_
    show gv_X _ _ (29, [(0, .inr (.inr (some 39)))], [.inl z46], sh, gc_h sh I47 J38 A)
    refine gv_if_eq (t := 44) hD rfl rfl ⟨by omega, by omega⟩ (fun c59 => ?_) (fun c59 => ?_)
    · show gv_X _ _ (44, [(0, .inr (.inr (some 39)))], [], sh, gc_h sh I47 J38 A)
      refine gv_pick [] rfl ?_
      exact L44 I47 J38 hI47 FI47 FJ38 KLT_I47 (by omega)
    · show gv_X _ _ (32, [(0, .inr (.inr (some 39)))], [], sh, gc_h sh I47 J38 A)
      refine gv_run 2 true hD (pc' := 34) (lv' := [(0, .inr (.inr (some 39)))]) (st' := [.inl 1, .inr (.inr (some 39))]) (h' := gc_h sh I47 J38 A) (C := ((True ∧ True) ∧ True)) rfl ⟨⟨trivial, trivial⟩, trivial⟩ ?_
      obtain ⟨r60, h60, E60, P60⟩ := d_X6_readValues (ws0 := ws0) (tb := tb) hws htb sh ro I47 J38 A hI47  t 1 hb  h_t G_t  ⟨by omega, by omega⟩ (by omega) (by omega) (by omega) (by omega) (by omega) (by omega) KLT_I47
      obtain ⟨I61, J62, rfl, hI61, g60, k60, KLT_I61, ⟨z60, rfl, q60⟩⟩ := P60
      have FI61 := gc_frc (W := fun q j => (q = 39 ∧ j = 3) ∨ (q = 39 ∧ j = 4) ∨ (q = 23 ∧ j = 5) ∨ (q = 23 ∧ j = 6) ∨ (q = 23 ∧ j = 7) ∨ (q = 23 ∧ j = 8) ∨ (q = 39 ∧ j = 6)) (V := fun q j => (q = 39 ∧ j = 3) ∨ (q = 39 ∧ j = 4) ∨ (q = 23 ∧ j = 5) ∨ (q = 23 ∧ j = 6) ∨ (q = 23 ∧ j = 7) ∨ (q = 23 ∧ j = 8) ∨ (q = 39 ∧ j = 6)) FI47 (fun q j h => (h.elim (fun h => (Or.inl h)) (fun h => (h.elim (fun h => (Or.inr (Or.inl h))) (fun h => (h.elim (fun h => (Or.inr (Or.inr (Or.inl h)))) (fun h => (h.elim (fun h => (Or.inr (Or.inr (Or.inr (Or.inl h))))) (fun h => (h.elim (fun h => (Or.inr (Or.inr (Or.inr (Or.inr (Or.inl h)))))) (fun h => (h.elim (fun h => (Or.inr (Or.inr (Or.inr (Or.inr (Or.inr (Or.inl h))))))) (fun h => (Or.inr (Or.inr (Or.inr (Or.inr (Or.inr (Or.inr h))))))))))))))))))) g60
      have FJ62 := gc_frc (W := fun q j => (q = 23 ∧ j = 9)) (V := fun q j => (q = 23 ∧ j = 9)) FJ38 (fun q j h => h) k60
      have t63 := (g60 23 1).resolve_left (by omega)
      have t64 := (g60 39 2).resolve_left (by omega)
      have f65 := (show 0 ≤ I61 23 1 ∧ I61 23 1 ≤ 1000 from gc_in hI61 R_23 rfl rfl)
      have f66 := (show 0 ≤ I61 23 5 ∧ I61 23 5 ≤ 1000 from gc_in hI61 R_23 rfl rfl)
      have f67 := (show 0 ≤ I61 23 6 ∧ I61 23 6 ≤ 1001 from gc_in hI61 R_23 rfl rfl)
      have f68 := (show 0 ≤ I61 23 7 ∧ I61 23 7 ≤ 125 from gc_in hI61 R_23 rfl rfl)
      have f69 := (show (-1) ≤ I61 39 2 ∧ I61 39 2 ≤ 999999 from gc_in hI61 R_39 rfl rfl)
      refine gv_callV hD rfl (As := [.inl 1]) (st := []) rfl B_39 S_39 rfl (gc_lV6 hws rfl) (Nat.le_of_ble_eq_true rfl) (gz_Ev_mono (d := 3) (by decide) E60) ?_
      show gv_X _ _ (37, [(0, .inr (.inr (some 39)))], [.inl z60], sh, gc_h sh I61 J62 A)
      refine gv_if_eq (t := 44) hD rfl rfl ⟨by omega, by omega⟩ (fun c70 => ?_) (fun c70 => ?_)
      · show gv_X _ _ (44, [(0, .inr (.inr (some 39)))], [], sh, gc_h sh I61 J62 A)
        refine gv_pick [] rfl ?_
        exact L44 I61 J62 hI61 FI61 FJ62 KLT_I61 (by omega)
      · show gv_X _ _ (40, [(0, .inr (.inr (some 39)))], [], sh, gc_h sh I61 J62 A)
        refine gv_run 2 true hD (pc' := 45) (lv' := [(0, .inr (.inr (some 39)))]) (st' := [.inl 1]) (h' := gc_h sh I61 J62 A) (C := ((True ∧ True) ∧ True)) rfl ⟨⟨trivial, trivial⟩, trivial⟩ ?_
        refine gv_pick [] rfl ?_
        exact L45 I61 J62 1 hI61 FI61 FJ62 KLT_I61 (by omega)
  · show gv_X _ _ (15, [(0, .inr (.inr (some 39)))], [], sh, gc_h sh I22 J A)
    refine gv_run 1 true hD (pc' := 16) (lv' := [(0, .inr (.inr (some 39)))]) (st' := [.inl 1]) (h' := gc_h sh I22 J A) (C := (True ∧ True)) rfl ⟨trivial, trivial⟩ ?_
    exact gv_zret hD rfl (by omega) ⟨I22, J, rfl, hI22, FI22, FJ, KLT_I22, ⟨_, rfl, by omega⟩⟩
set_option maxHeartbeats 4000000 in
set_option maxRecDepth 100000 in
theorem d_X6_readWord {ws0 : List Cond} {tb : String → gz_T} (hws : gc_Ws ws0) (htb : gc_tbs tb) (sh : gz_Sh) (ro : Nat → Nat) (I : gr_I) (J : gr_J) (A : gc_A) (hI : gc_Inv ro I) (t : Nat)  (hb : gc_Base sh ro A) (h_t : gc_isTongue sh ro A t) (G_t : 144 ≤ t)  (x0 : I 23 5 ≤ I 23 6) (x1 : I 23 7 = 5 ∨ I 23 6 ≤ I 23 1) (x2 : I 23 5 ≤ I 23 1) (x3 : I 23 7 = 4 ∨ (I 23 5 < I 23 6 ∧ I 23 5 < I 23 1)) (x4 : I 23 7 = 3 → 2 ≤ I 23 6 - I 23 5 ∧ I 23 6 - I 23 5 ≤ 14) (x5 : I 1 17 + I 23 1 ≤ 1280 + I 23 5) (x6 : I 39 2 = (t : Int)) (KLT_I : gc_LT I) : ∃ r h', gz_Ev ws0 tb 5 (yX6_readWord, cX6_readWord, 2, (some .boolean)) [.inr (.inr (some 39))] sh (gc_h sh I J A) r sh h' 0 0 ∧ (∃ (I' : gr_I) (J' : gr_J), h' = gc_h sh I' J' A ∧ gc_Inv ro I' ∧ (∀ q j : Nat, ((q = 39 ∧ j = 3) ∨ (q = 39 ∧ j = 4) ∨ (q = 23 ∧ j = 5) ∨ (q = 23 ∧ j = 6) ∨ (q = 23 ∧ j = 7) ∨ (q = 23 ∧ j = 8) ∨ (q = 1 ∧ j = 17) ∨ (q = 1 ∧ j = 18) ∨ q = 20 ∨ (q = 39 ∧ j = 6) ∨ (q = 39 ∧ j = 7) ∨ q = 41 ∨ q = (t + 15) ∨ (q = t ∧ j = 11)) ∨ I' q j = I q j) ∧ (∀ q j : Nat, ((q = 23 ∧ j = 9)) ∨ J' q j = J q j) ∧ gc_LT I' ∧ (∃ z : Int, r = some (.inl z) ∧ 0 ≤ z ∧ z ≤ 1 ∧ (I' 23 5 ≤ I' 23 6) ∧ (I' 23 7 = 5 ∨ I' 23 6 ≤ I' 23 1) ∧ (I' 23 5 ≤ I' 23 1) ∧ (I' 23 7 = 4 ∨ (I' 23 5 < I' 23 6 ∧ I' 23 5 < I' 23 1)) ∧ (I' 23 7 = 3 → 2 ≤ I' 23 6 - I' 23 5 ∧ I' 23 6 - I' 23 5 ≤ 14) ∧ (I' 23 1 = I 23 1) ∧ (I 23 5 ≤ I' 23 5) ∧ (I' 1 17 + I' 23 1 ≤ 1280 + I' 23 5))) := by
  have FI : ∀ q j : Nat, ((q = 39 ∧ j = 3) ∨ (q = 39 ∧ j = 4) ∨ (q = 23 ∧ j = 5) ∨ (q = 23 ∧ j = 6) ∨ (q = 23 ∧ j = 7) ∨ (q = 23 ∧ j = 8) ∨ (q = 1 ∧ j = 17) ∨ (q = 1 ∧ j = 18) ∨ q = 20 ∨ (q = 39 ∧ j = 6) ∨ (q = 39 ∧ j = 7) ∨ q = 41 ∨ q = (t + 15) ∨ (q = t ∧ j = 11)) ∨ I q j = I q j := fun _ _ => Or.inr rfl
  have FJ : ∀ q j : Nat, ((q = 23 ∧ j = 9)) ∨ J q j = J q j := fun _ _ => Or.inr rfl
  have A_1_1 : A 1 1 = some 4 := gc_bA hb rfl
  have A_1_7 : A 1 7 = some 12 := gc_bA hb rfl
  have A_39_0 : A 39 0 = some 1 := gc_bA hb rfl
  have A_39_1 : A 39 1 = some 23 := gc_bA hb rfl
  have A_39_10 : A 39 10 = some 41 := gc_bA hb rfl
  have B_1 : 1 < 1000000 := by decide
  have B_12 : 12 < 1000000 := by decide
  have B_23 : 23 < 1000000 := by decide
  have B_39 : 39 < 1000000 := by decide
  have B_4 : 4 < 1000000 := by decide
  have B_41 : 41 < 1000000 := by decide
  have R_1 : ro 1 = 22 := gc_bR hb (by decide) rfl
  have R_12 : ro 12 = 26 := gc_bR hb (by decide) rfl
  have R_23 : ro 23 = 3 := gc_bR hb (by decide) rfl
  have R_39 : ro 39 = 42 := gc_bR hb (by decide) rfl
  have R_4 : ro 4 = 11 := gc_bR hb (by decide) rfl
  have R_41 : ro 41 = 0 := gc_bR hb (by decide) rfl
  have S_1 : sh[1]? = some (false, 8, 21) := gc_bS hb rfl
  have S_12 : sh[12]? = some (true, 1, 96) := gc_bS hb rfl
  have S_23 : sh[23]? = some (false, 9, 10) := gc_bS hb rfl
  have S_39 : sh[39]? = some (false, 6, 19) := gc_bS hb rfl
  have S_4 : sh[4]? = some (false, 4, 2) := gc_bS hb rfl
  have S_41 : sh[41]? = some (true, 1, 25) := gc_bS hb rfl
  obtain ⟨S_t, R_t, B_t, A_t_0, h_t_1, A_t_1, h_t_3, A_t_2, S_t_5, R_t_5, B_t_5, A_t_3, S_t_6, R_t_6, B_t_6, A_t_4, h_t_7, A_t_5, S_t_9, R_t_9, B_t_9, A_t_7, S_t_10, R_t_10, B_t_10, A_t_8, h_t_11, A_t_9, S_t_13, R_t_13, B_t_13, A_t_10, S_t_14, R_t_14, B_t_14, A_t_12, S_t_15, R_t_15, B_t_15, A_t_14, S_t_16, R_t_16, B_t_16, A_t_15, h_t_17⟩ := id h_t
  obtain ⟨S_t_1, R_t_1, B_t_1, A_t_1_0, S_t_1_1, R_t_1_1, B_t_1_1, Q0_t_1, Q1_t_1, Q2_t_1⟩ := id h_t_1
  obtain ⟨S_t_3, R_t_3, B_t_3, A_t_3_0, S_t_3_1, R_t_3_1, B_t_3_1, Q0_t_3, Q1_t_3, Q2_t_3⟩ := id h_t_3
  obtain ⟨S_t_7, R_t_7, B_t_7, A_t_7_0, S_t_7_1, R_t_7_1, B_t_7_1, Q0_t_7, Q1_t_7, Q2_t_7⟩ := id h_t_7
  obtain ⟨S_t_11, R_t_11, B_t_11, A_t_11_0, S_t_11_1, R_t_11_1, B_t_11_1, Q0_t_11, Q1_t_11, Q2_t_11⟩ := id h_t_11
  obtain ⟨S_t_17, R_t_17, B_t_17, A_t_17_0, S_20, R_20, B_20, A_t_17_1, S_t_17_1, R_t_17_1, B_t_17_1, A_t_17_2, S_t_17_2, R_t_17_2, B_t_17_2, A_t_17_3, S_t_17_3, R_t_17_3, B_t_17_3, A_t_17_4, S_t_17_4, R_t_17_4, B_t_17_4, A_t_17_5, S_t_17_5, R_t_17_5, B_t_17_5, S_t_17_6, R_t_17_6, B_t_17_6, S_t_17_7, R_t_17_7, B_t_17_7⟩ := id h_t_17
  have hD : gv_D (gc_E6 ws0 tb 4 (yX6_readWord, cX6_readWord, 2, (some .boolean)) kX6_readWord) := gq_ok oX6_readWord
  refine gc_ev6 (d := 4) (l := kX6_readWord) (Po := fun r h' => (∃ (I' : gr_I) (J' : gr_J), h' = gc_h sh I' J' A ∧ gc_Inv ro I' ∧ (∀ q j : Nat, ((q = 39 ∧ j = 3) ∨ (q = 39 ∧ j = 4) ∨ (q = 23 ∧ j = 5) ∨ (q = 23 ∧ j = 6) ∨ (q = 23 ∧ j = 7) ∨ (q = 23 ∧ j = 8) ∨ (q = 1 ∧ j = 17) ∨ (q = 1 ∧ j = 18) ∨ q = 20 ∨ (q = 39 ∧ j = 6) ∨ (q = 39 ∧ j = 7) ∨ q = 41 ∨ q = (t + 15) ∨ (q = t ∧ j = 11)) ∨ I' q j = I q j) ∧ (∀ q j : Nat, ((q = 23 ∧ j = 9)) ∨ J' q j = J q j) ∧ gc_LT I' ∧ (∃ z : Int, r = some (.inl z) ∧ 0 ≤ z ∧ z ≤ 1 ∧ (I' 23 5 ≤ I' 23 6) ∧ (I' 23 7 = 5 ∨ I' 23 6 ≤ I' 23 1) ∧ (I' 23 5 ≤ I' 23 1) ∧ (I' 23 7 = 4 ∨ (I' 23 5 < I' 23 6 ∧ I' 23 5 < I' 23 1)) ∧ (I' 23 7 = 3 → 2 ≤ I' 23 6 - I' 23 5 ∧ I' 23 6 - I' 23 5 ≤ 14) ∧ (I' 23 1 = I 23 1) ∧ (I 23 5 ≤ I' 23 5) ∧ (I' 1 17 + I' 23 1 ≤ 1280 + I' 23 5)))) htb rfl (Nat.le_of_ble_eq_true rfl) ?_
  have f1 := (show 0 ≤ I 23 1 ∧ I 23 1 ≤ 1000 from gc_in hI R_23 rfl rfl)
  have f2 := (show 0 ≤ I 23 5 ∧ I 23 5 ≤ 1000 from gc_in hI R_23 rfl rfl)
  have f3 := (show 0 ≤ I 23 6 ∧ I 23 6 ≤ 1001 from gc_in hI R_23 rfl rfl)
  have f4 := (show 0 ≤ I 23 7 ∧ I 23 7 ≤ 125 from gc_in hI R_23 rfl rfl)
  have f5 := (show 0 ≤ I 1 17 ∧ I 1 17 ≤ 12000 from gc_in hI R_1 rfl rfl)
  have f6 := (show 0 ≤ I 4 1 ∧ I 4 1 ≤ 96 from gc_in hI R_4 rfl rfl)
  have f7 := (show 0 ≤ I (t + 11) 1 ∧ I (t + 11) 1 ≤ 24 from gc_in hI R_t_11 rfl rfl)
  have f8 := (show 0 ≤ I t 11 ∧ I t 11 ≤ 64 from gc_in hI R_t rfl rfl)
  have f9 := (show (-1) ≤ I 39 2 ∧ I 39 2 ≤ 999999 from gc_in hI R_39 rfl rfl)
  have L156 : ∀ (I10 : gr_I) (J11 : gr_J) , gc_Inv ro I10 → (∀ q j : Nat, ((q = 39 ∧ j = 3) ∨ (q = 39 ∧ j = 4) ∨ (q = 23 ∧ j = 5) ∨ (q = 23 ∧ j = 6) ∨ (q = 23 ∧ j = 7) ∨ (q = 23 ∧ j = 8) ∨ (q = 1 ∧ j = 17) ∨ (q = 1 ∧ j = 18) ∨ q = 20 ∨ (q = 39 ∧ j = 6) ∨ (q = 39 ∧ j = 7) ∨ q = 41 ∨ q = (t + 15) ∨ (q = t ∧ j = 11)) ∨ I10 q j = I q j) → (∀ q j : Nat, ((q = 23 ∧ j = 9)) ∨ J11 q j = J q j) → gc_LT I10 → ((I10 23 5 ≤ I10 23 6) ∧ (I10 23 7 = 5 ∨ I10 23 6 ≤ I10 23 1) ∧ (I10 23 5 ≤ I10 23 1) ∧ (I10 23 7 = 4 ∨ (I10 23 5 < I10 23 6 ∧ I10 23 5 < I10 23 1)) ∧ (I10 23 7 = 3 → 2 ≤ I10 23 6 - I10 23 5 ∧ I10 23 6 - I10 23 5 ≤ 14) ∧ (I10 23 1 = I 23 1) ∧ (I 23 5 ≤ I10 23 5) ∧ (I10 1 17 + I10 23 1 ≤ 1280 + I10 23 5) ∧ (I10 39 2 = (t : Int))) → gv_X (gc_E6 ws0 tb 4 (yX6_readWord, cX6_readWord, 2, (some .boolean)) kX6_readWord) (gv_Q cX6_readWord (some .boolean) sh (fun r h' => (∃ (I' : gr_I) (J' : gr_J), h' = gc_h sh I' J' A ∧ gc_Inv ro I' ∧ (∀ q j : Nat, ((q = 39 ∧ j = 3) ∨ (q = 39 ∧ j = 4) ∨ (q = 23 ∧ j = 5) ∨ (q = 23 ∧ j = 6) ∨ (q = 23 ∧ j = 7) ∨ (q = 23 ∧ j = 8) ∨ (q = 1 ∧ j = 17) ∨ (q = 1 ∧ j = 18) ∨ q = 20 ∨ (q = 39 ∧ j = 6) ∨ (q = 39 ∧ j = 7) ∨ q = 41 ∨ q = (t + 15) ∨ (q = t ∧ j = 11)) ∨ I' q j = I q j) ∧ (∀ q j : Nat, ((q = 23 ∧ j = 9)) ∨ J' q j = J q j) ∧ gc_LT I' ∧ (∃ z : Int, r = some (.inl z) ∧ 0 ≤ z ∧ z ≤ 1 ∧ (I' 23 5 ≤ I' 23 6) ∧ (I' 23 7 = 5 ∨ I' 23 6 ≤ I' 23 1) ∧ (I' 23 5 ≤ I' 23 1) ∧ (I' 23 7 = 4 ∨ (I' 23 5 < I' 23 6 ∧ I' 23 5 < I' 23 1)) ∧ (I' 23 7 = 3 → 2 ≤ I' 23 6 - I' 23 5 ∧ I' 23 6 - I' 23 5 ≤ 14) ∧ (I' 23 1 = I 23 1) ∧ (I 23 5 ≤ I' 23 5) ∧ (I' 1 17 + I' 23 1 ≤ 1280 + I' 23 5))))) (156, [], [], sh, gc_h sh I10 J11 A) := by
    intro I10 J11 hI10 FI10 FJ11 KLT_I10 m_12
    clear x0 x1 x2 x3 x4
    obtain ⟨e0_12, e1_12, e2_12, e3_12, e4_12, e5_12, e6_12, e7_12, e8_12⟩ := m_12
    have f13 := (show 0 ≤ I10 23 1 ∧ I10 23 1 ≤ 1000 from gc_in hI10 R_23 rfl rfl)
    have f14 := (show 0 ≤ I10 23 5 ∧ I10 23 5 ≤ 1000 from gc_in hI10 R_23 rfl rfl)
    have f15 := (show 0 ≤ I10 23 6 ∧ I10 23 6 ≤ 1001 from gc_in hI10 R_23 rfl rfl)
    have f16 := (show 0 ≤ I10 23 7 ∧ I10 23 7 ≤ 125 from gc_in hI10 R_23 rfl rfl)
    have f17 := (show 0 ≤ I10 1 17 ∧ I10 1 17 ≤ 12000 from gc_in hI10 R_1 rfl rfl)
    have f18 := (show 0 ≤ I10 4 1 ∧ I10 4 1 ≤ 96 from gc_in hI10 R_4 rfl rfl)
    have f19 := (show 0 ≤ I10 (t + 11) 1 ∧ I10 (t + 11) 1 ≤ 24 from gc_in hI10 R_t_11 rfl rfl)
    have f20 := (show 0 ≤ I10 t 11 ∧ I10 t 11 ≤ 64 from gc_in hI10 R_t rfl rfl)
    have f21 := (show (-1) ≤ I10 39 2 ∧ I10 39 2 ≤ 999999 from gc_in hI10 R_39 rfl rfl)
    refine gv_run 1 true hD (pc' := 157) (lv' := []) (st' := [.inl 0]) (h' := gc_h sh I10 J11 A) (C := (True ∧ True)) rfl ⟨trivial, trivial⟩ ?_
    exact gv_zret hD rfl (by omega) ⟨I10, J11, rfl, hI10, FI10, FJ11, KLT_I10, ⟨_, rfl, by omega⟩⟩
  have L196 : ∀ (I22 : gr_I) (J23 : gr_J) (s1_24 : Int), gc_Inv ro I22 → (∀ q j : Nat, ((q = 39 ∧ j = 3) ∨ (q = 39 ∧ j = 4) ∨ (q = 23 ∧ j = 5) ∨ (q = 23 ∧ j = 6) ∨ (q = 23 ∧ j = 7) ∨ (q = 23 ∧ j = 8) ∨ (q = 1 ∧ j = 17) ∨ (q = 1 ∧ j = 18) ∨ q = 20 ∨ (q = 39 ∧ j = 6) ∨ (q = 39 ∧ j = 7) ∨ q = 41 ∨ q = (t + 15) ∨ (q = t ∧ j = 11)) ∨ I22 q j = I q j) → (∀ q j : Nat, ((q = 23 ∧ j = 9)) ∨ J23 q j = J q j) → gc_LT I22 → gc_row 41 11 gc_fW I22 → ((0 ≤ s1_24 ∧ s1_24 ≤ 1) ∧ (s1_24 = 1 ∨ I22 t 11 < 64) ∧ (I22 23 5 ≤ I22 23 6) ∧ (I22 23 7 = 5 ∨ I22 23 6 ≤ I22 23 1) ∧ (I22 23 5 ≤ I22 23 1) ∧ (I22 23 7 = 4 ∨ (I22 23 5 < I22 23 6 ∧ I22 23 5 < I22 23 1)) ∧ (I22 23 7 = 3 → 2 ≤ I22 23 6 - I22 23 5 ∧ I22 23 6 - I22 23 5 ≤ 14) ∧ (I22 23 1 = I 23 1) ∧ (I 23 5 ≤ I22 23 5) ∧ (I22 1 17 + I22 23 1 ≤ 1280 + I22 23 5) ∧ (I22 39 2 = (t : Int))) → gv_X (gc_E6 ws0 tb 4 (yX6_readWord, cX6_readWord, 2, (some .boolean)) kX6_readWord) (gv_Q cX6_readWord (some .boolean) sh (fun r h' => (∃ (I' : gr_I) (J' : gr_J), h' = gc_h sh I' J' A ∧ gc_Inv ro I' ∧ (∀ q j : Nat, ((q = 39 ∧ j = 3) ∨ (q = 39 ∧ j = 4) ∨ (q = 23 ∧ j = 5) ∨ (q = 23 ∧ j = 6) ∨ (q = 23 ∧ j = 7) ∨ (q = 23 ∧ j = 8) ∨ (q = 1 ∧ j = 17) ∨ (q = 1 ∧ j = 18) ∨ q = 20 ∨ (q = 39 ∧ j = 6) ∨ (q = 39 ∧ j = 7) ∨ q = 41 ∨ q = (t + 15) ∨ (q = t ∧ j = 11)) ∨ I' q j = I q j) ∧ (∀ q j : Nat, ((q = 23 ∧ j = 9)) ∨ J' q j = J q j) ∧ gc_LT I' ∧ (∃ z : Int, r = some (.inl z) ∧ 0 ≤ z ∧ z ≤ 1 ∧ (I' 23 5 ≤ I' 23 6) ∧ (I' 23 7 = 5 ∨ I' 23 6 ≤ I' 23 1) ∧ (I' 23 5 ≤ I' 23 1) ∧ (I' 23 7 = 4 ∨ (I' 23 5 < I' 23 6 ∧ I' 23 5 < I' 23 1)) ∧ (I' 23 7 = 3 → 2 ≤ I' 23 6 - I' 23 5 ∧ I' 23 6 - I' 23 5 ≤ 14) ∧ (I' 23 1 = I 23 1) ∧ (I 23 5 ≤ I' 23 5) ∧ (I' 1 17 + I' 23 1 ≤ 1280 + I' 23 5))))) (196, [(0, .inr (.inr (some 39)))], [.inl s1_24, .inr (.inr (some 39))], sh, gc_h sh I22 J23 A) := by
    intro I22 J23 s1_24 hI22 FI22 FJ23 KLT_I22 KRW_I22 m_24
    clear x0 x1 x2 x3 x4
    obtain ⟨hs1_24, e0_24, e1_24, e2_24, e3_24, e4_24, e5_24, e6_24, e7_24, e8_24, e9_24⟩ := m_24
    have f25 := (show 0 ≤ I22 23 1 ∧ I22 23 1 ≤ 1000 from gc_in hI22 R_23 rfl rfl)
    have f26 := (show 0 ≤ I22 23 5 ∧ I22 23 5 ≤ 1000 from gc_in hI22 R_23 rfl rfl)
    have f27 := (show 0 ≤ I22 23 6 ∧ I22 23 6 ≤ 1001 from gc_in hI22 R_23 rfl rfl)
    have f28 := (show 0 ≤ I22 23 7 ∧ I22 23 7 ≤ 125 from gc_in hI22 R_23 rfl rfl)
    have f29 := (show 0 ≤ I22 1 17 ∧ I22 1 17 ≤ 12000 from gc_in hI22 R_1 rfl rfl)
    have f30 := (show 0 ≤ I22 4 1 ∧ I22 4 1 ≤ 96 from gc_in hI22 R_4 rfl rfl)
    have f31 := (show 0 ≤ I22 (t + 11) 1 ∧ I22 (t + 11) 1 ≤ 24 from gc_in hI22 R_t_11 rfl rfl)
    have f32 := (show 0 ≤ I22 t 11 ∧ I22 t 11 ≤ 64 from gc_in hI22 R_t rfl rfl)
    have f33 := (show (-1) ≤ I22 39 2 ∧ I22 39 2 ≤ 999999 from gc_in hI22 R_39 rfl rfl)
    obtain ⟨r34, h34, E34, P34⟩ := d_X6_closes (ws0 := ws0) (tb := tb) hws htb sh ro I22 J23 A hI22  s1_24 hb   ⟨by omega, by omega⟩ (by omega) (by omega) (by omega) (by omega) (by omega) KLT_I22
    obtain ⟨I35, J36, rfl, hI35, g34, k34, KLT_I35, ⟨z34, rfl, q34⟩⟩ := P34
    have FI35 := gc_frc (W := fun q j => (q = 39 ∧ j = 3) ∨ (q = 39 ∧ j = 4) ∨ (q = 23 ∧ j = 5) ∨ (q = 23 ∧ j = 6) ∨ (q = 23 ∧ j = 7) ∨ (q = 23 ∧ j = 8) ∨ (q = 1 ∧ j = 17) ∨ (q = 1 ∧ j = 18) ∨ q = 20 ∨ (q = 39 ∧ j = 6) ∨ (q = 39 ∧ j = 7) ∨ q = 41 ∨ q = (t + 15) ∨ (q = t ∧ j = 11)) (V := fun q j => (q = 39 ∧ j = 3) ∨ (q = 39 ∧ j = 4) ∨ (q = 23 ∧ j = 5) ∨ (q = 23 ∧ j = 6) ∨ (q = 23 ∧ j = 7) ∨ (q = 23 ∧ j = 8)) FI22 (fun q j h => (h.elim (fun h => (Or.inl h)) (fun h => (h.elim (fun h => (Or.inr (Or.inl h))) (fun h => (h.elim (fun h => (Or.inr (Or.inr (Or.inl h)))) (fun h => (h.elim (fun h => (Or.inr (Or.inr (Or.inr (Or.inl h))))) (fun h => (h.elim (fun h => (Or.inr (Or.inr (Or.inr (Or.inr (Or.inl h)))))) (fun h => (Or.inr (Or.inr (Or.inr (Or.inr (Or.inr (Or.inl h))))))))))))))))) g34
    have FJ36 := gc_frc (W := fun q j => (q = 23 ∧ j = 9)) (V := fun q j => (q = 23 ∧ j = 9)) FJ23 (fun q j h => h) k34
    have t37 := (g34 23 1).resolve_left (by omega)
    have t38 := (g34 1 17).resolve_left (by omega)
    have t39 := (g34 4 1).resolve_left (by omega)
    have t40 := (g34 (t + 11) 1).resolve_left (by omega)
    have t41 := (g34 t 11).resolve_left (by omega)
    have t42 := (g34 39 2).resolve_left (by omega)
    have f43 := (show 0 ≤ I35 23 1 ∧ I35 23 1 ≤ 1000 from gc_in hI35 R_23 rfl rfl)
    have f44 := (show 0 ≤ I35 23 5 ∧ I35 23 5 ≤ 1000 from gc_in hI35 R_23 rfl rfl)
    have f45 := (show 0 ≤ I35 23 6 ∧ I35 23 6 ≤ 1001 from gc_in hI35 R_23 rfl rfl)
    have f46 := (show 0 ≤ I35 23 7 ∧ I35 23 7 ≤ 125 from gc_in hI35 R_23 rfl rfl)
    have f47 := (show 0 ≤ I35 1 17 ∧ I35 1 17 ≤ 12000 from gc_in hI35 R_1 rfl rfl)
    have f48 := (show 0 ≤ I35 4 1 ∧ I35 4 1 ≤ 96 from gc_in hI35 R_4 rfl rfl)
    have f49 := (show 0 ≤ I35 (t + 11) 1 ∧ I35 (t + 11) 1 ≤ 24 from gc_in hI35 R_t_11 rfl rfl)
    have f50 := (show 0 ≤ I35 t 11 ∧ I35 t 11 ≤ 64 from gc_in hI35 R_t rfl rfl)
    have f51 := (show (-1) ≤ I35 39 2 ∧ I35 39 2 ≤ 999999 from gc_in hI35 R_39 rfl rfl)
    have KRW_I35 := gc_row_fr KRW_I22 (fun k => (g34 41 k).resolve_left (by omega))
    refine gv_callV hD rfl (As := [.inl s1_24]) (st := []) rfl B_39 S_39 rfl (gc_lV6 hws rfl) (Nat.le_of_ble_eq_true rfl) (gz_Ev_mono (d := 4) (by decide) E34) ?_
    show gv_X _ _ (199, [(0, .inr (.inr (some 39)))], [.inl z34], sh, gc_h sh I35 J36 A)
    refine gv_if_ne (t := 204) hD rfl rfl ⟨by omega, by omega⟩ (fun c52 => ?_) (fun c52 => ?_)
    · show gv_X _ _ (204, [(0, .inr (.inr (some 39)))], [], sh, gc_h sh I35 J36 A)
      refine gv_run 1 true hD (pc' := 205) (lv' := [(0, .inr (.inr (some 39)))]) (st' := [.inr (.inr (some 39))]) (h' := gc_h sh I35 J36 A) (C := (True ∧ True)) rfl ⟨trivial, trivial⟩ ?_
      refine gv_get hD rfl rfl S_39 ⟨by decide, B_39⟩ (gc_hA S_39 rfl A_39_10) ?_
      show gv_X _ _ (208, [(0, .inr (.inr (some 39)))], [.inr (.inr (some 41))], sh, gc_h sh I35 J36 A)
      refine gv_run 2 true hD (pc' := 210) (lv' := [(0, .inr (.inr (some 39)))]) (st' := [.inr (.inr (some 39)), .inl 0, .inr (.inr (some 41))]) (h' := gc_h sh I35 J36 A) (C := ((True ∧ True) ∧ True)) rfl ⟨⟨trivial, trivial⟩, trivial⟩ ?_
      refine gv_get hD rfl rfl S_39 ⟨by decide, B_39⟩ (gc_h5 (t := t) S_39 rfl (by omega)) ?_
      show gv_X _ _ (213, [(0, .inr (.inr (some 39)))], [.inr (.inr (some t)), .inl 0, .inr (.inr (some 41))], sh, gc_h sh I35 J36 A)
      refine gv_get hD rfl rfl S_t ⟨by decide, B_t⟩ (gc_hA S_t rfl A_t_12) ?_
      show gv_X _ _ (216, [(0, .inr (.inr (some 39)))], [.inr (.inr (some (t + 15))), .inl 0, .inr (.inr (some 41))], sh, gc_h sh I35 J36 A)
      refine gv_run 1 true hD (pc' := 217) (lv' := [(0, .inr (.inr (some 39)))]) (st' := [.inr (.inr (some 39)), .inr (.inr (some (t + 15))), .inl 0, .inr (.inr (some 41))]) (h' := gc_h sh I35 J36 A) (C := (True ∧ True)) rfl ⟨trivial, trivial⟩ ?_
      refine gv_get hD rfl rfl S_39 ⟨by decide, B_39⟩ (gc_h5 (t := t) S_39 rfl (by omega)) ?_
      show gv_X _ _ (220, [(0, .inr (.inr (some 39)))], [.inr (.inr (some t)), .inr (.inr (some (t + 15))), .inl 0, .inr (.inr (some 41))], sh, gc_h sh I35 J36 A)
      have f53 := (show 0 ≤ I35 t 11 ∧ I35 t 11 ≤ 64 from gc_in hI35 R_t rfl rfl)
      refine gv_get hD rfl rfl S_t ⟨by decide, B_t⟩ (gc_hI S_t rfl) ?_
      show gv_X _ _ (223, [(0, .inr (.inr (some 39)))], [.inl (I35 t 11), .inr (.inr (some (t + 15))), .inl 0, .inr (.inr (some 41))], sh, gc_h sh I35 J36 A)
      refine gv_run 3 true hD (pc' := 228) (lv' := [(0, .inr (.inr (some 39)))]) (st' := [.inl 11, .inl ((I35 t 11) * 11), .inr (.inr (some (t + 15))), .inl 0, .inr (.inr (some 41))]) (h' := gc_h sh I35 J36 A) (C := (((True ∧ True) ∧ True) ∧ True)) rfl ⟨⟨⟨trivial, trivial⟩, trivial⟩, trivial⟩ ?_
      refine gv_copy hD rfl (gc_lC6_263 hws) (Nat.le_of_ble_eq_true rfl) ⟨B_41, B_t_15⟩ S_41 S_t_15 (by decide) ⟨by decide, by decide⟩ ⟨by omega, by omega, by omega⟩ (by omega) (by omega) (fun h => absurd h (by decide)) ?_
      refine gc_cp hI35 S_41 S_t_15 (by decide) (fun j hj => gc_RW_cp KRW_I35 R_t_15 (by omega) (by decide) hj) (fun I55 hI55 p54 q54 => ?_)
      have FI55 := gc_frp (W := fun q j => (q = 39 ∧ j = 3) ∨ (q = 39 ∧ j = 4) ∨ (q = 23 ∧ j = 5) ∨ (q = 23 ∧ j = 6) ∨ (q = 23 ∧ j = 7) ∨ (q = 23 ∧ j = 8) ∨ (q = 1 ∧ j = 17) ∨ (q = 1 ∧ j = 18) ∨ q = 20 ∨ (q = 39 ∧ j = 6) ∨ (q = 39 ∧ j = 7) ∨ q = 41 ∨ q = (t + 15) ∨ (q = t ∧ j = 11)) (V := fun q j => q = (t + 15) ∧ Int.toNat (((I35 t 11) * 11)) ≤ j ∧ j < Int.toNat (((I35 t 11) * 11)) + Int.toNat 11) FI35 (fun q j h => (Or.inr (Or.inr (Or.inr (Or.inr (Or.inr (Or.inr (Or.inr (Or.inr (Or.inr (Or.inr (Or.inr (Or.inr (Or.inl h.1)))))))))))))) p54
      have KLT_I55 := gc_LT_fr KLT_I35 (p54 23 5 (fun h => absurd h.1 (by omega))) (p54 23 6 (fun h => absurd h.1 (by omega))) (p54 23 7 (fun h => absurd h.1 (by omega))) (fun k => p54 24 k (fun h => absurd h.1 (by omega)))
      have KRW_I55 := gc_row_fr KRW_I35 (fun k => p54 41 k (fun h => absurd h.1 (by omega)))
      have t57 := p54 23 1 (fun h => absurd h.1 (by omega))
      have t58 := p54 23 5 (fun h => absurd h.1 (by omega))
      have t59 := p54 23 6 (fun h => absurd h.1 (by omega))
      have t60 := p54 23 7 (fun h => absurd h.1 (by omega))
      have t61 := p54 1 17 (fun h => absurd h.1 (by omega))
      have t62 := p54 4 1 (fun h => absurd h.1 (by omega))
      have t63 := p54 (t + 11) 1 (fun h => absurd h.1 (by omega))
      have t64 := p54 t 11 (fun h => absurd h.1 (by omega))
      have t65 := p54 39 2 (fun h => absurd h.1 (by omega))
      have f66 := (show 0 ≤ I55 23 1 ∧ I55 23 1 ≤ 1000 from gc_in hI55 R_23 rfl rfl)
      have f67 := (show 0 ≤ I55 23 5 ∧ I55 23 5 ≤ 1000 from gc_in hI55 R_23 rfl rfl)
      have f68 := (show 0 ≤ I55 23 6 ∧ I55 23 6 ≤ 1001 from gc_in hI55 R_23 rfl rfl)
      have f69 := (show 0 ≤ I55 23 7 ∧ I55 23 7 ≤ 125 from gc_in hI55 R_23 rfl rfl)
      have f70 := (show 0 ≤ I55 1 17 ∧ I55 1 17 ≤ 12000 from gc_in hI55 R_1 rfl rfl)
      have f71 := (show 0 ≤ I55 4 1 ∧ I55 4 1 ≤ 96 from gc_in hI55 R_4 rfl rfl)
      have f72 := (show 0 ≤ I55 (t + 11) 1 ∧ I55 (t + 11) 1 ≤ 24 from gc_in hI55 R_t_11 rfl rfl)
      have f73 := (show 0 ≤ I55 t 11 ∧ I55 t 11 ≤ 64 from gc_in hI55 R_t rfl rfl)
      have f74 := (show (-1) ≤ I55 39 2 ∧ I55 39 2 ≤ 999999 from gc_in hI55 R_39 rfl rfl)
      show gv_X _ _ (231, [(0, .inr (.inr (some 39)))], [], sh, gc_h sh I55 J36 A)
      refine gv_run 1 true hD (pc' := 232) (lv' := [(0, .inr (.inr (some 39)))]) (st' := [.inr (.inr (some 39))]) (h' := gc_h sh I55 J36 A) (C := (True ∧ True)) rfl ⟨trivial, trivial⟩ ?_
      refine gv_get hD rfl rfl S_39 ⟨by decide, B_39⟩ (gc_h5 (t := t) S_39 rfl (by omega)) ?_
      show gv_X _ _ (235, [(0, .inr (.inr (some 39)))], [.inr (.inr (some t))], sh, gc_h sh I55 J36 A)
      refine gv_run 1 true hD (pc' := 236) (lv' := [(0, .inr (.inr (some 39)))]) (st' := [.inr (.inr (some t)), .inr (.inr (some t))]) (h' := gc_h sh I55 J36 A) (C := (True ∧ True)) rfl ⟨trivial, trivial⟩ ?_
      have f75 := (show 0 ≤ I55 t 11 ∧ I55 t 11 ≤ 64 from gc_in hI55 R_t rfl rfl)
      refine gv_get hD rfl rfl S_t ⟨by decide, B_t⟩ (gc_hI S_t rfl) ?_
      show gv_X _ _ (239, [(0, .inr (.inr (some 39)))], [.inl (I55 t 11), .inr (.inr (some t))], sh, gc_h sh I55 J36 A)
      refine gv_run 2 true hD (pc' := 241) (lv' := [(0, .inr (.inr (some 39)))]) (st' := [.inl ((I55 t 11) + 1), .inr (.inr (some t))]) (h' := gc_h sh I55 J36 A) (C := ((True ∧ True) ∧ True)) rfl ⟨⟨trivial, trivial⟩, trivial⟩ ?_
      refine gv_put hD rfl rfl S_t ⟨by decide, B_t⟩ rfl trivial ?_
      refine gc_st (k := 11) hI55 S_t rfl R_t (lo := 0) (hi := 64) rfl rfl (by omega) (by omega) (fun I76 hI76 q77 p77 => ?_)
      have FI76 := gc_frs (W := fun q j => (q = 39 ∧ j = 3) ∨ (q = 39 ∧ j = 4) ∨ (q = 23 ∧ j = 5) ∨ (q = 23 ∧ j = 6) ∨ (q = 23 ∧ j = 7) ∨ (q = 23 ∧ j = 8) ∨ (q = 1 ∧ j = 17) ∨ (q = 1 ∧ j = 18) ∨ q = 20 ∨ (q = 39 ∧ j = 6) ∨ (q = 39 ∧ j = 7) ∨ q = 41 ∨ q = (t + 15) ∨ (q = t ∧ j = 11)) FI55 (Or.inr (Or.inr (Or.inr (Or.inr (Or.inr (Or.inr (Or.inr (Or.inr (Or.inr (Or.inr (Or.inr (Or.inr (Or.inr ⟨rfl, rfl⟩))))))))))))) p77
      have t78 := p77 23 1 (fun h => absurd h.1 (by omega))
      have t79 := p77 23 5 (fun h => absurd h.1 (by omega))
      have t80 := p77 23 6 (fun h => absurd h.1 (by omega))
      have t81 := p77 23 7 (fun h => absurd h.1 (by omega))
      have t82 := p77 1 17 (fun h => absurd h.1 (by omega))
      have t83 := p77 4 1 (fun h => absurd h.1 (by omega))
      have t84 := p77 (t + 11) 1 (fun h => absurd h.1 (by omega))
      have t85 := p77 39 2 (fun h => absurd h.1 (by omega))
      have f86 := (show 0 ≤ I76 23 1 ∧ I76 23 1 ≤ 1000 from gc_in hI76 R_23 rfl rfl)
      have f87 := (show 0 ≤ I76 23 5 ∧ I76 23 5 ≤ 1000 from gc_in hI76 R_23 rfl rfl)
      have f88 := (show 0 ≤ I76 23 6 ∧ I76 23 6 ≤ 1001 from gc_in hI76 R_23 rfl rfl)
      have f89 := (show 0 ≤ I76 23 7 ∧ I76 23 7 ≤ 125 from gc_in hI76 R_23 rfl rfl)
      have f90 := (show 0 ≤ I76 1 17 ∧ I76 1 17 ≤ 12000 from gc_in hI76 R_1 rfl rfl)
      have f91 := (show 0 ≤ I76 4 1 ∧ I76 4 1 ≤ 96 from gc_in hI76 R_4 rfl rfl)
      have f92 := (show 0 ≤ I76 (t + 11) 1 ∧ I76 (t + 11) 1 ≤ 24 from gc_in hI76 R_t_11 rfl rfl)
      have f93 := (show 0 ≤ I76 t 11 ∧ I76 t 11 ≤ 64 from gc_in hI76 R_t rfl rfl)
      have f94 := (show (-1) ≤ I76 39 2 ∧ I76 39 2 ≤ 999999 from gc_in hI76 R_39 rfl rfl)
      have KLT_I76 := gc_LT_fr KLT_I55 (p77 23 5 (fun h => absurd h.1 (by omega))) (p77 23 6 (fun h => absurd h.1 (by omega))) (p77 23 7 (fun h => absurd h.1 (by omega))) (fun k => p77 24 k (fun h => absurd h.1 (by omega)))
      have KRW_I76 := gc_row_fr KRW_I55 (fun k => p77 41 k (fun h => absurd h.1 (by omega)))
      show gv_X _ _ (244, [(0, .inr (.inr (some 39)))], [], sh, gc_h sh I76 J36 A)
      refine gv_run 1 true hD (pc' := 245) (lv' := [(0, .inr (.inr (some 39)))]) (st' := [.inl 1]) (h' := gc_h sh I76 J36 A) (C := (True ∧ True)) rfl ⟨trivial, trivial⟩ ?_
      exact gv_zret hD rfl (by omega) ⟨I76, J36, rfl, hI76, FI76, FJ36, KLT_I76, ⟨_, rfl, by omega⟩⟩
    · show gv_X _ _ (202, [(0, .inr (.inr (some 39)))], [], sh, gc_h sh I35 J36 A)
      refine gv_run 1 true hD (pc' := 203) (lv' := [(0, .inr (.inr (some 39)))]) (st' := [.inl 0]) (h' := gc_h sh I35 J36 A) (C := (True ∧ True)) rfl ⟨trivial, trivial⟩ ?_
      exact gv_zret hD rfl (by omega) ⟨I35, J36, rfl, hI35, FI35, FJ36, KLT_I35, ⟨_, rfl, by omega⟩⟩
  refine gv_run 2 true hD (pc' := 2) (lv' := [(0, .inr (.inr (some 39)))]) (st' := [.inr (.inr (some 39)), .inr (.inr (some 39))]) (h' := gc_h sh I J A) (C := ((True ∧ True) ∧ True)) rfl ⟨⟨trivial, trivial⟩, trivial⟩ ?_
  refine gv_get hD rfl rfl S_39 ⟨by decide, B_39⟩ (gc_hA S_39 rfl A_39_0) ?_
  show gv_X _ _ (5, [(0, .inr (.inr (some 39)))], [.inr (.inr (some 1)), .inr (.inr (some 39))], sh, gc_h sh I J A)
  refine gv_get hD rfl rfl S_1 ⟨by decide, B_1⟩ (gc_hA S_1 rfl A_1_1) ?_
  show gv_X _ _ (8, [(0, .inr (.inr (some 39)))], [.inr (.inr (some 4)), .inr (.inr (some 39))], sh, gc_h sh I J A)
  obtain ⟨r95, h95, E95, P95⟩ := d_X6_needKnown (ws0 := ws0) (tb := tb) hws htb sh ro I J A hI  96 11 4 hb (gc_b4 hb)    
  obtain ⟨I96, J97, rfl, hI96, g95, k95, ⟨z95, rfl, q95⟩⟩ := P95
  have FI96 := gc_frc (W := fun q j => (q = 39 ∧ j = 3) ∨ (q = 39 ∧ j = 4) ∨ (q = 23 ∧ j = 5) ∨ (q = 23 ∧ j = 6) ∨ (q = 23 ∧ j = 7) ∨ (q = 23 ∧ j = 8) ∨ (q = 1 ∧ j = 17) ∨ (q = 1 ∧ j = 18) ∨ q = 20 ∨ (q = 39 ∧ j = 6) ∨ (q = 39 ∧ j = 7) ∨ q = 41 ∨ q = (t + 15) ∨ (q = t ∧ j = 11)) (V := fun q j => (q = 39 ∧ j = 3) ∨ (q = 39 ∧ j = 4)) FI (fun q j h => (h.elim (fun h => (Or.inl h)) (fun h => (Or.inr (Or.inl h))))) g95
  have t98 := (g95 23 1).resolve_left (by omega)
  have t99 := (g95 23 5).resolve_left (by omega)
  have t100 := (g95 23 6).resolve_left (by omega)
  have t101 := (g95 23 7).resolve_left (by omega)
  have t102 := (g95 1 17).resolve_left (by omega)
  have t103 := (g95 4 1).resolve_left (by omega)
  have t104 := (g95 (t + 11) 1).resolve_left (by omega)
  have t105 := (g95 t 11).resolve_left (by omega)
  have t106 := (g95 39 2).resolve_left (by omega)
  have f107 := (show 0 ≤ I96 23 1 ∧ I96 23 1 ≤ 1000 from gc_in hI96 R_23 rfl rfl)
  have f108 := (show 0 ≤ I96 23 5 ∧ I96 23 5 ≤ 1000 from gc_in hI96 R_23 rfl rfl)
  have f109 := (show 0 ≤ I96 23 6 ∧ I96 23 6 ≤ 1001 from gc_in hI96 R_23 rfl rfl)
  have f110 := (show 0 ≤ I96 23 7 ∧ I96 23 7 ≤ 125 from gc_in hI96 R_23 rfl rfl)
  have f111 := (show 0 ≤ I96 1 17 ∧ I96 1 17 ≤ 12000 from gc_in hI96 R_1 rfl rfl)
  have f112 := (show 0 ≤ I96 4 1 ∧ I96 4 1 ≤ 96 from gc_in hI96 R_4 rfl rfl)
  have f113 := (show 0 ≤ I96 (t + 11) 1 ∧ I96 (t + 11) 1 ≤ 24 from gc_in hI96 R_t_11 rfl rfl)
  have f114 := (show 0 ≤ I96 t 11 ∧ I96 t 11 ≤ 64 from gc_in hI96 R_t rfl rfl)
  have f115 := (show (-1) ≤ I96 39 2 ∧ I96 39 2 ≤ 999999 from gc_in hI96 R_39 rfl rfl)
  obtain rfl : J = J97 := funext fun q => funext fun j => ((k95 q j).resolve_left id).symm
  have KLT_I96 := gc_LT_fr KLT_I ((g95 23 5).resolve_left (by omega)) ((g95 23 6).resolve_left (by omega)) ((g95 23 7).resolve_left (by omega)) (fun k => (g95 24 k).resolve_left (by omega))
  refine gv_callV hD rfl (As := [.inr (.inr (some 4))]) (st := []) rfl B_39 S_39 rfl (gc_lV6 hws rfl) (Nat.le_of_ble_eq_true rfl) (gz_Ev_mono (d := 3) (by decide) E95) ?_
  show gv_X _ _ (11, [(0, .inr (.inr (some 39)))], [.inl z95], sh, gc_h sh I96 J A)
  refine gv_if_ne (t := 16) hD rfl rfl ⟨by omega, by omega⟩ (fun c116 => ?_) (fun c116 => ?_)
  · show gv_X _ _ (16, [(0, .inr (.inr (some 39)))], [], sh, gc_h sh I96 J A)
    refine gv_run 1 true hD (pc' := 17) (lv' := [(0, .inr (.inr (some 39)))]) (st' := [.inr (.inr (some 39))]) (h' := gc_h sh I96 J A) (C := (True ∧ True)) rfl ⟨trivial, trivial⟩ ?_
    refine gv_get hD rfl rfl S_39 ⟨by decide, B_39⟩ (gc_hA S_39 rfl A_39_0) ?_
    show gv_X _ _ (20, [(0, .inr (.inr (some 39)))], [.inr (.inr (some 1))], sh, gc_h sh I96 J A)
    refine gv_get hD rfl rfl S_1 ⟨by decide, B_1⟩ (gc_hA S_1 rfl A_1_1) ?_
    show gv_X _ _ (23, [(0, .inr (.inr (some 39)))], [.inr (.inr (some 4))], sh, gc_h sh I96 J A)
    refine gv_run 1 true hD (pc' := 24) (lv' := [(0, .inr (.inr (some 39)))]) (st' := [.inr (.inr (some 39)), .inr (.inr (some 4))]) (h' := gc_h sh I96 J A) (C := (True ∧ True)) rfl ⟨trivial, trivial⟩ ?_
    refine gv_get hD rfl rfl S_39 ⟨by decide, B_39⟩ (gc_hA S_39 rfl A_39_1) ?_
    show gv_X _ _ (27, [(0, .inr (.inr (some 39)))], [.inr (.inr (some 23)), .inr (.inr (some 4))], sh, gc_h sh I96 J A)
    refine gv_get hD rfl rfl S_23 ⟨by decide, B_23⟩ (gc_hJ S_23 rfl) ?_
    show gv_X _ _ (30, [(0, .inr (.inr (some 39)))], [.inr (.inl (J 23 9)), .inr (.inr (some 4))], sh, gc_h sh I96 J A)
    obtain ⟨r117, h117, E117, P117⟩ := d_X4_find (ws0 := ws0) (tb := tb) hws htb sh ro I96 J A hI96 4 96 11 (J 23 9) (gc_b4 hb)     
    obtain ⟨rfl, ⟨z117, rfl, q117⟩⟩ := P117
    refine gv_callV hD rfl (As := [.inr (.inl (J 23 9))]) (st := []) rfl B_4 S_4 rfl (gc_lV6 hws rfl) (Nat.le_of_ble_eq_true rfl) (gz_Ev_mono (d := 1) (by decide) E117) ?_
    show gv_X _ _ (33, [(0, .inr (.inr (some 39)))], [.inl z117], sh, gc_h sh I96 J A)
    refine gv_run 2 true hD (pc' := 35) (lv' := [(1, .inl z117), (0, .inr (.inr (some 39)))]) (st' := [.inr (.inr (some 39))]) (h' := gc_h sh I96 J A) (C := ((True ∧ True) ∧ True)) rfl ⟨⟨trivial, trivial⟩, trivial⟩ ?_
    refine gv_get hD rfl rfl S_39 ⟨by decide, B_39⟩ (gc_hA S_39 rfl A_39_0) ?_
    show gv_X _ _ (38, [(1, .inl z117), (0, .inr (.inr (some 39)))], [.inr (.inr (some 1))], sh, gc_h sh I96 J A)
    refine gv_get hD rfl rfl S_1 ⟨by decide, B_1⟩ (gc_hA S_1 rfl A_1_7) ?_
    show gv_X _ _ (41, [(1, .inl z117), (0, .inr (.inr (some 39)))], [.inr (.inr (some 12))], sh, gc_h sh I96 J A)
    refine gv_run 1 true hD (pc' := 42) (lv' := [(1, .inl z117), (0, .inr (.inr (some 39)))]) (st' := [.inl z117, .inr (.inr (some 12))]) (h' := gc_h sh I96 J A) (C := (True ∧ True)) rfl ⟨trivial, trivial⟩ ?_
    have f118 := (show 0 ≤ I96 12 (Int.toNat z117) ∧ I96 12 (Int.toNat z117) ≤ 4 from gc_in hI96 R_12 rfl rfl)
    refine gv_iald hD rfl S_12 rfl ⟨by decide, B_12⟩ ⟨by omega, by omega⟩ (gc_iI S_12 rfl) ?_
    show gv_X _ _ (43, [(1, .inl z117), (0, .inr (.inr (some 39)))], [.inl (I96 12 (Int.toNat z117))], sh, gc_h sh I96 J A)
    refine gv_if_le (t := 59) hD rfl rfl ⟨by omega, by omega⟩ (fun c119 => ?_) (fun c119 => ?_)
    · show gv_X _ _ (59, [(1, .inl z117), (0, .inr (.inr (some 39)))], [], sh, gc_h sh I96 J A)
      refine gv_run 1 true hD (pc' := 60) (lv' := [(1, .inl z117), (0, .inr (.inr (some 39)))]) (st' := [.inr (.inr (some 39))]) (h' := gc_h sh I96 J A) (C := (True ∧ True)) rfl ⟨trivial, trivial⟩ ?_
      refine gv_get hD rfl rfl S_39 ⟨by decide, B_39⟩ (gc_hA S_39 rfl A_39_1) ?_
      show gv_X _ _ (63, [(1, .inl z117), (0, .inr (.inr (some 39)))], [.inr (.inr (some 23))], sh, gc_h sh I96 J A)
      obtain ⟨r120, h120, E120, P120⟩ := d_X9_advance (ws0 := ws0) (tb := tb) hws htb sh ro I96 J A hI96 23  (gc_b23 hb)    (by omega) 
      obtain ⟨I121, J122, rfl, hI121, g120, k120, ⟨rfl, q120⟩⟩ := P120
      have FI121 := gc_frc (W := fun q j => (q = 39 ∧ j = 3) ∨ (q = 39 ∧ j = 4) ∨ (q = 23 ∧ j = 5) ∨ (q = 23 ∧ j = 6) ∨ (q = 23 ∧ j = 7) ∨ (q = 23 ∧ j = 8) ∨ (q = 1 ∧ j = 17) ∨ (q = 1 ∧ j = 18) ∨ q = 20 ∨ (q = 39 ∧ j = 6) ∨ (q = 39 ∧ j = 7) ∨ q = 41 ∨ q = (t + 15) ∨ (q = t ∧ j = 11)) (V := fun q j => (q = 23 ∧ j = 5) ∨ (q = 23 ∧ j = 6) ∨ (q = 23 ∧ j = 7) ∨ (q = 23 ∧ j = 8)) FI96 (fun q j h => (h.elim (fun h => (Or.inr (Or.inr (Or.inl h)))) (fun h => (h.elim (fun h => (Or.inr (Or.inr (Or.inr (Or.inl h))))) (fun h => (h.elim (fun h => (Or.inr (Or.inr (Or.inr (Or.inr (Or.inl h)))))) (fun h => (Or.inr (Or.inr (Or.inr (Or.inr (Or.inr (Or.inl h))))))))))))) g120
      have FJ122 := gc_frc (W := fun q j => (q = 23 ∧ j = 9)) (V := fun q j => (q = 23 ∧ j = 9)) FJ (fun q j h => h) k120
      have t123 := (g120 23 1).resolve_left (by omega)
      have t124 := (g120 1 17).resolve_left (by omega)
      have t125 := (g120 4 1).resolve_left (by omega)
      have t126 := (g120 (t + 11) 1).resolve_left (by omega)
      have t127 := (g120 t 11).resolve_left (by omega)
      have t128 := (g120 39 2).resolve_left (by omega)
      have f129 := (show 0 ≤ I121 23 1 ∧ I121 23 1 ≤ 1000 from gc_in hI121 R_23 rfl rfl)
      have f130 := (show 0 ≤ I121 23 5 ∧ I121 23 5 ≤ 1000 from gc_in hI121 R_23 rfl rfl)
      have f131 := (show 0 ≤ I121 23 6 ∧ I121 23 6 ≤ 1001 from gc_in hI121 R_23 rfl rfl)
      have f132 := (show 0 ≤ I121 23 7 ∧ I121 23 7 ≤ 125 from gc_in hI121 R_23 rfl rfl)
      have f133 := (show 0 ≤ I121 1 17 ∧ I121 1 17 ≤ 12000 from gc_in hI121 R_1 rfl rfl)
      have f134 := (show 0 ≤ I121 4 1 ∧ I121 4 1 ≤ 96 from gc_in hI121 R_4 rfl rfl)
      have f135 := (show 0 ≤ I121 (t + 11) 1 ∧ I121 (t + 11) 1 ≤ 24 from gc_in hI121 R_t_11 rfl rfl)
      have f136 := (show 0 ≤ I121 t 11 ∧ I121 t 11 ≤ 64 from gc_in hI121 R_t rfl rfl)
      have f137 := (show (-1) ≤ I121 39 2 ∧ I121 39 2 ≤ 999999 from gc_in hI121 R_39 rfl rfl)
      have KLT_I121 : gc_LT I121 := q120.2.2.2.2.2.2.2
      refine gv_callV hD rfl (As := []) (st := []) rfl B_23 S_23 rfl (gc_lV6 hws rfl) (Nat.le_of_ble_eq_true rfl) (gz_Ev_mono (d := 2) (by decide) E120) ?_
      show gv_X _ _ (66, [(1, .inl z117), (0, .inr (.inr (some 39)))], [], sh, gc_h sh I121 J122 A)
      refine gv_run 2 true hD (pc' := 68) (lv' := [(1, .inl z117), (0, .inr (.inr (some 39)))]) (st' := [.inr (.inr (some 39)), .inr (.inr (some 39))]) (h' := gc_h sh I121 J122 A) (C := ((True ∧ True) ∧ True)) rfl ⟨⟨trivial, trivial⟩, trivial⟩ ?_
      refine gv_get hD rfl rfl S_39 ⟨by decide, B_39⟩ (gc_h5 (t := t) S_39 rfl (by omega)) ?_
      show gv_X _ _ (71, [(1, .inl z117), (0, .inr (.inr (some 39)))], [.inr (.inr (some t)), .inr (.inr (some 39))], sh, gc_h sh I121 J122 A)
      refine gv_get hD rfl rfl S_t ⟨by decide, B_t⟩ (gc_hA S_t rfl A_t_8) ?_
      show gv_X _ _ (74, [(1, .inl z117), (0, .inr (.inr (some 39)))], [.inr (.inr (some (t + 11))), .inr (.inr (some 39))], sh, gc_h sh I121 J122 A)
      obtain ⟨r138, h138, E138, P138⟩ := d_X6_needKnown (ws0 := ws0) (tb := tb) hws htb sh ro I121 J122 A hI121  24 8 (t + 11) hb h_t_11    
      obtain ⟨I139, J140, rfl, hI139, g138, k138, ⟨z138, rfl, q138⟩⟩ := P138
      have FI139 := gc_frc (W := fun q j => (q = 39 ∧ j = 3) ∨ (q = 39 ∧ j = 4) ∨ (q = 23 ∧ j = 5) ∨ (q = 23 ∧ j = 6) ∨ (q = 23 ∧ j = 7) ∨ (q = 23 ∧ j = 8) ∨ (q = 1 ∧ j = 17) ∨ (q = 1 ∧ j = 18) ∨ q = 20 ∨ (q = 39 ∧ j = 6) ∨ (q = 39 ∧ j = 7) ∨ q = 41 ∨ q = (t + 15) ∨ (q = t ∧ j = 11)) (V := fun q j => (q = 39 ∧ j = 3) ∨ (q = 39 ∧ j = 4)) FI121 (fun q j h => (h.elim (fun h => (Or.inl h)) (fun h => (Or.inr (Or.inl h))))) g138
      have t141 := (g138 23 1).resolve_left (by omega)
      have t142 := (g138 23 5).resolve_left (by omega)
      have t143 := (g138 23 6).resolve_left (by omega)
      have t144 := (g138 23 7).resolve_left (by omega)
      have t145 := (g138 1 17).resolve_left (by omega)
      have t146 := (g138 4 1).resolve_left (by omega)
      have t147 := (g138 (t + 11) 1).resolve_left (by omega)
      have t148 := (g138 t 11).resolve_left (by omega)
      have t149 := (g138 39 2).resolve_left (by omega)
      have f150 := (show 0 ≤ I139 23 1 ∧ I139 23 1 ≤ 1000 from gc_in hI139 R_23 rfl rfl)
      have f151 := (show 0 ≤ I139 23 5 ∧ I139 23 5 ≤ 1000 from gc_in hI139 R_23 rfl rfl)
      have f152 := (show 0 ≤ I139 23 6 ∧ I139 23 6 ≤ 1001 from gc_in hI139 R_23 rfl rfl)
      have f153 := (show 0 ≤ I139 23 7 ∧ I139 23 7 ≤ 125 from gc_in hI139 R_23 rfl rfl)
      have f154 := (show 0 ≤ I139 1 17 ∧ I139 1 17 ≤ 12000 from gc_in hI139 R_1 rfl rfl)
      have f155 := (show 0 ≤ I139 4 1 ∧ I139 4 1 ≤ 96 from gc_in hI139 R_4 rfl rfl)
      have f156 := (show 0 ≤ I139 (t + 11) 1 ∧ I139 (t + 11) 1 ≤ 24 from gc_in hI139 R_t_11 rfl rfl)
      have f157 := (show 0 ≤ I139 t 11 ∧ I139 t 11 ≤ 64 from gc_in hI139 R_t rfl rfl)
      have f158 := (show (-1) ≤ I139 39 2 ∧ I139 39 2 ≤ 999999 from gc_in hI139 R_39 rfl rfl)
      obtain rfl : J122 = J140 := funext fun q => funext fun j => ((k138 q j).resolve_left id).symm
      have KLT_I139 := gc_LT_fr KLT_I121 ((g138 23 5).resolve_left (by omega)) ((g138 23 6).resolve_left (by omega)) ((g138 23 7).resolve_left (by omega)) (fun k => (g138 24 k).resolve_left (by omega))
      refine gv_callV hD rfl (As := [.inr (.inr (some (t + 11)))]) (st := []) rfl B_39 S_39 rfl (gc_lV6 hws rfl) (Nat.le_of_ble_eq_true rfl) (gz_Ev_mono (d := 3) (by decide) E138) ?_
      show gv_X _ _ (77, [(1, .inl z117), (0, .inr (.inr (some 39)))], [.inl z138], sh, gc_h sh I139 J122 A)
      refine gv_if_ne (t := 82) hD rfl rfl ⟨by omega, by omega⟩ (fun c159 => ?_) (fun c159 => ?_)
      · show gv_X _ _ (82, [(1, .inl z117), (0, .inr (.inr (some 39)))], [], sh, gc_h sh I139 J122 A)
        refine gv_run 1 true hD (pc' := 83) (lv' := [(1, .inl z117), (0, .inr (.inr (some 39)))]) (st' := [.inr (.inr (some 39))]) (h' := gc_h sh I139 J122 A) (C := (True ∧ True)) rfl ⟨trivial, trivial⟩ ?_
        refine gv_get hD rfl rfl S_39 ⟨by decide, B_39⟩ (gc_hA S_39 rfl A_39_10) ?_
        show gv_X _ _ (86, [(1, .inl z117), (0, .inr (.inr (some 39)))], [.inr (.inr (some 41))], sh, gc_h sh I139 J122 A)
        refine gv_run 1 true hD (pc' := 87) (lv' := [(1, .inl z117), (0, .inr (.inr (some 39)))]) (st' := [.inl 0, .inr (.inr (some 41))]) (h' := gc_h sh I139 J122 A) (C := (True ∧ True)) rfl ⟨trivial, trivial⟩ ?_
        obtain ⟨I161, E160, hI161, g160, q160⟩ := gj_fill (ws0 := ws0) (tb := tb) sh ro I139 J122 A hI139 41 25 0 S_41 B_41 (by decide) ⟨by omega, by omega⟩ (fun k => by rw [R_41]; exact ⟨by show (-2147483648) ≤ _; omega, by show _ ≤ 2147483647; omega⟩)
        refine gv_callS hD rfl (As := [.inr (.inr (some 41)), .inl 0]) (st := []) rfl (gc_lS6 hws rfl) (Nat.le_of_ble_eq_true rfl) (gz_Ev_mono (d := 1) (by decide) E160) ?_
        have FI161 := gc_frc (W := fun q j => (q = 39 ∧ j = 3) ∨ (q = 39 ∧ j = 4) ∨ (q = 23 ∧ j = 5) ∨ (q = 23 ∧ j = 6) ∨ (q = 23 ∧ j = 7) ∨ (q = 23 ∧ j = 8) ∨ (q = 1 ∧ j = 17) ∨ (q = 1 ∧ j = 18) ∨ q = 20 ∨ (q = 39 ∧ j = 6) ∨ (q = 39 ∧ j = 7) ∨ q = 41 ∨ q = (t + 15) ∨ (q = t ∧ j = 11)) (V := fun q j => q = 41) FI139 (fun q j h => (Or.inr (Or.inr (Or.inr (Or.inr (Or.inr (Or.inr (Or.inr (Or.inr (Or.inr (Or.inr (Or.inr (Or.inl h))))))))))))) g160
        have KLT_I161 := gc_LT_fr KLT_I139 ((g160 23 5).resolve_left (by omega)) ((g160 23 6).resolve_left (by omega)) ((g160 23 7).resolve_left (by omega)) (fun k => (g160 24 k).resolve_left (by omega))
        have KRW_I161 : gc_row 41 11 gc_fW I161 := gc_row_fill (z := 0) (fun j hj => q160 j (by omega)) (fun j => by unfold gc_fW; omega)
        have t163 := (g160 23 1).resolve_left (by omega)
        have t164 := (g160 23 5).resolve_left (by omega)
        have t165 := (g160 23 6).resolve_left (by omega)
        have t166 := (g160 23 7).resolve_left (by omega)
        have t167 := (g160 1 17).resolve_left (by omega)
        have t168 := (g160 4 1).resolve_left (by omega)
        have t169 := (g160 (t + 11) 1).resolve_left (by omega)
        have t170 := (g160 t 11).resolve_left (by omega)
        have t171 := (g160 39 2).resolve_left (by omega)
        have f172 := (show 0 ≤ I161 23 1 ∧ I161 23 1 ≤ 1000 from gc_in hI161 R_23 rfl rfl)
        have f173 := (show 0 ≤ I161 23 5 ∧ I161 23 5 ≤ 1000 from gc_in hI161 R_23 rfl rfl)
        have f174 := (show 0 ≤ I161 23 6 ∧ I161 23 6 ≤ 1001 from gc_in hI161 R_23 rfl rfl)
        have f175 := (show 0 ≤ I161 23 7 ∧ I161 23 7 ≤ 125 from gc_in hI161 R_23 rfl rfl)
        have f176 := (show 0 ≤ I161 1 17 ∧ I161 1 17 ≤ 12000 from gc_in hI161 R_1 rfl rfl)
        have f177 := (show 0 ≤ I161 4 1 ∧ I161 4 1 ≤ 96 from gc_in hI161 R_4 rfl rfl)
        have f178 := (show 0 ≤ I161 (t + 11) 1 ∧ I161 (t + 11) 1 ≤ 24 from gc_in hI161 R_t_11 rfl rfl)
        have f179 := (show 0 ≤ I161 t 11 ∧ I161 t 11 ≤ 64 from gc_in hI161 R_t rfl rfl)
        have f180 := (show (-1) ≤ I161 39 2 ∧ I161 39 2 ≤ 999999 from gc_in hI161 R_39 rfl rfl)
        show gv_X _ _ (90, [(1, .inl z117), (0, .inr (.inr (some 39)))], [], sh, gc_h sh I161 J122 A)
        refine gv_run 1 true hD (pc' := 91) (lv' := [(1, .inl z117), (0, .inr (.inr (some 39)))]) (st' := [.inr (.inr (some 39))]) (h' := gc_h sh I161 J122 A) (C := (True ∧ True)) rfl ⟨trivial, trivial⟩ ?_
        refine gv_get hD rfl rfl S_39 ⟨by decide, B_39⟩ (gc_hA S_39 rfl A_39_10) ?_
        show gv_X _ _ (94, [(1, .inl z117), (0, .inr (.inr (some 39)))], [.inr (.inr (some 41))], sh, gc_h sh I161 J122 A)
        refine gv_run 2 true hD (pc' := 96) (lv' := [(1, .inl z117), (0, .inr (.inr (some 39)))]) (st' := [.inl z117, .inl 0, .inr (.inr (some 41))]) (h' := gc_h sh I161 J122 A) (C := ((True ∧ True) ∧ True)) rfl ⟨⟨trivial, trivial⟩, trivial⟩ ?_
        refine gv_iast hD rfl S_41 ⟨by decide, B_41⟩ ⟨by omega, by omega⟩ ?_
        refine gc_st (k := 0) hI161 S_41 rfl R_41 (lo := (-2147483648)) (hi := 2147483647) rfl rfl (by omega) (by omega) (fun I181 hI181 q182 p182 => ?_)
        have FI181 := gc_frs (W := fun q j => (q = 39 ∧ j = 3) ∨ (q = 39 ∧ j = 4) ∨ (q = 23 ∧ j = 5) ∨ (q = 23 ∧ j = 6) ∨ (q = 23 ∧ j = 7) ∨ (q = 23 ∧ j = 8) ∨ (q = 1 ∧ j = 17) ∨ (q = 1 ∧ j = 18) ∨ q = 20 ∨ (q = 39 ∧ j = 6) ∨ (q = 39 ∧ j = 7) ∨ q = 41 ∨ q = (t + 15) ∨ (q = t ∧ j = 11)) FI161 (Or.inr (Or.inr (Or.inr (Or.inr (Or.inr (Or.inr (Or.inr (Or.inr (Or.inr (Or.inr (Or.inr (Or.inl rfl)))))))))))) p182
        have t183 := p182 23 1 (fun h => absurd h.1 (by omega))
        have t184 := p182 23 5 (fun h => absurd h.1 (by omega))
        have t185 := p182 23 6 (fun h => absurd h.1 (by omega))
        have t186 := p182 23 7 (fun h => absurd h.1 (by omega))
        have t187 := p182 1 17 (fun h => absurd h.1 (by omega))
        have t188 := p182 4 1 (fun h => absurd h.1 (by omega))
        have t189 := p182 (t + 11) 1 (fun h => absurd h.1 (by omega))
        have t190 := p182 t 11 (fun h => absurd h.1 (by omega))
        have t191 := p182 39 2 (fun h => absurd h.1 (by omega))
        have f192 := (show 0 ≤ I181 23 1 ∧ I181 23 1 ≤ 1000 from gc_in hI181 R_23 rfl rfl)
        have f193 := (show 0 ≤ I181 23 5 ∧ I181 23 5 ≤ 1000 from gc_in hI181 R_23 rfl rfl)
        have f194 := (show 0 ≤ I181 23 6 ∧ I181 23 6 ≤ 1001 from gc_in hI181 R_23 rfl rfl)
        have f195 := (show 0 ≤ I181 23 7 ∧ I181 23 7 ≤ 125 from gc_in hI181 R_23 rfl rfl)
        have f196 := (show 0 ≤ I181 1 17 ∧ I181 1 17 ≤ 12000 from gc_in hI181 R_1 rfl rfl)
        have f197 := (show 0 ≤ I181 4 1 ∧ I181 4 1 ≤ 96 from gc_in hI181 R_4 rfl rfl)
        have f198 := (show 0 ≤ I181 (t + 11) 1 ∧ I181 (t + 11) 1 ≤ 24 from gc_in hI181 R_t_11 rfl rfl)
        have f199 := (show 0 ≤ I181 t 11 ∧ I181 t 11 ≤ 64 from gc_in hI181 R_t rfl rfl)
        have f200 := (show (-1) ≤ I181 39 2 ∧ I181 39 2 ≤ 999999 from gc_in hI181 R_39 rfl rfl)
        have KLT_I181 := gc_LT_fr KLT_I161 (p182 23 5 (fun h => absurd h.1 (by omega))) (p182 23 6 (fun h => absurd h.1 (by omega))) (p182 23 7 (fun h => absurd h.1 (by omega))) (fun k => p182 24 k (fun h => absurd h.1 (by omega)))
        have KRW_I181 := gc_row_st KRW_I161 p182 q182 (by unfold gc_fW; omega)
        show gv_X _ _ (97, [(1, .inl z117), (0, .inr (.inr (some 39)))], [], sh, gc_h sh I181 J122 A)
        refine gv_run 1 true hD (pc' := 98) (lv' := [(1, .inl z117), (0, .inr (.inr (some 39)))]) (st' := [.inr (.inr (some 39))]) (h' := gc_h sh I181 J122 A) (C := (True ∧ True)) rfl ⟨trivial, trivial⟩ ?_
        refine gv_get hD rfl rfl S_39 ⟨by decide, B_39⟩ (gc_hA S_39 rfl A_39_10) ?_
        show gv_X _ _ (101, [(1, .inl z117), (0, .inr (.inr (some 39)))], [.inr (.inr (some 41))], sh, gc_h sh I181 J122 A)
        refine gv_run 2 true hD (pc' := 103) (lv' := [(1, .inl z117), (0, .inr (.inr (some 39)))]) (st' := [.inr (.inr (some 39)), .inl 1, .inr (.inr (some 41))]) (h' := gc_h sh I181 J122 A) (C := ((True ∧ True) ∧ True)) rfl ⟨⟨trivial, trivial⟩, trivial⟩ ?_
        refine gv_get hD rfl rfl S_39 ⟨by decide, B_39⟩ (gc_h5 (t := t) S_39 rfl (by omega)) ?_
        show gv_X _ _ (106, [(1, .inl z117), (0, .inr (.inr (some 39)))], [.inr (.inr (some t)), .inl 1, .inr (.inr (some 41))], sh, gc_h sh I181 J122 A)
        refine gv_get hD rfl rfl S_t ⟨by decide, B_t⟩ (gc_hA S_t rfl A_t_8) ?_
        show gv_X _ _ (109, [(1, .inl z117), (0, .inr (.inr (some 39)))], [.inr (.inr (some (t + 11))), .inl 1, .inr (.inr (some 41))], sh, gc_h sh I181 J122 A)
        refine gv_run 1 true hD (pc' := 110) (lv' := [(1, .inl z117), (0, .inr (.inr (some 39)))]) (st' := [.inr (.inr (some 39)), .inr (.inr (some (t + 11))), .inl 1, .inr (.inr (some 41))]) (h' := gc_h sh I181 J122 A) (C := (True ∧ True)) rfl ⟨trivial, trivial⟩ ?_
        refine gv_get hD rfl rfl S_39 ⟨by decide, B_39⟩ (gc_hA S_39 rfl A_39_1) ?_
        show gv_X _ _ (113, [(1, .inl z117), (0, .inr (.inr (some 39)))], [.inr (.inr (some 23)), .inr (.inr (some (t + 11))), .inl 1, .inr (.inr (some 41))], sh, gc_h sh I181 J122 A)
        refine gv_get hD rfl rfl S_23 ⟨by decide, B_23⟩ (gc_hJ S_23 rfl) ?_
        show gv_X _ _ (116, [(1, .inl z117), (0, .inr (.inr (some 39)))], [.inr (.inl (J122 23 9)), .inr (.inr (some (t + 11))), .inl 1, .inr (.inr (some 41))], sh, gc_h sh I181 J122 A)
        have t201 := (show gc_fd (J122 ((t + 11) + 1)) (J122 23 9) (Int.toNat (I181 (t + 11) 1)) = gc_fd (J122 ((t + 11) + 1)) (J122 23 9) (Int.toNat (I139 (t + 11) 1)) from by rw [show I181 (t + 11) 1 = I139 (t + 11) 1 from by omega])
        obtain ⟨r202, h202, E202, P202⟩ := d_X4_find (ws0 := ws0) (tb := tb) hws htb sh ro I181 J122 A hI181 (t + 11) 24 8 (J122 23 9) h_t_11     
        obtain ⟨rfl, ⟨z202, rfl, q202⟩⟩ := P202
        refine gv_callV hD rfl (As := [.inr (.inl (J122 23 9))]) (st := [.inl 1, .inr (.inr (some 41))]) rfl B_t_11 S_t_11 rfl (gc_lV6 hws rfl) (Nat.le_of_ble_eq_true rfl) (gz_Ev_mono (d := 1) (by decide) E202) ?_
        show gv_X _ _ (119, [(1, .inl z117), (0, .inr (.inr (some 39)))], [.inl z202, .inl 1, .inr (.inr (some 41))], sh, gc_h sh I181 J122 A)
        refine gv_iast hD rfl S_41 ⟨by decide, B_41⟩ ⟨by omega, by omega⟩ ?_
        refine gc_st (k := 1) hI181 S_41 rfl R_41 (lo := (-2147483648)) (hi := 2147483647) rfl rfl (by omega) (by omega) (fun I203 hI203 q204 p204 => ?_)
        have FI203 := gc_frs (W := fun q j => (q = 39 ∧ j = 3) ∨ (q = 39 ∧ j = 4) ∨ (q = 23 ∧ j = 5) ∨ (q = 23 ∧ j = 6) ∨ (q = 23 ∧ j = 7) ∨ (q = 23 ∧ j = 8) ∨ (q = 1 ∧ j = 17) ∨ (q = 1 ∧ j = 18) ∨ q = 20 ∨ (q = 39 ∧ j = 6) ∨ (q = 39 ∧ j = 7) ∨ q = 41 ∨ q = (t + 15) ∨ (q = t ∧ j = 11)) FI181 (Or.inr (Or.inr (Or.inr (Or.inr (Or.inr (Or.inr (Or.inr (Or.inr (Or.inr (Or.inr (Or.inr (Or.inl rfl)))))))))))) p204
        have t205 := p204 23 1 (fun h => absurd h.1 (by omega))
        have t206 := p204 23 5 (fun h => absurd h.1 (by omega))
        have t207 := p204 23 6 (fun h => absurd h.1 (by omega))
        have t208 := p204 23 7 (fun h => absurd h.1 (by omega))
        have t209 := p204 1 17 (fun h => absurd h.1 (by omega))
        have t210 := p204 4 1 (fun h => absurd h.1 (by omega))
        have t211 := p204 (t + 11) 1 (fun h => absurd h.1 (by omega))
        have t212 := p204 t 11 (fun h => absurd h.1 (by omega))
        have t213 := p204 39 2 (fun h => absurd h.1 (by omega))
        have f214 := (show 0 ≤ I203 23 1 ∧ I203 23 1 ≤ 1000 from gc_in hI203 R_23 rfl rfl)
        have f215 := (show 0 ≤ I203 23 5 ∧ I203 23 5 ≤ 1000 from gc_in hI203 R_23 rfl rfl)
        have f216 := (show 0 ≤ I203 23 6 ∧ I203 23 6 ≤ 1001 from gc_in hI203 R_23 rfl rfl)
        have f217 := (show 0 ≤ I203 23 7 ∧ I203 23 7 ≤ 125 from gc_in hI203 R_23 rfl rfl)
        have f218 := (show 0 ≤ I203 1 17 ∧ I203 1 17 ≤ 12000 from gc_in hI203 R_1 rfl rfl)
        have f219 := (show 0 ≤ I203 4 1 ∧ I203 4 1 ≤ 96 from gc_in hI203 R_4 rfl rfl)
        have f220 := (show 0 ≤ I203 (t + 11) 1 ∧ I203 (t + 11) 1 ≤ 24 from gc_in hI203 R_t_11 rfl rfl)
        have f221 := (show 0 ≤ I203 t 11 ∧ I203 t 11 ≤ 64 from gc_in hI203 R_t rfl rfl)
        have f222 := (show (-1) ≤ I203 39 2 ∧ I203 39 2 ≤ 999999 from gc_in hI203 R_39 rfl rfl)
        have KLT_I203 := gc_LT_fr KLT_I181 (p204 23 5 (fun h => absurd h.1 (by omega))) (p204 23 6 (fun h => absurd h.1 (by omega))) (p204 23 7 (fun h => absurd h.1 (by omega))) (fun k => p204 24 k (fun h => absurd h.1 (by omega)))
        have KRW_I203 := gc_row_st KRW_I181 p204 q204 (by unfold gc_fW; omega)
        show gv_X _ _ (120, [(1, .inl z117), (0, .inr (.inr (some 39)))], [], sh, gc_h sh I203 J122 A)
        refine gv_run 1 true hD (pc' := 121) (lv' := [(1, .inl z117), (0, .inr (.inr (some 39)))]) (st' := [.inr (.inr (some 39))]) (h' := gc_h sh I203 J122 A) (C := (True ∧ True)) rfl ⟨trivial, trivial⟩ ?_
        refine gv_get hD rfl rfl S_39 ⟨by decide, B_39⟩ (gc_hA S_39 rfl A_39_1) ?_
        show gv_X _ _ (124, [(1, .inl z117), (0, .inr (.inr (some 39)))], [.inr (.inr (some 23))], sh, gc_h sh I203 J122 A)
        obtain ⟨r223, h223, E223, P223⟩ := d_X9_advance (ws0 := ws0) (tb := tb) hws htb sh ro I203 J122 A hI203 23  (gc_b23 hb)    (by omega) 
        obtain ⟨I224, J225, rfl, hI224, g223, k223, ⟨rfl, q223⟩⟩ := P223
        have FI224 := gc_frc (W := fun q j => (q = 39 ∧ j = 3) ∨ (q = 39 ∧ j = 4) ∨ (q = 23 ∧ j = 5) ∨ (q = 23 ∧ j = 6) ∨ (q = 23 ∧ j = 7) ∨ (q = 23 ∧ j = 8) ∨ (q = 1 ∧ j = 17) ∨ (q = 1 ∧ j = 18) ∨ q = 20 ∨ (q = 39 ∧ j = 6) ∨ (q = 39 ∧ j = 7) ∨ q = 41 ∨ q = (t + 15) ∨ (q = t ∧ j = 11)) (V := fun q j => (q = 23 ∧ j = 5) ∨ (q = 23 ∧ j = 6) ∨ (q = 23 ∧ j = 7) ∨ (q = 23 ∧ j = 8)) FI203 (fun q j h => (h.elim (fun h => (Or.inr (Or.inr (Or.inl h)))) (fun h => (h.elim (fun h => (Or.inr (Or.inr (Or.inr (Or.inl h))))) (fun h => (h.elim (fun h => (Or.inr (Or.inr (Or.inr (Or.inr (Or.inl h)))))) (fun h => (Or.inr (Or.inr (Or.inr (Or.inr (Or.inr (Or.inl h))))))))))))) g223
        have FJ225 := gc_frc (W := fun q j => (q = 23 ∧ j = 9)) (V := fun q j => (q = 23 ∧ j = 9)) FJ122 (fun q j h => h) k223
        have t226 := (g223 23 1).resolve_left (by omega)
        have t227 := (g223 1 17).resolve_left (by omega)
        have t228 := (g223 4 1).resolve_left (by omega)
        have t229 := (g223 (t + 11) 1).resolve_left (by omega)
        have t230 := (g223 t 11).resolve_left (by omega)
        have t231 := (g223 39 2).resolve_left (by omega)
        have f232 := (show 0 ≤ I224 23 1 ∧ I224 23 1 ≤ 1000 from gc_in hI224 R_23 rfl rfl)
        have f233 := (show 0 ≤ I224 23 5 ∧ I224 23 5 ≤ 1000 from gc_in hI224 R_23 rfl rfl)
        have f234 := (show 0 ≤ I224 23 6 ∧ I224 23 6 ≤ 1001 from gc_in hI224 R_23 rfl rfl)
        have f235 := (show 0 ≤ I224 23 7 ∧ I224 23 7 ≤ 125 from gc_in hI224 R_23 rfl rfl)
        have f236 := (show 0 ≤ I224 1 17 ∧ I224 1 17 ≤ 12000 from gc_in hI224 R_1 rfl rfl)
        have f237 := (show 0 ≤ I224 4 1 ∧ I224 4 1 ≤ 96 from gc_in hI224 R_4 rfl rfl)
        have f238 := (show 0 ≤ I224 (t + 11) 1 ∧ I224 (t + 11) 1 ≤ 24 from gc_in hI224 R_t_11 rfl rfl)
        have f239 := (show 0 ≤ I224 t 11 ∧ I224 t 11 ≤ 64 from gc_in hI224 R_t rfl rfl)
        have f240 := (show (-1) ≤ I224 39 2 ∧ I224 39 2 ≤ 999999 from gc_in hI224 R_39 rfl rfl)
        have KLT_I224 : gc_LT I224 := q223.2.2.2.2.2.2.2
        have KRW_I224 := gc_row_fr KRW_I203 (fun k => (g223 41 k).resolve_left (by omega))
        refine gv_callV hD rfl (As := []) (st := []) rfl B_23 S_23 rfl (gc_lV6 hws rfl) (Nat.le_of_ble_eq_true rfl) (gz_Ev_mono (d := 2) (by decide) E223) ?_
        show gv_X _ _ (127, [(1, .inl z117), (0, .inr (.inr (some 39)))], [], sh, gc_h sh I224 J225 A)
        refine gv_run 2 true hD (pc' := 129) (lv' := [(1, .inl z117), (0, .inr (.inr (some 39)))]) (st' := [.inl 3, .inr (.inr (some 39))]) (h' := gc_h sh I224 J225 A) (C := ((True ∧ True) ∧ True)) rfl ⟨⟨trivial, trivial⟩, trivial⟩ ?_
        obtain ⟨r241, h241, E241, P241⟩ := d_X6_need (ws0 := ws0) (tb := tb) hws htb sh ro I224 J225 A hI224  3 hb   ⟨by omega, by omega⟩  
        obtain ⟨I242, J243, rfl, hI242, g241, k241, ⟨z241, rfl, q241⟩⟩ := P241
        have FI242 := gc_frc (W := fun q j => (q = 39 ∧ j = 3) ∨ (q = 39 ∧ j = 4) ∨ (q = 23 ∧ j = 5) ∨ (q = 23 ∧ j = 6) ∨ (q = 23 ∧ j = 7) ∨ (q = 23 ∧ j = 8) ∨ (q = 1 ∧ j = 17) ∨ (q = 1 ∧ j = 18) ∨ q = 20 ∨ (q = 39 ∧ j = 6) ∨ (q = 39 ∧ j = 7) ∨ q = 41 ∨ q = (t + 15) ∨ (q = t ∧ j = 11)) (V := fun q j => (q = 39 ∧ j = 3) ∨ (q = 39 ∧ j = 4)) FI224 (fun q j h => (h.elim (fun h => (Or.inl h)) (fun h => (Or.inr (Or.inl h))))) g241
        have t244 := (g241 23 1).resolve_left (by omega)
        have t245 := (g241 23 5).resolve_left (by omega)
        have t246 := (g241 23 6).resolve_left (by omega)
        have t247 := (g241 23 7).resolve_left (by omega)
        have t248 := (g241 1 17).resolve_left (by omega)
        have t249 := (g241 4 1).resolve_left (by omega)
        have t250 := (g241 (t + 11) 1).resolve_left (by omega)
        have t251 := (g241 t 11).resolve_left (by omega)
        have t252 := (g241 39 2).resolve_left (by omega)
        have f253 := (show 0 ≤ I242 23 1 ∧ I242 23 1 ≤ 1000 from gc_in hI242 R_23 rfl rfl)
        have f254 := (show 0 ≤ I242 23 5 ∧ I242 23 5 ≤ 1000 from gc_in hI242 R_23 rfl rfl)
        have f255 := (show 0 ≤ I242 23 6 ∧ I242 23 6 ≤ 1001 from gc_in hI242 R_23 rfl rfl)
        have f256 := (show 0 ≤ I242 23 7 ∧ I242 23 7 ≤ 125 from gc_in hI242 R_23 rfl rfl)
        have f257 := (show 0 ≤ I242 1 17 ∧ I242 1 17 ≤ 12000 from gc_in hI242 R_1 rfl rfl)
        have f258 := (show 0 ≤ I242 4 1 ∧ I242 4 1 ≤ 96 from gc_in hI242 R_4 rfl rfl)
        have f259 := (show 0 ≤ I242 (t + 11) 1 ∧ I242 (t + 11) 1 ≤ 24 from gc_in hI242 R_t_11 rfl rfl)
        have f260 := (show 0 ≤ I242 t 11 ∧ I242 t 11 ≤ 64 from gc_in hI242 R_t rfl rfl)
        have f261 := (show (-1) ≤ I242 39 2 ∧ I242 39 2 ≤ 999999 from gc_in hI242 R_39 rfl rfl)
        obtain rfl : J225 = J243 := funext fun q => funext fun j => ((k241 q j).resolve_left id).symm
        have KLT_I242 := gc_LT_fr KLT_I224 ((g241 23 5).resolve_left (by omega)) ((g241 23 6).resolve_left (by omega)) ((g241 23 7).resolve_left (by omega)) (fun k => (g241 24 k).resolve_left (by omega))
        have KRW_I242 := gc_row_fr KRW_I224 (fun k => (g241 41 k).resolve_left (by omega))
        refine gv_callV hD rfl (As := [.inl 3]) (st := []) rfl B_39 S_39 rfl (gc_lV6 hws rfl) (Nat.le_of_ble_eq_true rfl) (gz_Ev_mono (d := 2) (by decide) E241) ?_
        show gv_X _ _ (132, [(1, .inl z117), (0, .inr (.inr (some 39)))], [.inl z241], sh, gc_h sh I242 J225 A)
        refine gv_if_eq (t := 156) hD rfl rfl ⟨by omega, by omega⟩ (fun c262 => ?_) (fun c262 => ?_)
        · show gv_X _ _ (156, [(1, .inl z117), (0, .inr (.inr (some 39)))], [], sh, gc_h sh I242 J225 A)
          refine gv_pick [] rfl ?_
          exact L156 I242 J225 hI242 FI242 FJ225 KLT_I242 (by omega)
        · show gv_X _ _ (135, [(1, .inl z117), (0, .inr (.inr (some 39)))], [], sh, gc_h sh I242 J225 A)
          refine gv_run 1 true hD (pc' := 136) (lv' := [(1, .inl z117), (0, .inr (.inr (some 39)))]) (st' := [.inr (.inr (some 39))]) (h' := gc_h sh I242 J225 A) (C := (True ∧ True)) rfl ⟨trivial, trivial⟩ ?_
          obtain ⟨r263, h263, E263, P263⟩ := d_X6_readStems (ws0 := ws0) (tb := tb) hws htb sh ro I242 J225 A hI242   hb    (by omega) (by omega) (by omega) (by omega) (by omega) (by omega) KLT_I242 KRW_I242
          obtain ⟨I264, J265, rfl, hI264, g263, k263, KLT_I264, KRW_I264, ⟨z263, rfl, q263⟩⟩ := P263
          have FI264 := gc_frc (W := fun q j => (q = 39 ∧ j = 3) ∨ (q = 39 ∧ j = 4) ∨ (q = 23 ∧ j = 5) ∨ (q = 23 ∧ j = 6) ∨ (q = 23 ∧ j = 7) ∨ (q = 23 ∧ j = 8) ∨ (q = 1 ∧ j = 17) ∨ (q = 1 ∧ j = 18) ∨ q = 20 ∨ (q = 39 ∧ j = 6) ∨ (q = 39 ∧ j = 7) ∨ q = 41 ∨ q = (t + 15) ∨ (q = t ∧ j = 11)) (V := fun q j => (q = 39 ∧ j = 3) ∨ (q = 39 ∧ j = 4) ∨ (q = 23 ∧ j = 5) ∨ (q = 23 ∧ j = 6) ∨ (q = 23 ∧ j = 7) ∨ (q = 23 ∧ j = 8) ∨ (q = 1 ∧ j = 17) ∨ (q = 1 ∧ j = 18) ∨ q = 20 ∨ q = 41) FI242 (fun q j h => (h.elim (fun h => (Or.inl h)) (fun h => (h.elim (fun h => (Or.inr (Or.inl h))) (fun h => (h.elim (fun h => (Or.inr (Or.inr (Or.inl h)))) (fun h => (h.elim (fun h => (Or.inr (Or.inr (Or.inr (Or.inl h))))) (fun h => (h.elim (fun h => (Or.inr (Or.inr (Or.inr (Or.inr (Or.inl h)))))) (fun h => (h.elim (fun h => (Or.inr (Or.inr (Or.inr (Or.inr (Or.inr (Or.inl h))))))) (fun h => (h.elim (fun h => (Or.inr (Or.inr (Or.inr (Or.inr (Or.inr (Or.inr (Or.inl h)))))))) (fun h => (h.elim (fun h => (Or.inr (Or.inr (Or.inr (Or.inr (Or.inr (Or.inr (Or.inr (Or.inl h))))))))) (fun h => (h.elim (fun h => (Or.inr (Or.inr (Or.inr (Or.inr (Or.inr (Or.inr (Or.inr (Or.inr (Or.inl h)))))))))) (fun h => (Or.inr (Or.inr (Or.inr (Or.inr (Or.inr (Or.inr (Or.inr (Or.inr (Or.inr (Or.inr (Or.inr (Or.inl h))))))))))))))))))))))))))))))) g263
          have FJ265 := gc_frc (W := fun q j => (q = 23 ∧ j = 9)) (V := fun q j => (q = 23 ∧ j = 9)) FJ225 (fun q j h => h) k263
          have t266 := (g263 23 1).resolve_left (by omega)
          have t267 := (g263 4 1).resolve_left (by omega)
          have t268 := (g263 (t + 11) 1).resolve_left (by omega)
          have t269 := (g263 t 11).resolve_left (by omega)
          have t270 := (g263 39 2).resolve_left (by omega)
          have f271 := (show 0 ≤ I264 23 1 ∧ I264 23 1 ≤ 1000 from gc_in hI264 R_23 rfl rfl)
          have f272 := (show 0 ≤ I264 23 5 ∧ I264 23 5 ≤ 1000 from gc_in hI264 R_23 rfl rfl)
          have f273 := (show 0 ≤ I264 23 6 ∧ I264 23 6 ≤ 1001 from gc_in hI264 R_23 rfl rfl)
          have f274 := (show 0 ≤ I264 23 7 ∧ I264 23 7 ≤ 125 from gc_in hI264 R_23 rfl rfl)
          have f275 := (show 0 ≤ I264 1 17 ∧ I264 1 17 ≤ 12000 from gc_in hI264 R_1 rfl rfl)
          have f276 := (show 0 ≤ I264 4 1 ∧ I264 4 1 ≤ 96 from gc_in hI264 R_4 rfl rfl)
          have f277 := (show 0 ≤ I264 (t + 11) 1 ∧ I264 (t + 11) 1 ≤ 24 from gc_in hI264 R_t_11 rfl rfl)
          have f278 := (show 0 ≤ I264 t 11 ∧ I264 t 11 ≤ 64 from gc_in hI264 R_t rfl rfl)
          have f279 := (show (-1) ≤ I264 39 2 ∧ I264 39 2 ≤ 999999 from gc_in hI264 R_39 rfl rfl)
          refine gv_callV hD rfl (As := []) (st := []) rfl B_39 S_39 rfl (gc_lV6 hws rfl) (Nat.le_of_ble_eq_true rfl) (gz_Ev_mono (d := 3) (by decide) E263) ?_
          show gv_X _ _ (139, [(1, .inl z117), (0, .inr (.inr (some 39)))], [.inl z263], sh, gc_h sh I264 J265 A)
          refine gv_if_eq (t := 156) hD rfl rfl ⟨by omega, by omega⟩ (fun c280 => ?_) (fun c280 => ?_)
          · show gv_X _ _ (156, [(1, .inl z117), (0, .inr (.inr (some 39)))], [], sh, gc_h sh I264 J265 A)
            refine gv_pick [] rfl ?_
            exact L156 I264 J265 hI264 FI264 FJ265 KLT_I264 (by omega)
          · show gv_X _ _ (142, [(1, .inl z117), (0, .inr (.inr (some 39)))], [], sh, gc_h sh I264 J265 A)
            refine gv_run 1 true hD (pc' := 143) (lv' := [(1, .inl z117), (0, .inr (.inr (some 39)))]) (st' := [.inr (.inr (some 39))]) (h' := gc_h sh I264 J265 A) (C := (True ∧ True)) rfl ⟨trivial, trivial⟩ ?_
            obtain ⟨r281, h281, E281, P281⟩ := d_X6_readHas (ws0 := ws0) (tb := tb) hws htb sh ro I264 J265 A hI264  t  hb  h_t G_t   (by omega) (by omega) (by omega) (by omega) (by omega) (by omega) KLT_I264
            obtain ⟨I282, J283, rfl, hI282, g281, k281, KLT_I282, ⟨z281, rfl, q281⟩⟩ := P281
            have FI282 := gc_frc (W := fun q j => (q = 39 ∧ j = 3) ∨ (q = 39 ∧ j = 4) ∨ (q = 23 ∧ j = 5) ∨ (q = 23 ∧ j = 6) ∨ (q = 23 ∧ j = 7) ∨ (q = 23 ∧ j = 8) ∨ (q = 1 ∧ j = 17) ∨ (q = 1 ∧ j = 18) ∨ q = 20 ∨ (q = 39 ∧ j = 6) ∨ (q = 39 ∧ j = 7) ∨ q = 41 ∨ q = (t + 15) ∨ (q = t ∧ j = 11)) (V := fun q j => (q = 39 ∧ j = 3) ∨ (q = 39 ∧ j = 4) ∨ (q = 23 ∧ j = 5) ∨ (q = 23 ∧ j = 6) ∨ (q = 23 ∧ j = 7) ∨ (q = 23 ∧ j = 8) ∨ (q = 39 ∧ j = 6)) FI264 (fun q j h => (h.elim (fun h => (Or.inl h)) (fun h => (h.elim (fun h => (Or.inr (Or.inl h))) (fun h => (h.elim (fun h => (Or.inr (Or.inr (Or.inl h)))) (fun h => (h.elim (fun h => (Or.inr (Or.inr (Or.inr (Or.inl h))))) (fun h => (h.elim (fun h => (Or.inr (Or.inr (Or.inr (Or.inr (Or.inl h)))))) (fun h => (h.elim (fun h => (Or.inr (Or.inr (Or.inr (Or.inr (Or.inr (Or.inl h))))))) (fun h => (Or.inr (Or.inr (Or.inr (Or.inr (Or.inr (Or.inr (Or.inr (Or.inr (Or.inr (Or.inl h))))))))))))))))))))))) g281
            have FJ283 := gc_frc (W := fun q j => (q = 23 ∧ j = 9)) (V := fun q j => (q = 23 ∧ j = 9)) FJ265 (fun q j h => h) k281
            have t284 := (g281 23 1).resolve_left (by omega)
            have t285 := (g281 1 17).resolve_left (by omega)
            have t286 := (g281 4 1).resolve_left (by omega)
            have t287 := (g281 (t + 11) 1).resolve_left (by omega)
            have t288 := (g281 t 11).resolve_left (by omega)
            have t289 := (g281 39 2).resolve_left (by omega)
            have f290 := (show 0 ≤ I282 23 1 ∧ I282 23 1 ≤ 1000 from gc_in hI282 R_23 rfl rfl)
            have f291 := (show 0 ≤ I282 23 5 ∧ I282 23 5 ≤ 1000 from gc_in hI282 R_23 rfl rfl)
            have f292 := (show 0 ≤ I282 23 6 ∧ I282 23 6 ≤ 1001 from gc_in hI282 R_23 rfl rfl)
            have f293 := (show 0 ≤ I282 23 7 ∧ I282 23 7 ≤ 125 from gc_in hI282 R_23 rfl rfl)
            have f294 := (show 0 ≤ I282 1 17 ∧ I282 1 17 ≤ 12000 from gc_in hI282 R_1 rfl rfl)
            have f295 := (show 0 ≤ I282 4 1 ∧ I282 4 1 ≤ 96 from gc_in hI282 R_4 rfl rfl)
            have f296 := (show 0 ≤ I282 (t + 11) 1 ∧ I282 (t + 11) 1 ≤ 24 from gc_in hI282 R_t_11 rfl rfl)
            have f297 := (show 0 ≤ I282 t 11 ∧ I282 t 11 ≤ 64 from gc_in hI282 R_t rfl rfl)
            have f298 := (show (-1) ≤ I282 39 2 ∧ I282 39 2 ≤ 999999 from gc_in hI282 R_39 rfl rfl)
            have KRW_I282 := gc_row_fr KRW_I264 (fun k => (g281 41 k).resolve_left (by omega))
            refine gv_callV hD rfl (As := []) (st := []) rfl B_39 S_39 rfl (gc_lV6 hws rfl) (Nat.le_of_ble_eq_true rfl) (gz_Ev_mono (d := 4) (by decide) E281) ?_
            show gv_X _ _ (146, [(1, .inl z117), (0, .inr (.inr (some 39)))], [.inl z281], sh, gc_h sh I282 J283 A)
            refine gv_if_eq (t := 156) hD rfl rfl ⟨by omega, by omega⟩ (fun c299 => ?_) (fun c299 => ?_)
            · show gv_X _ _ (156, [(1, .inl z117), (0, .inr (.inr (some 39)))], [], sh, gc_h sh I282 J283 A)
              refine gv_pick [] rfl ?_
              exact L156 I282 J283 hI282 FI282 FJ283 KLT_I282 (by omega)
            · show gv_X _ _ (149, [(1, .inl z117), (0, .inr (.inr (some 39)))], [], sh, gc_h sh I282 J283 A)
              refine gv_run 1 true hD (pc' := 150) (lv' := [(1, .inl z117), (0, .inr (.inr (some 39)))]) (st' := [.inr (.inr (some 39))]) (h' := gc_h sh I282 J283 A) (C := (True ∧ True)) rfl ⟨trivial, trivial⟩ ?_
              obtain ⟨r300, h300, E300, P300⟩ := d_X6_readCost (ws0 := ws0) (tb := tb) hws htb sh ro I282 J283 A hI282   hb    (by omega) (by omega) (by omega) (by omega) (by omega) KLT_I282
              obtain ⟨I301, J302, rfl, hI301, g300, k300, KLT_I301, ⟨z300, rfl, q300⟩⟩ := P300
              have FI301 := gc_frc (W := fun q j => (q = 39 ∧ j = 3) ∨ (q = 39 ∧ j = 4) ∨ (q = 23 ∧ j = 5) ∨ (q = 23 ∧ j = 6) ∨ (q = 23 ∧ j = 7) ∨ (q = 23 ∧ j = 8) ∨ (q = 1 ∧ j = 17) ∨ (q = 1 ∧ j = 18) ∨ q = 20 ∨ (q = 39 ∧ j = 6) ∨ (q = 39 ∧ j = 7) ∨ q = 41 ∨ q = (t + 15) ∨ (q = t ∧ j = 11)) (V := fun q j => (q = 39 ∧ j = 3) ∨ (q = 39 ∧ j = 4) ∨ (q = 23 ∧ j = 5) ∨ (q = 23 ∧ j = 6) ∨ (q = 23 ∧ j = 7) ∨ (q = 23 ∧ j = 8) ∨ (q = 39 ∧ j = 7)) FI282 (fun q j h => (h.elim (fun h => (Or.inl h)) (fun h => (h.elim (fun h => (Or.inr (Or.inl h))) (fun h => (h.elim (fun h => (Or.inr (Or.inr (Or.inl h)))) (fun h => (h.elim (fun h => (Or.inr (Or.inr (Or.inr (Or.inl h))))) (fun h => (h.elim (fun h => (Or.inr (Or.inr (Or.inr (Or.inr (Or.inl h)))))) (fun h => (h.elim (fun h => (Or.inr (Or.inr (Or.inr (Or.inr (Or.inr (Or.inl h))))))) (fun h => (Or.inr (Or.inr (Or.inr (Or.inr (Or.inr (Or.inr (Or.inr (Or.inr (Or.inr (Or.inr (Or.inl h)))))))))))))))))))))))) g300
              have FJ302 := gc_frc (W := fun q j => (q = 23 ∧ j = 9)) (V := fun q j => (q = 23 ∧ j = 9)) FJ283 (fun q j h => h) k300
              have t303 := (g300 23 1).resolve_left (by omega)
              have t304 := (g300 1 17).resolve_left (by omega)
              have t305 := (g300 4 1).resolve_left (by omega)
              have t306 := (g300 (t + 11) 1).resolve_left (by omega)
              have t307 := (g300 t 11).resolve_left (by omega)
              have t308 := (g300 39 2).resolve_left (by omega)
              have f309 := (show 0 ≤ I301 23 1 ∧ I301 23 1 ≤ 1000 from gc_in hI301 R_23 rfl rfl)
              have f310 := (show 0 ≤ I301 23 5 ∧ I301 23 5 ≤ 1000 from gc_in hI301 R_23 rfl rfl)
              have f311 := (show 0 ≤ I301 23 6 ∧ I301 23 6 ≤ 1001 from gc_in hI301 R_23 rfl rfl)
              have f312 := (show 0 ≤ I301 23 7 ∧ I301 23 7 ≤ 125 from gc_in hI301 R_23 rfl rfl)
              have f313 := (show 0 ≤ I301 1 17 ∧ I301 1 17 ≤ 12000 from gc_in hI301 R_1 rfl rfl)
              have f314 := (show 0 ≤ I301 4 1 ∧ I301 4 1 ≤ 96 from gc_in hI301 R_4 rfl rfl)
              have f315 := (show 0 ≤ I301 (t + 11) 1 ∧ I301 (t + 11) 1 ≤ 24 from gc_in hI301 R_t_11 rfl rfl)
              have f316 := (show 0 ≤ I301 t 11 ∧ I301 t 11 ≤ 64 from gc_in hI301 R_t rfl rfl)
              have f317 := (show (-1) ≤ I301 39 2 ∧ I301 39 2 ≤ 999999 from gc_in hI301 R_39 rfl rfl)
              have KRW_I301 := gc_row_fr KRW_I282 (fun k => (g300 41 k).resolve_left (by omega))
              refine gv_callV hD rfl (As := []) (st := []) rfl B_39 S_39 rfl (gc_lV6 hws rfl) (Nat.le_of_ble_eq_true rfl) (gz_Ev_mono (d := 3) (by decide) E300) ?_
              show gv_X _ _ (153, [(1, .inl z117), (0, .inr (.inr (some 39)))], [.inl z300], sh, gc_h sh I301 J302 A)
              refine gv_if_ne (t := 158) hD rfl rfl ⟨by omega, by omega⟩ (fun c318 => ?_) (fun c318 => ?_)
              · show gv_X _ _ (158, [(1, .inl z117), (0, .inr (.inr (some 39)))], [], sh, gc_h sh I301 J302 A)
                refine gv_run 1 true hD (pc' := 159) (lv' := [(1, .inl z117), (0, .inr (.inr (some 39)))]) (st' := [.inr (.inr (some 39))]) (h' := gc_h sh I301 J302 A) (C := (True ∧ True)) rfl ⟨trivial, trivial⟩ ?_
                refine gv_get hD rfl rfl S_39 ⟨by decide, B_39⟩ (gc_hA S_39 rfl A_39_10) ?_
                show gv_X _ _ (162, [(1, .inl z117), (0, .inr (.inr (some 39)))], [.inr (.inr (some 41))], sh, gc_h sh I301 J302 A)
                refine gv_run 2 true hD (pc' := 164) (lv' := [(1, .inl z117), (0, .inr (.inr (some 39)))]) (st' := [.inr (.inr (some 39)), .inl 2, .inr (.inr (some 41))]) (h' := gc_h sh I301 J302 A) (C := ((True ∧ True) ∧ True)) rfl ⟨⟨trivial, trivial⟩, trivial⟩ ?_
                have f319 := (show 0 ≤ I301 39 6 ∧ I301 39 6 ≤ 16777215 from gc_in hI301 R_39 rfl rfl)
                refine gv_get hD rfl rfl S_39 ⟨by decide, B_39⟩ (gc_hI S_39 rfl) ?_
                show gv_X _ _ (167, [(1, .inl z117), (0, .inr (.inr (some 39)))], [.inl (I301 39 6), .inl 2, .inr (.inr (some 41))], sh, gc_h sh I301 J302 A)
                refine gv_iast hD rfl S_41 ⟨by decide, B_41⟩ ⟨by omega, by omega⟩ ?_
                refine gc_st (k := 2) hI301 S_41 rfl R_41 (lo := (-2147483648)) (hi := 2147483647) rfl rfl (by omega) (by omega) (fun I320 hI320 q321 p321 => ?_)
                have FI320 := gc_frs (W := fun q j => (q = 39 ∧ j = 3) ∨ (q = 39 ∧ j = 4) ∨ (q = 23 ∧ j = 5) ∨ (q = 23 ∧ j = 6) ∨ (q = 23 ∧ j = 7) ∨ (q = 23 ∧ j = 8) ∨ (q = 1 ∧ j = 17) ∨ (q = 1 ∧ j = 18) ∨ q = 20 ∨ (q = 39 ∧ j = 6) ∨ (q = 39 ∧ j = 7) ∨ q = 41 ∨ q = (t + 15) ∨ (q = t ∧ j = 11)) FI301 (Or.inr (Or.inr (Or.inr (Or.inr (Or.inr (Or.inr (Or.inr (Or.inr (Or.inr (Or.inr (Or.inr (Or.inl rfl)))))))))))) p321
                have t322 := p321 23 1 (fun h => absurd h.1 (by omega))
                have t323 := p321 23 5 (fun h => absurd h.1 (by omega))
                have t324 := p321 23 6 (fun h => absurd h.1 (by omega))
                have t325 := p321 23 7 (fun h => absurd h.1 (by omega))
                have t326 := p321 1 17 (fun h => absurd h.1 (by omega))
                have t327 := p321 4 1 (fun h => absurd h.1 (by omega))
                have t328 := p321 (t + 11) 1 (fun h => absurd h.1 (by omega))
                have t329 := p321 t 11 (fun h => absurd h.1 (by omega))
                have t330 := p321 39 2 (fun h => absurd h.1 (by omega))
                have f331 := (show 0 ≤ I320 23 1 ∧ I320 23 1 ≤ 1000 from gc_in hI320 R_23 rfl rfl)
                have f332 := (show 0 ≤ I320 23 5 ∧ I320 23 5 ≤ 1000 from gc_in hI320 R_23 rfl rfl)
                have f333 := (show 0 ≤ I320 23 6 ∧ I320 23 6 ≤ 1001 from gc_in hI320 R_23 rfl rfl)
                have f334 := (show 0 ≤ I320 23 7 ∧ I320 23 7 ≤ 125 from gc_in hI320 R_23 rfl rfl)
                have f335 := (show 0 ≤ I320 1 17 ∧ I320 1 17 ≤ 12000 from gc_in hI320 R_1 rfl rfl)
                have f336 := (show 0 ≤ I320 4 1 ∧ I320 4 1 ≤ 96 from gc_in hI320 R_4 rfl rfl)
                have f337 := (show 0 ≤ I320 (t + 11) 1 ∧ I320 (t + 11) 1 ≤ 24 from gc_in hI320 R_t_11 rfl rfl)
                have f338 := (show 0 ≤ I320 t 11 ∧ I320 t 11 ≤ 64 from gc_in hI320 R_t rfl rfl)
                have f339 := (show (-1) ≤ I320 39 2 ∧ I320 39 2 ≤ 999999 from gc_in hI320 R_39 rfl rfl)
                have KLT_I320 := gc_LT_fr KLT_I301 (p321 23 5 (fun h => absurd h.1 (by omega))) (p321 23 6 (fun h => absurd h.1 (by omega))) (p321 23 7 (fun h => absurd h.1 (by omega))) (fun k => p321 24 k (fun h => absurd h.1 (by omega)))
                have KRW_I320 := gc_row_st KRW_I301 p321 q321 (by unfold gc_fW; omega)
                show gv_X _ _ (168, [(1, .inl z117), (0, .inr (.inr (some 39)))], [], sh, gc_h sh I320 J302 A)
                refine gv_run 1 true hD (pc' := 169) (lv' := [(1, .inl z117), (0, .inr (.inr (some 39)))]) (st' := [.inr (.inr (some 39))]) (h' := gc_h sh I320 J302 A) (C := (True ∧ True)) rfl ⟨trivial, trivial⟩ ?_
                refine gv_get hD rfl rfl S_39 ⟨by decide, B_39⟩ (gc_hA S_39 rfl A_39_10) ?_
                show gv_X _ _ (172, [(1, .inl z117), (0, .inr (.inr (some 39)))], [.inr (.inr (some 41))], sh, gc_h sh I320 J302 A)
                refine gv_run 2 true hD (pc' := 174) (lv' := [(1, .inl z117), (0, .inr (.inr (some 39)))]) (st' := [.inr (.inr (some 39)), .inl 3, .inr (.inr (some 41))]) (h' := gc_h sh I320 J302 A) (C := ((True ∧ True) ∧ True)) rfl ⟨⟨trivial, trivial⟩, trivial⟩ ?_
                have f340 := (show 0 ≤ I320 39 7 ∧ I320 39 7 ≤ 10000 from gc_in hI320 R_39 rfl rfl)
                refine gv_get hD rfl rfl S_39 ⟨by decide, B_39⟩ (gc_hI S_39 rfl) ?_
                show gv_X _ _ (177, [(1, .inl z117), (0, .inr (.inr (some 39)))], [.inl (I320 39 7), .inl 3, .inr (.inr (some 41))], sh, gc_h sh I320 J302 A)
                refine gv_iast hD rfl S_41 ⟨by decide, B_41⟩ ⟨by omega, by omega⟩ ?_
                refine gc_st (k := 3) hI320 S_41 rfl R_41 (lo := (-2147483648)) (hi := 2147483647) rfl rfl (by omega) (by omega) (fun I341 hI341 q342 p342 => ?_)
                have FI341 := gc_frs (W := fun q j => (q = 39 ∧ j = 3) ∨ (q = 39 ∧ j = 4) ∨ (q = 23 ∧ j = 5) ∨ (q = 23 ∧ j = 6) ∨ (q = 23 ∧ j = 7) ∨ (q = 23 ∧ j = 8) ∨ (q = 1 ∧ j = 17) ∨ (q = 1 ∧ j = 18) ∨ q = 20 ∨ (q = 39 ∧ j = 6) ∨ (q = 39 ∧ j = 7) ∨ q = 41 ∨ q = (t + 15) ∨ (q = t ∧ j = 11)) FI320 (Or.inr (Or.inr (Or.inr (Or.inr (Or.inr (Or.inr (Or.inr (Or.inr (Or.inr (Or.inr (Or.inr (Or.inl rfl)))))))))))) p342
                have t343 := p342 23 1 (fun h => absurd h.1 (by omega))
                have t344 := p342 23 5 (fun h => absurd h.1 (by omega))
                have t345 := p342 23 6 (fun h => absurd h.1 (by omega))
                have t346 := p342 23 7 (fun h => absurd h.1 (by omega))
                have t347 := p342 1 17 (fun h => absurd h.1 (by omega))
                have t348 := p342 4 1 (fun h => absurd h.1 (by omega))
                have t349 := p342 (t + 11) 1 (fun h => absurd h.1 (by omega))
                have t350 := p342 t 11 (fun h => absurd h.1 (by omega))
                have t351 := p342 39 2 (fun h => absurd h.1 (by omega))
                have f352 := (show 0 ≤ I341 23 1 ∧ I341 23 1 ≤ 1000 from gc_in hI341 R_23 rfl rfl)
                have f353 := (show 0 ≤ I341 23 5 ∧ I341 23 5 ≤ 1000 from gc_in hI341 R_23 rfl rfl)
                have f354 := (show 0 ≤ I341 23 6 ∧ I341 23 6 ≤ 1001 from gc_in hI341 R_23 rfl rfl)
                have f355 := (show 0 ≤ I341 23 7 ∧ I341 23 7 ≤ 125 from gc_in hI341 R_23 rfl rfl)
                have f356 := (show 0 ≤ I341 1 17 ∧ I341 1 17 ≤ 12000 from gc_in hI341 R_1 rfl rfl)
                have f357 := (show 0 ≤ I341 4 1 ∧ I341 4 1 ≤ 96 from gc_in hI341 R_4 rfl rfl)
                have f358 := (show 0 ≤ I341 (t + 11) 1 ∧ I341 (t + 11) 1 ≤ 24 from gc_in hI341 R_t_11 rfl rfl)
                have f359 := (show 0 ≤ I341 t 11 ∧ I341 t 11 ≤ 64 from gc_in hI341 R_t rfl rfl)
                have f360 := (show (-1) ≤ I341 39 2 ∧ I341 39 2 ≤ 999999 from gc_in hI341 R_39 rfl rfl)
                have KLT_I341 := gc_LT_fr KLT_I320 (p342 23 5 (fun h => absurd h.1 (by omega))) (p342 23 6 (fun h => absurd h.1 (by omega))) (p342 23 7 (fun h => absurd h.1 (by omega))) (fun k => p342 24 k (fun h => absurd h.1 (by omega)))
                have KRW_I341 := gc_row_st KRW_I320 p342 q342 (by unfold gc_fW; omega)
                show gv_X _ _ (178, [(1, .inl z117), (0, .inr (.inr (some 39)))], [], sh, gc_h sh I341 J302 A)
                refine gv_run 2 true hD (pc' := 180) (lv' := [(1, .inl z117), (0, .inr (.inr (some 39)))]) (st' := [.inr (.inr (some 39)), .inr (.inr (some 39))]) (h' := gc_h sh I341 J302 A) (C := ((True ∧ True) ∧ True)) rfl ⟨⟨trivial, trivial⟩, trivial⟩ ?_
                refine gv_get hD rfl rfl S_39 ⟨by decide, B_39⟩ (gc_h5 (t := t) S_39 rfl (by omega)) ?_
                show gv_X _ _ (183, [(1, .inl z117), (0, .inr (.inr (some 39)))], [.inr (.inr (some t)), .inr (.inr (some 39))], sh, gc_h sh I341 J302 A)
                have f361 := (show 0 ≤ I341 t 11 ∧ I341 t 11 ≤ 64 from gc_in hI341 R_t rfl rfl)
                refine gv_get hD rfl rfl S_t ⟨by decide, B_t⟩ (gc_hI S_t rfl) ?_
                show gv_X _ _ (186, [(1, .inl z117), (0, .inr (.inr (some 39)))], [.inl (I341 t 11), .inr (.inr (some 39))], sh, gc_h sh I341 J302 A)
                refine gv_run 1 true hD (pc' := 188) (lv' := [(1, .inl z117), (0, .inr (.inr (some 39)))]) (st' := [.inl 64, .inl (I341 t 11), .inr (.inr (some 39))]) (h' := gc_h sh I341 J302 A) (C := (True ∧ True)) rfl ⟨trivial, trivial⟩ ?_
                refine gv_icmp_lt (t := 195) hD rfl rfl ⟨⟨by omega, by omega⟩, ⟨by omega, by omega⟩⟩ (fun c362 => ?_) (fun c362 => ?_)
                · show gv_X _ _ (195, [(1, .inl z117), (0, .inr (.inr (some 39)))], [.inr (.inr (some 39))], sh, gc_h sh I341 J302 A)
                  refine gv_run 1 true hD (pc' := 196) (lv' := [(1, .inl z117), (0, .inr (.inr (some 39)))]) (st' := [.inl 0, .inr (.inr (some 39))]) (h' := gc_h sh I341 J302 A) (C := (True ∧ True)) rfl ⟨trivial, trivial⟩ ?_
                  refine gv_pick [1] rfl ?_
                  exact L196 I341 J302 0 hI341 FI341 FJ302 KLT_I341 KRW_I341 (by omega)
                · show gv_X _ _ (191, [(1, .inl z117), (0, .inr (.inr (some 39)))], [.inr (.inr (some 39))], sh, gc_h sh I341 J302 A)
                  refine gv_run 2 true hD (pc' := 196) (lv' := [(1, .inl z117), (0, .inr (.inr (some 39)))]) (st' := [.inl 1, .inr (.inr (some 39))]) (h' := gc_h sh I341 J302 A) (C := ((True ∧ True) ∧ True)) rfl ⟨⟨trivial, trivial⟩, trivial⟩ ?_
                  refine gv_pick [1] rfl ?_
                  exact L196 I341 J302 1 hI341 FI341 FJ302 KLT_I341 KRW_I341 (by omega)
              · show gv_X _ _ (156, [(1, .inl z117), (0, .inr (.inr (some 39)))], [], sh, gc_h sh I301 J302 A)
                refine gv_pick [] rfl ?_
                exact L156 I301 J302 hI301 FI301 FJ302 KLT_I301 (by omega)
      · show gv_X _ _ (80, [(1, .inl z117), (0, .inr (.inr (some 39)))], [], sh, gc_h sh I139 J122 A)
        refine gv_run 1 true hD (pc' := 81) (lv' := [(1, .inl z117), (0, .inr (.inr (some 39)))]) (st' := [.inl 0]) (h' := gc_h sh I139 J122 A) (C := (True ∧ True)) rfl ⟨trivial, trivial⟩ ?_
        exact gv_zret hD rfl (by omega) ⟨I139, J122, rfl, hI139, FI139, FJ122, KLT_I139, ⟨_, rfl, by omega⟩⟩
    · show gv_X _ _ (46, [(1, .inl z117), (0, .inr (.inr (some 39)))], [], sh, gc_h sh I96 J A)
      refine gv_run 3 true hD (pc' := 49) (lv' := [(1, .inl z117), (0, .inr (.inr (some 39)))]) (st' := [.inr (.inr (some 39)), .inl 5, .inr (.inr (some 39))]) (h' := gc_h sh I96 J A) (C := (((True ∧ True) ∧ True) ∧ True)) rfl ⟨⟨⟨trivial, trivial⟩, trivial⟩, trivial⟩ ?_
      refine gv_get hD rfl rfl S_39 ⟨by decide, B_39⟩ (gc_hA S_39 rfl A_39_1) ?_
      show gv_X _ _ (52, [(1, .inl z117), (0, .inr (.inr (some 39)))], [.inr (.inr (some 23)), .inl 5, .inr (.inr (some 39))], sh, gc_h sh I96 J A)
      have f363 := (show 0 ≤ I96 23 5 ∧ I96 23 5 ≤ 1000 from gc_in hI96 R_23 rfl rfl)
      refine gv_get hD rfl rfl S_23 ⟨by decide, B_23⟩ (gc_hI S_23 rfl) ?_
      show gv_X _ _ (55, [(1, .inl z117), (0, .inr (.inr (some 39)))], [.inl (I96 23 5), .inl 5, .inr (.inr (some 39))], sh, gc_h sh I96 J A)
      obtain ⟨r364, h364, E364, P364⟩ := d_X6_wrong (ws0 := ws0) (tb := tb) hws htb sh ro I96 J A hI96  5 (I96 23 5) hb   ⟨by omega, by omega⟩ ⟨by omega, by omega⟩  
      obtain ⟨I365, J366, rfl, hI365, g364, k364, ⟨z364, rfl, q364⟩⟩ := P364
      have FI365 := gc_frc (W := fun q j => (q = 39 ∧ j = 3) ∨ (q = 39 ∧ j = 4) ∨ (q = 23 ∧ j = 5) ∨ (q = 23 ∧ j = 6) ∨ (q = 23 ∧ j = 7) ∨ (q = 23 ∧ j = 8) ∨ (q = 1 ∧ j = 17) ∨ (q = 1 ∧ j = 18) ∨ q = 20 ∨ (q = 39 ∧ j = 6) ∨ (q = 39 ∧ j = 7) ∨ q = 41 ∨ q = (t + 15) ∨ (q = t ∧ j = 11)) (V := fun q j => (q = 39 ∧ j = 3) ∨ (q = 39 ∧ j = 4)) FI96 (fun q j h => (h.elim (fun h => (Or.inl h)) (fun h => (Or.inr (Or.inl h))))) g364
      have t367 := (g364 23 1).resolve_left (by omega)
      have t368 := (g364 23 5).resolve_left (by omega)
      have t369 := (g364 23 6).resolve_left (by omega)
      have t370 := (g364 23 7).resolve_left (by omega)
      have t371 := (g364 1 17).resolve_left (by omega)
      have t372 := (g364 4 1).resolve_left (by omega)
      have t373 := (g364 (t + 11) 1).resolve_left (by omega)
      have t374 := (g364 t 11).resolve_left (by omega)
      have t375 := (g364 39 2).resolve_left (by omega)
      have f376 := (show 0 ≤ I365 23 1 ∧ I365 23 1 ≤ 1000 from gc_in hI365 R_23 rfl rfl)
      have f377 := (show 0 ≤ I365 23 5 ∧ I365 23 5 ≤ 1000 from gc_in hI365 R_23 rfl rfl)
      have f378 := (show 0 ≤ I365 23 6 ∧ I365 23 6 ≤ 1001 from gc_in hI365 R_23 rfl rfl)
      have f379 := (show 0 ≤ I365 23 7 ∧ I365 23 7 ≤ 125 from gc_in hI365 R_23 rfl rfl)
      have f380 := (show 0 ≤ I365 1 17 ∧ I365 1 17 ≤ 12000 from gc_in hI365 R_1 rfl rfl)
      have f381 := (show 0 ≤ I365 4 1 ∧ I365 4 1 ≤ 96 from gc_in hI365 R_4 rfl rfl)
      have f382 := (show 0 ≤ I365 (t + 11) 1 ∧ I365 (t + 11) 1 ≤ 24 from gc_in hI365 R_t_11 rfl rfl)
      have f383 := (show 0 ≤ I365 t 11 ∧ I365 t 11 ≤ 64 from gc_in hI365 R_t rfl rfl)
      have f384 := (show (-1) ≤ I365 39 2 ∧ I365 39 2 ≤ 999999 from gc_in hI365 R_39 rfl rfl)
      obtain rfl : J = J366 := funext fun q => funext fun j => ((k364 q j).resolve_left id).symm
      have KLT_I365 := gc_LT_fr KLT_I96 ((g364 23 5).resolve_left (by omega)) ((g364 23 6).resolve_left (by omega)) ((g364 23 7).resolve_left (by omega)) (fun k => (g364 24 k).resolve_left (by omega))
      refine gv_callV hD rfl (As := [.inl 5, .inl (I96 23 5)]) (st := []) rfl B_39 S_39 rfl (gc_lV6 hws rfl) (Nat.le_of_ble_eq_true rfl) (gz_Ev_mono (d := 1) (by decide) E364) ?_
      show gv_X _ _ (58, [(1, .inl z117), (0, .inr (.inr (some 39)))], [.inl z364], sh, gc_h sh I365 J A)
      exact gv_zret hD rfl (by omega) ⟨I365, J, rfl, hI365, FI365, FJ, KLT_I365, ⟨_, rfl, by omega⟩⟩
  · show gv_X _ _ (14, [(0, .inr (.inr (some 39)))], [], sh, gc_h sh I96 J A)
    refine gv_run 1 true hD (pc' := 15) (lv' := [(0, .inr (.inr (some 39)))]) (st' := [.inl 0]) (h' := gc_h sh I96 J A) (C := (True ∧ True)) rfl ⟨trivial, trivial⟩ ?_
    exact gv_zret hD rfl (by omega) ⟨I96, J, rfl, hI96, FI96, FJ, KLT_I96, ⟨_, rfl, by omega⟩⟩
