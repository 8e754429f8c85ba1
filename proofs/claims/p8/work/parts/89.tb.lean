set_option maxHeartbeats 8000000 in
set_option maxRecDepth 100000 in
theorem d_X1_readQuestion {ws0 : List Cond} {tb : String → gz_T} (hws : gc_Ws ws0) (htb : gc_tbs tb) (sh : gz_Sh) (ro : Nat → Nat) (I : gr_I) (J : gr_J) (A : gc_A) (hI : gc_Inv ro I) (a1 : Nat) (hb : gc_Base sh ro A) (h_a1 : gc_isText sh ro A a1) (G_a1 : a1 + 3 < 39)   : ∃ r h', gz_Ev ws0 tb 4 (yX1_readQuestion, cX1_readQuestion, 5, (some .boolean)) [.inr (.inr (some 100)), .inr (.inr (some a1))] sh (gc_h sh I J A) r sh h' 0 0 ∧ (∃ (I' : gr_I) (J' : gr_J), h' = gc_h sh I' J' A ∧ gc_Inv ro I' ∧ (∀ q j : Nat, ((q = 100 ∧ j = 17) ∨ q = 113 ∨ (q = a1 ∧ j = 5) ∨ (q = a1 ∧ j = 6) ∨ (q = a1 ∧ j = 7) ∨ (q = a1 ∧ j = 8)) ∨ I' q j = I q j) ∧ (∀ q j : Nat, ((q = a1 ∧ j = 9)) ∨ J' q j = J q j) ∧ (∃ z : Int, r = some (.inl z) ∧ 0 ≤ z ∧ z ≤ 1 ∧ (gc_QU I') ∧ (z = 0 ∨ 1 ≤ I' 100 17))) := by
  have FI : ∀ q j : Nat, ((q = 100 ∧ j = 17) ∨ q = 113 ∨ (q = a1 ∧ j = 5) ∨ (q = a1 ∧ j = 6) ∨ (q = a1 ∧ j = 7) ∨ (q = a1 ∧ j = 8)) ∨ I q j = I q j := fun _ _ => Or.inr rfl
  have FJ : ∀ q j : Nat, ((q = a1 ∧ j = 9)) ∨ J q j = J q j := fun _ _ => Or.inr rfl
  have A_1_0 : A 1 0 = some 2 := gc_bA hb rfl
  have A_100_0 : A 100 0 = some 1 := gc_bA hb rfl
  have A_100_18 : A 100 18 = some 113 := gc_bA hb rfl
  have B_1 : 1 < 1000000 := by decide
  have B_100 : 100 < 1000000 := by decide
  have B_113 : 113 < 1000000 := by decide
  have B_2 : 2 < 1000000 := by decide
  have R_100 : ro 100 = 75 := gc_bR hb (by decide) rfl
  have R_113 : ro 113 = 71 := gc_bR hb (by decide) rfl
  have S_1 : sh[1]? = some (false, 8, 21) := gc_bS hb rfl
  have S_100 : sh[100]? = some (false, 1, 19) := gc_bS hb rfl
  have S_113 : sh[113]? = some (true, 1, 24) := gc_bS hb rfl
  have S_2 : sh[2]? = some (false, 4, 2) := gc_bS hb rfl
  obtain ⟨S_a1, R_a1, B_a1, A_a1_0, S_a1_1, R_a1_1, B_a1_1, A_a1_2, S_a1_2, R_a1_2, B_a1_2, A_a1_3, S_a1_3, R_a1_3, B_a1_3⟩ := id h_a1
  have hD : gv_D (gc_E1 ws0 tb 3 (yX1_readQuestion, cX1_readQuestion, 5, (some .boolean)) kX1_readQuestion) := gq_of oX1_readQuestion
  refine gc_ev1 (d := 3) (l := kX1_readQuestion) (Po := fun r h' => (∃ (I' : gr_I) (J' : gr_J), h' = gc_h sh I' J' A ∧ gc_Inv ro I' ∧ (∀ q j : Nat, ((q = 100 ∧ j = 17) ∨ q = 113 ∨ (q = a1 ∧ j = 5) ∨ (q = a1 ∧ j = 6) ∨ (q = a1 ∧ j = 7) ∨ (q = a1 ∧ j = 8)) ∨ I' q j = I q j) ∧ (∀ q j : Nat, ((q = a1 ∧ j = 9)) ∨ J' q j = J q j) ∧ (∃ z : Int, r = some (.inl z) ∧ 0 ≤ z ∧ z ≤ 1 ∧ (gc_QU I') ∧ (z = 0 ∨ 1 ≤ I' 100 17)))) htb rfl (Nat.le_of_ble_eq_true rfl) ?_
  have N_a1__113 : ¬ (a1 = 113) := by exact gz_m 0 (by omega)
  have f1 := (show 0 ≤ I a1 1 ∧ I a1 1 ≤ 1000 from gc_in hI R_a1 rfl rfl)
  have f2 := (show 0 ≤ I a1 5 ∧ I a1 5 ≤ 1000 from gc_in hI R_a1 rfl rfl)
  have f3 := (show 0 ≤ I a1 6 ∧ I a1 6 ≤ 1001 from gc_in hI R_a1 rfl rfl)
  have f4 := (show 0 ≤ I a1 7 ∧ I a1 7 ≤ 125 from gc_in hI R_a1 rfl rfl)
  have f5 := (show 0 ≤ I 100 17 ∧ I 100 17 ≤ 8 from gc_in hI R_100 rfl rfl)
  have L11 : ∀ (n9 : Nat) (I6 : gr_I) (J7 : gr_J) (v2_8 : Int), (10 - v2_8).toNat < n9 → gc_Inv ro I6 → (∀ q j : Nat, ((q = 100 ∧ j = 17) ∨ q = 113 ∨ (q = a1 ∧ j = 5) ∨ (q = a1 ∧ j = 6) ∨ (q = a1 ∧ j = 7) ∨ (q = a1 ∧ j = 8)) ∨ I6 q j = I q j) → (∀ q j : Nat, ((q = a1 ∧ j = 9)) ∨ J7 q j = J q j) → ((0 ≤ v2_8 ∧ v2_8 ≤ 9) ∧ (I6 a1 5 ≤ I6 a1 6) ∧ (I6 a1 7 = 5 ∨ I6 a1 6 ≤ I6 a1 1) ∧ (I6 a1 5 ≤ I6 a1 1) ∧ (I6 a1 7 = 4 ∨ (I6 a1 5 < I6 a1 6 ∧ I6 a1 5 < I6 a1 1)) ∧ (I6 a1 7 = 3 → 2 ≤ I6 a1 6 - I6 a1 5 ∧ I6 a1 6 - I6 a1 5 ≤ 14) ∧ (I6 100 17 ≤ v2_8)) → (gc_QU I6) → gv_X (gc_E1 ws0 tb 3 (yX1_readQuestion, cX1_readQuestion, 5, (some .boolean)) kX1_readQuestion) (gv_Q cX1_readQuestion (some .boolean) sh (fun r h' => (∃ (I' : gr_I) (J' : gr_J), h' = gc_h sh I' J' A ∧ gc_Inv ro I' ∧ (∀ q j : Nat, ((q = 100 ∧ j = 17) ∨ q = 113 ∨ (q = a1 ∧ j = 5) ∨ (q = a1 ∧ j = 6) ∨ (q = a1 ∧ j = 7) ∨ (q = a1 ∧ j = 8)) ∨ I' q j = I q j) ∧ (∀ q j : Nat, ((q = a1 ∧ j = 9)) ∨ J' q j = J q j) ∧ (∃ z : Int, r = some (.inl z) ∧ 0 ≤ z ∧ z ≤ 1 ∧ (gc_QU I') ∧ (z = 0 ∨ 1 ≤ I' 100 17))))) (11, [(0, .inr (.inr (some 100))), (1, .inr (.inr (some a1))), (2, .inl v2_8)], [], sh, gc_h sh I6 J7 A) := by
    intro n9
    induction n9 with
    | zero => intro I6 J7 v2_8 hn; exact gz_m 1 (by omega)
    | succ n9 ih11 =>
      intro I6 J7 v2_8 hn hI6 FI6 FJ7 m_8 e0_8
      obtain ⟨hv2_8, e1_8, e2_8, e3_8, e4_8, e5_8, e6_8⟩ := m_8
      have f9 := (show 0 ≤ I6 a1 1 ∧ I6 a1 1 ≤ 1000 from gc_in hI6 R_a1 rfl rfl)
      have f10 := (show 0 ≤ I6 a1 5 ∧ I6 a1 5 ≤ 1000 from gc_in hI6 R_a1 rfl rfl)
      have f11 := (show 0 ≤ I6 a1 6 ∧ I6 a1 6 ≤ 1001 from gc_in hI6 R_a1 rfl rfl)
      have f12 := (show 0 ≤ I6 a1 7 ∧ I6 a1 7 ≤ 125 from gc_in hI6 R_a1 rfl rfl)
      have f13 := (show 0 ≤ I6 100 17 ∧ I6 100 17 ≤ 8 from gc_in hI6 R_100 rfl rfl)
      have L51 : ∀ (s0_14 : Int), ((0 ≤ v2_8 ∧ v2_8 ≤ 8) ∧ ((-1) ≤ s0_14 ∧ s0_14 ≤ 399) ∧ (s0_14 < 0 ∨ I6 a1 7 = 1)) → gv_X (gc_E1 ws0 tb 3 (yX1_readQuestion, cX1_readQuestion, 5, (some .boolean)) kX1_readQuestion) (gv_Q cX1_readQuestion (some .boolean) sh (fun r h' => (∃ (I' : gr_I) (J' : gr_J), h' = gc_h sh I' J' A ∧ gc_Inv ro I' ∧ (∀ q j : Nat, ((q = 100 ∧ j = 17) ∨ q = 113 ∨ (q = a1 ∧ j = 5) ∨ (q = a1 ∧ j = 6) ∨ (q = a1 ∧ j = 7) ∨ (q = a1 ∧ j = 8)) ∨ I' q j = I q j) ∧ (∀ q j : Nat, ((q = a1 ∧ j = 9)) ∨ J' q j = J q j) ∧ (∃ z : Int, r = some (.inl z) ∧ 0 ≤ z ∧ z ≤ 1 ∧ (gc_QU I') ∧ (z = 0 ∨ 1 ≤ I' 100 17))))) (51, [(0, .inr (.inr (some 100))), (1, .inr (.inr (some a1))), (2, .inl v2_8)], [.inl s0_14], sh, gc_h sh I6 J7 A) := by
        intro s0_14 m_14
        obtain ⟨hv2_8_14, hs0_14, e0_14⟩ := m_14
        have f15 := (show 0 ≤ I6 a1 1 ∧ I6 a1 1 ≤ 1000 from gc_in hI6 R_a1 rfl rfl)
        have f16 := (show 0 ≤ I6 a1 5 ∧ I6 a1 5 ≤ 1000 from gc_in hI6 R_a1 rfl rfl)
        have f17 := (show 0 ≤ I6 a1 6 ∧ I6 a1 6 ≤ 1001 from gc_in hI6 R_a1 rfl rfl)
        have f18 := (show 0 ≤ I6 a1 7 ∧ I6 a1 7 ≤ 125 from gc_in hI6 R_a1 rfl rfl)
        have f19 := (show 0 ≤ I6 100 17 ∧ I6 100 17 ≤ 8 from gc_in hI6 R_100 rfl rfl)
        have L78 : ∀ (v3_20 : Int) (s0_20 : Int), ((0 ≤ v2_8 ∧ v2_8 ≤ 8) ∧ ((-1) ≤ v3_20 ∧ v3_20 ≤ 399) ∧ (0 ≤ s0_20 ∧ s0_20 ≤ 1) ∧ (v3_20 < 0 ∨ I6 a1 7 = 1) ∧ (s0_20 = 0 ∨ I6 a1 7 = 42 ∨ I6 a1 7 = 3 ∨ I6 a1 7 = 1)) → gv_X (gc_E1 ws0 tb 3 (yX1_readQuestion, cX1_readQuestion, 5, (some .boolean)) kX1_readQuestion) (gv_Q cX1_readQuestion (some .boolean) sh (fun r h' => (∃ (I' : gr_I) (J' : gr_J), h' = gc_h sh I' J' A ∧ gc_Inv ro I' ∧ (∀ q j : Nat, ((q = 100 ∧ j = 17) ∨ q = 113 ∨ (q = a1 ∧ j = 5) ∨ (q = a1 ∧ j = 6) ∨ (q = a1 ∧ j = 7) ∨ (q = a1 ∧ j = 8)) ∨ I' q j = I q j) ∧ (∀ q j : Nat, ((q = a1 ∧ j = 9)) ∨ J' q j = J q j) ∧ (∃ z : Int, r = some (.inl z) ∧ 0 ≤ z ∧ z ≤ 1 ∧ (gc_QU I') ∧ (z = 0 ∨ 1 ≤ I' 100 17))))) (78, [(0, .inr (.inr (some 100))), (1, .inr (.inr (some a1))), (2, .inl v2_8), (3, .inl v3_20)], [.inl s0_20], sh, gc_h sh I6 J7 A) := by
          intro v3_20 s0_20 m_20
          obtain ⟨hv2_8_20, hv3_20, hs0_20, e0_20, e1_20⟩ := m_20
          have f21 := (show 0 ≤ I6 a1 1 ∧ I6 a1 1 ≤ 1000 from gc_in hI6 R_a1 rfl rfl)
          have f22 := (show 0 ≤ I6 a1 5 ∧ I6 a1 5 ≤ 1000 from gc_in hI6 R_a1 rfl rfl)
          have f23 := (show 0 ≤ I6 a1 6 ∧ I6 a1 6 ≤ 1001 from gc_in hI6 R_a1 rfl rfl)
          have f24 := (show 0 ≤ I6 a1 7 ∧ I6 a1 7 ≤ 125 from gc_in hI6 R_a1 rfl rfl)
          have f25 := (show 0 ≤ I6 100 17 ∧ I6 100 17 ≤ 8 from gc_in hI6 R_100 rfl rfl)
          have L94 : gv_X (gc_E1 ws0 tb 3 (yX1_readQuestion, cX1_readQuestion, 5, (some .boolean)) kX1_readQuestion) (gv_Q cX1_readQuestion (some .boolean) sh (fun r h' => (∃ (I' : gr_I) (J' : gr_J), h' = gc_h sh I' J' A ∧ gc_Inv ro I' ∧ (∀ q j : Nat, ((q = 100 ∧ j = 17) ∨ q = 113 ∨ (q = a1 ∧ j = 5) ∨ (q = a1 ∧ j = 6) ∨ (q = a1 ∧ j = 7) ∨ (q = a1 ∧ j = 8)) ∨ I' q j = I q j) ∧ (∀ q j : Nat, ((q = a1 ∧ j = 9)) ∨ J' q j = J q j) ∧ (∃ z : Int, r = some (.inl z) ∧ 0 ≤ z ∧ z ≤ 1 ∧ (gc_QU I') ∧ (z = 0 ∨ 1 ≤ I' 100 17))))) (94, [], [], sh, gc_h sh I6 J7 A) := by
            have f27 := (show 0 ≤ I6 a1 1 ∧ I6 a1 1 ≤ 1000 from gc_in hI6 R_a1 rfl rfl)
            have f28 := (show 0 ≤ I6 a1 5 ∧ I6 a1 5 ≤ 1000 from gc_in hI6 R_a1 rfl rfl)
            have f29 := (show 0 ≤ I6 a1 6 ∧ I6 a1 6 ≤ 1001 from gc_in hI6 R_a1 rfl rfl)
            have f30 := (show 0 ≤ I6 a1 7 ∧ I6 a1 7 ≤ 125 from gc_in hI6 R_a1 rfl rfl)
            have f31 := (show 0 ≤ I6 100 17 ∧ I6 100 17 ≤ 8 from gc_in hI6 R_100 rfl rfl)
            refine gv_run 1 true hD (pc' := 95) (lv' := []) (st' := [.inl 0]) (h' := gc_h sh I6 J7 A) (C := (True ∧ True)) rfl ⟨trivial, trivial⟩ ?_
            exact gv_zret hD rfl (by exact gz_m 2 (by omega)) ⟨I6, J7, rfl, hI6, FI6, FJ7, ⟨_, rfl, by exact gz_m 3 (by omega), by exact gz_m 4 (by omega), e0_8, by exact gz_m 5 (by omega)⟩⟩
          refine gv_run 2 true hD (pc' := 82) (lv' := [(4, .inl s0_20), (0, .inr (.inr (some 100))), (1, .inr (.inr (some a1))), (2, .inl v2_8), (3, .inl v3_20)]) (st' := [.inl s0_20]) (h' := gc_h sh I6 J7 A) (C := ((True ∧ True) ∧ True)) rfl ⟨⟨trivial, trivial⟩, trivial⟩ ?_
          refine gv_if_eq (t := 94) hD rfl rfl ⟨by exact gz_m 6 (by omega), by exact gz_m 7 (by omega)⟩ (fun c32 => ?_) (fun c32 => ?_)
          · show gv_X _ _ (94, [(4, .inl s0_20), (0, .inr (.inr (some 100))), (1, .inr (.inr (some a1))), (2, .inl v2_8), (3, .inl v3_20)], [], sh, gc_h sh I6 J7 A)
            refine gv_pick [] rfl ?_
            exact L94 
          · show gv_X _ _ (85, [(4, .inl s0_20), (0, .inr (.inr (some 100))), (1, .inr (.inr (some a1))), (2, .inl v2_8), (3, .inl v3_20)], [], sh, gc_h sh I6 J7 A)
            refine gv_run 1 true hD (pc' := 86) (lv' := [(4, .inl s0_20), (0, .inr (.inr (some 100))), (1, .inr (.inr (some a1))), (2, .inl v2_8), (3, .inl v3_20)]) (st' := [.inr (.inr (some 100))]) (h' := gc_h sh I6 J7 A) (C := (True ∧ True)) rfl ⟨trivial, trivial⟩ ?_
            have f33 := (show 0 ≤ I6 100 17 ∧ I6 100 17 ≤ 8 from gc_in hI6 R_100 rfl rfl)
            refine gv_get hD rfl rfl S_100 ⟨by decide, B_100⟩ (gc_hI S_100 rfl) ?_
            show gv_X _ _ (89, [(4, .inl s0_20), (0, .inr (.inr (some 100))), (1, .inr (.inr (some a1))), (2, .inl v2_8), (3, .inl v3_20)], [.inl (I6 100 17)], sh, gc_h sh I6 J7 A)
            refine gv_run 1 true hD (pc' := 91) (lv' := [(4, .inl s0_20), (0, .inr (.inr (some 100))), (1, .inr (.inr (some a1))), (2, .inl v2_8), (3, .inl v3_20)]) (st' := [.inl 8, .inl (I6 100 17)]) (h' := gc_h sh I6 J7 A) (C := (True ∧ True)) rfl ⟨trivial, trivial⟩ ?_
            refine gv_icmp_ne (t := 96) hD rfl rfl ⟨⟨by exact gz_m 8 (by omega), by exact gz_m 9 (by omega)⟩, ⟨by exact gz_m 10 (by omega), by exact gz_m 11 (by omega)⟩⟩ (fun c34 => ?_) (fun c34 => ?_)
            · show gv_X _ _ (96, [(4, .inl s0_20), (0, .inr (.inr (some 100))), (1, .inr (.inr (some a1))), (2, .inl v2_8), (3, .inl v3_20)], [], sh, gc_h sh I6 J7 A)
              refine gv_run 1 true hD (pc' := 97) (lv' := [(4, .inl s0_20), (0, .inr (.inr (some 100))), (1, .inr (.inr (some a1))), (2, .inl v2_8), (3, .inl v3_20)]) (st' := [.inr (.inr (some 100))]) (h' := gc_h sh I6 J7 A) (C := (True ∧ True)) rfl ⟨trivial, trivial⟩ ?_
              refine gv_get hD rfl rfl S_100 ⟨by decide, B_100⟩ (gc_hA S_100 rfl A_100_18) ?_
              show gv_X _ _ (100, [(4, .inl s0_20), (0, .inr (.inr (some 100))), (1, .inr (.inr (some a1))), (2, .inl v2_8), (3, .inl v3_20)], [.inr (.inr (some 113))], sh, gc_h sh I6 J7 A)
              refine gv_run 2 true hD (pc' := 102) (lv' := [(4, .inl s0_20), (0, .inr (.inr (some 100))), (1, .inr (.inr (some a1))), (2, .inl v2_8), (3, .inl v3_20)]) (st' := [.inr (.inr (some 100)), .inl 3, .inr (.inr (some 113))]) (h' := gc_h sh I6 J7 A) (C := ((True ∧ True) ∧ True)) rfl ⟨⟨trivial, trivial⟩, trivial⟩ ?_
              have f35 := (show 0 ≤ I6 100 17 ∧ I6 100 17 ≤ 8 from gc_in hI6 R_100 rfl rfl)
              refine gv_get hD rfl rfl S_100 ⟨by decide, B_100⟩ (gc_hI S_100 rfl) ?_
              show gv_X _ _ (105, [(4, .inl s0_20), (0, .inr (.inr (some 100))), (1, .inr (.inr (some a1))), (2, .inl v2_8), (3, .inl v3_20)], [.inl (I6 100 17), .inl 3, .inr (.inr (some 113))], sh, gc_h sh I6 J7 A)
              refine gv_run 2 true hD (pc' := 107) (lv' := [(4, .inl s0_20), (0, .inr (.inr (some 100))), (1, .inr (.inr (some a1))), (2, .inl v2_8), (3, .inl v3_20)]) (st' := [.inr (.inr (some a1)), .inl (3 * (I6 100 17)), .inr (.inr (some 113))]) (h' := gc_h sh I6 J7 A) (C := ((True ∧ True) ∧ True)) rfl ⟨⟨trivial, trivial⟩, trivial⟩ ?_
              have f36 := (show 0 ≤ I6 a1 7 ∧ I6 a1 7 ≤ 125 from gc_in hI6 R_a1 rfl rfl)
              refine gv_get hD rfl rfl S_a1 ⟨by decide, B_a1⟩ (gc_hI S_a1 rfl) ?_
              show gv_X _ _ (110, [(4, .inl s0_20), (0, .inr (.inr (some 100))), (1, .inr (.inr (some a1))), (2, .inl v2_8), (3, .inl v3_20)], [.inl (I6 a1 7), .inl (3 * (I6 100 17)), .inr (.inr (some 113))], sh, gc_h sh I6 J7 A)
              refine gv_iast hD rfl S_113 ⟨by decide, B_113⟩ ⟨by exact gz_m 12 (by omega), by exact gz_m 13 (by omega)⟩ ?_
              refine gc_st hI6 S_113 rfl R_113 (lo := 0) (hi := 125) (gc_lom (c := 0) rfl (by exact gz_m 14 (by omega)) rfl) (gc_him (c := 0) rfl (by exact gz_m 15 (by omega)) rfl) (by exact gz_m 16 (by omega)) (by exact gz_m 17 (by omega)) (fun I37 hI37 q38 p38 => ?_)
              have FI37 := gc_frs (W := fun q j => (q = 100 ∧ j = 17) ∨ q = 113 ∨ (q = a1 ∧ j = 5) ∨ (q = a1 ∧ j = 6) ∨ (q = a1 ∧ j = 7) ∨ (q = a1 ∧ j = 8)) FI6 (Or.inr (Or.inl rfl)) p38
              have t39 := p38 a1 1 (fun h => absurd h.1 N_a1__113)
              have t40 := p38 a1 5 (fun h => absurd h.1 N_a1__113)
              have t41 := p38 a1 6 (fun h => absurd h.1 N_a1__113)
              have t42 := p38 a1 7 (fun h => absurd h.1 N_a1__113)
              have t43 := p38 100 17 (fun h => absurd h.1 (by decide))
              show gv_X _ _ (111, [(4, .inl s0_20), (0, .inr (.inr (some 100))), (1, .inr (.inr (some a1))), (2, .inl v2_8), (3, .inl v3_20)], [], sh, gc_h sh I37 J7 A)
              refine gv_run 1 true hD (pc' := 112) (lv' := [(4, .inl s0_20), (0, .inr (.inr (some 100))), (1, .inr (.inr (some a1))), (2, .inl v2_8), (3, .inl v3_20)]) (st' := [.inr (.inr (some 100))]) (h' := gc_h sh I37 J7 A) (C := (True ∧ True)) rfl ⟨trivial, trivial⟩ ?_
              refine gv_get hD rfl rfl S_100 ⟨by decide, B_100⟩ (gc_hA S_100 rfl A_100_18) ?_
              show gv_X _ _ (115, [(4, .inl s0_20), (0, .inr (.inr (some 100))), (1, .inr (.inr (some a1))), (2, .inl v2_8), (3, .inl v3_20)], [.inr (.inr (some 113))], sh, gc_h sh I37 J7 A)
              refine gv_run 2 true hD (pc' := 117) (lv' := [(4, .inl s0_20), (0, .inr (.inr (some 100))), (1, .inr (.inr (some a1))), (2, .inl v2_8), (3, .inl v3_20)]) (st' := [.inr (.inr (some 100)), .inl 3, .inr (.inr (some 113))]) (h' := gc_h sh I37 J7 A) (C := ((True ∧ True) ∧ True)) rfl ⟨⟨trivial, trivial⟩, trivial⟩ ?_
              have f44 := (show 0 ≤ I37 100 17 ∧ I37 100 17 ≤ 8 from gc_in hI37 R_100 rfl rfl)
              refine gv_get hD rfl rfl S_100 ⟨by decide, B_100⟩ (gc_hI S_100 rfl) ?_
              show gv_X _ _ (120, [(4, .inl s0_20), (0, .inr (.inr (some 100))), (1, .inr (.inr (some a1))), (2, .inl v2_8), (3, .inl v3_20)], [.inl (I37 100 17), .inl 3, .inr (.inr (some 113))], sh, gc_h sh I37 J7 A)
              refine gv_run 4 true hD (pc' := 124) (lv' := [(4, .inl s0_20), (0, .inr (.inr (some 100))), (1, .inr (.inr (some a1))), (2, .inl v2_8), (3, .inl v3_20)]) (st' := [.inl v3_20, .inl ((3 * (I37 100 17)) + 1), .inr (.inr (some 113))]) (h' := gc_h sh I37 J7 A) (C := ((((True ∧ True) ∧ True) ∧ True) ∧ True)) rfl ⟨⟨⟨⟨trivial, trivial⟩, trivial⟩, trivial⟩, trivial⟩ ?_
              refine gv_if_lt (t := 131) hD rfl rfl ⟨by exact gz_m 18 (by omega), by exact gz_m 19 (by omega)⟩ (fun c45 => ?_) (fun c45 => ?_)
              · show gv_X _ _ (131, [(4, .inl s0_20), (0, .inr (.inr (some 100))), (1, .inr (.inr (some a1))), (2, .inl v2_8), (3, .inl v3_20)], [.inl ((3 * (I37 100 17)) + 1), .inr (.inr (some 113))], sh, gc_h sh I37 J7 A)
                refine gv_run 1 true hD (pc' := 132) (lv' := [(4, .inl s0_20), (0, .inr (.inr (some 100))), (1, .inr (.inr (some a1))), (2, .inl v2_8), (3, .inl v3_20)]) (st' := [.inr (.inr (some a1)), .inl ((3 * (I37 100 17)) + 1), .inr (.inr (some 113))]) (h' := gc_h sh I37 J7 A) (C := (True ∧ True)) rfl ⟨trivial, trivial⟩ ?_
                have f46 := (show 0 ≤ I37 a1 5 ∧ I37 a1 5 ≤ 1000 from gc_in hI37 R_a1 rfl rfl)
                refine gv_get hD rfl rfl S_a1 ⟨by decide, B_a1⟩ (gc_hI S_a1 rfl) ?_
                show gv_X _ _ (135, [(4, .inl s0_20), (0, .inr (.inr (some 100))), (1, .inr (.inr (some a1))), (2, .inl v2_8), (3, .inl v3_20)], [.inl (I37 a1 5), .inl ((3 * (I37 100 17)) + 1), .inr (.inr (some 113))], sh, gc_h sh I37 J7 A)
                refine gv_run 2 true hD (pc' := 137) (lv' := [(4, .inl s0_20), (0, .inr (.inr (some 100))), (1, .inr (.inr (some a1))), (2, .inl v2_8), (3, .inl v3_20)]) (st' := [.inl ((I37 a1 5) + 1), .inl ((3 * (I37 100 17)) + 1), .inr (.inr (some 113))]) (h' := gc_h sh I37 J7 A) (C := ((True ∧ True) ∧ True)) rfl ⟨⟨trivial, trivial⟩, trivial⟩ ?_
                refine gv_iast hD rfl S_113 ⟨by decide, B_113⟩ ⟨by exact gz_m 20 (by omega), by exact gz_m 21 (by omega)⟩ ?_
                refine gc_st hI37 S_113 rfl R_113 (lo := 0) (hi := 1001) (gc_lom (c := 1) rfl (by exact gz_m 22 (by omega)) rfl) (gc_him (c := 1) rfl (by exact gz_m 23 (by omega)) rfl) (by exact gz_m 24 (by omega)) (by exact gz_m 25 (by omega)) (fun I47 hI47 q48 p48 => ?_)
                have FI47 := gc_frs (W := fun q j => (q = 100 ∧ j = 17) ∨ q = 113 ∨ (q = a1 ∧ j = 5) ∨ (q = a1 ∧ j = 6) ∨ (q = a1 ∧ j = 7) ∨ (q = a1 ∧ j = 8)) FI37 (Or.inr (Or.inl rfl)) p48
                have t49 := p48 a1 1 (fun h => absurd h.1 N_a1__113)
                have t50 := p48 a1 5 (fun h => absurd h.1 N_a1__113)
                have t51 := p48 a1 6 (fun h => absurd h.1 N_a1__113)
                have t52 := p48 a1 7 (fun h => absurd h.1 N_a1__113)
                have t53 := p48 100 17 (fun h => absurd h.1 (by decide))
                show gv_X _ _ (138, [(4, .inl s0_20), (0, .inr (.inr (some 100))), (1, .inr (.inr (some a1))), (2, .inl v2_8), (3, .inl v3_20)], [], sh, gc_h sh I47 J7 A)
                refine gv_run 1 true hD (pc' := 139) (lv' := [(4, .inl s0_20), (0, .inr (.inr (some 100))), (1, .inr (.inr (some a1))), (2, .inl v2_8), (3, .inl v3_20)]) (st' := [.inr (.inr (some 100))]) (h' := gc_h sh I47 J7 A) (C := (True ∧ True)) rfl ⟨trivial, trivial⟩ ?_
                refine gv_get hD rfl rfl S_100 ⟨by decide, B_100⟩ (gc_hA S_100 rfl A_100_18) ?_
                show gv_X _ _ (142, [(4, .inl s0_20), (0, .inr (.inr (some 100))), (1, .inr (.inr (some a1))), (2, .inl v2_8), (3, .inl v3_20)], [.inr (.inr (some 113))], sh, gc_h sh I47 J7 A)
                refine gv_run 2 true hD (pc' := 144) (lv' := [(4, .inl s0_20), (0, .inr (.inr (some 100))), (1, .inr (.inr (some a1))), (2, .inl v2_8), (3, .inl v3_20)]) (st' := [.inr (.inr (some 100)), .inl 3, .inr (.inr (some 113))]) (h' := gc_h sh I47 J7 A) (C := ((True ∧ True) ∧ True)) rfl ⟨⟨trivial, trivial⟩, trivial⟩ ?_
                have f54 := (show 0 ≤ I47 100 17 ∧ I47 100 17 ≤ 8 from gc_in hI47 R_100 rfl rfl)
                refine gv_get hD rfl rfl S_100 ⟨by decide, B_100⟩ (gc_hI S_100 rfl) ?_
                show gv_X _ _ (147, [(4, .inl s0_20), (0, .inr (.inr (some 100))), (1, .inr (.inr (some a1))), (2, .inl v2_8), (3, .inl v3_20)], [.inl (I47 100 17), .inl 3, .inr (.inr (some 113))], sh, gc_h sh I47 J7 A)
                refine gv_run 4 true hD (pc' := 151) (lv' := [(4, .inl s0_20), (0, .inr (.inr (some 100))), (1, .inr (.inr (some a1))), (2, .inl v2_8), (3, .inl v3_20)]) (st' := [.inr (.inr (some a1)), .inl ((3 * (I47 100 17)) + 2), .inr (.inr (some 113))]) (h' := gc_h sh I47 J7 A) (C := ((((True ∧ True) ∧ True) ∧ True) ∧ True)) rfl ⟨⟨⟨⟨trivial, trivial⟩, trivial⟩, trivial⟩, trivial⟩ ?_
                obtain ⟨r55, h55, E55, P55⟩ := d_X9_lettersSize (ws0 := ws0) (tb := tb) hws htb sh ro I47 J7 A hI47 a1  h_a1     
                obtain ⟨rfl, ⟨z55, rfl, q55⟩⟩ := P55
                refine gv_callV hD rfl (As := []) (st := [.inl ((3 * (I47 100 17)) + 2), .inr (.inr (some 113))]) rfl B_a1 S_a1 rfl (gc_lV1 hws rfl) (Nat.le_of_ble_eq_true rfl) (gz_Ev_mono (d := 1) (by decide) E55) ?_
                show gv_X _ _ (154, [(4, .inl s0_20), (0, .inr (.inr (some 100))), (1, .inr (.inr (some a1))), (2, .inl v2_8), (3, .inl v3_20)], [.inl z55, .inl ((3 * (I47 100 17)) + 2), .inr (.inr (some 113))], sh, gc_h sh I47 J7 A)
                refine gv_iast hD rfl S_113 ⟨by decide, B_113⟩ ⟨by exact gz_m 26 (by omega), by exact gz_m 27 (by omega)⟩ ?_
                refine gc_st hI47 S_113 rfl R_113 (lo := (-2147483648)) (hi := 2147483647) (gc_lom (c := 2) rfl (by exact gz_m 28 (by omega)) rfl) (gc_him (c := 2) rfl (by exact gz_m 29 (by omega)) rfl) (by exact gz_m 30 (by omega)) (by exact gz_m 31 (by omega)) (fun I56 hI56 q57 p57 => ?_)
                have FI56 := gc_frs (W := fun q j => (q = 100 ∧ j = 17) ∨ q = 113 ∨ (q = a1 ∧ j = 5) ∨ (q = a1 ∧ j = 6) ∨ (q = a1 ∧ j = 7) ∨ (q = a1 ∧ j = 8)) FI47 (Or.inr (Or.inl rfl)) p57
                have t58 := p57 a1 1 (fun h => absurd h.1 N_a1__113)
                have t59 := p57 a1 5 (fun h => absurd h.1 N_a1__113)
                have t60 := p57 a1 6 (fun h => absurd h.1 N_a1__113)
                have t61 := p57 a1 7 (fun h => absurd h.1 N_a1__113)
                have t62 := p57 100 17 (fun h => absurd h.1 (by decide))
                show gv_X _ _ (155, [(4, .inl s0_20), (0, .inr (.inr (some 100))), (1, .inr (.inr (some a1))), (2, .inl v2_8), (3, .inl v3_20)], [], sh, gc_h sh I56 J7 A)
                refine gv_run 2 true hD (pc' := 157) (lv' := [(4, .inl s0_20), (0, .inr (.inr (some 100))), (1, .inr (.inr (some a1))), (2, .inl v2_8), (3, .inl v3_20)]) (st' := [.inr (.inr (some 100)), .inr (.inr (some 100))]) (h' := gc_h sh I56 J7 A) (C := ((True ∧ True) ∧ True)) rfl ⟨⟨trivial, trivial⟩, trivial⟩ ?_
                have f63 := (show 0 ≤ I56 100 17 ∧ I56 100 17 ≤ 8 from gc_in hI56 R_100 rfl rfl)
                refine gv_get hD rfl rfl S_100 ⟨by decide, B_100⟩ (gc_hI S_100 rfl) ?_
                show gv_X _ _ (160, [(4, .inl s0_20), (0, .inr (.inr (some 100))), (1, .inr (.inr (some a1))), (2, .inl v2_8), (3, .inl v3_20)], [.inl (I56 100 17), .inr (.inr (some 100))], sh, gc_h sh I56 J7 A)
                refine gv_run 2 true hD (pc' := 162) (lv' := [(4, .inl s0_20), (0, .inr (.inr (some 100))), (1, .inr (.inr (some a1))), (2, .inl v2_8), (3, .inl v3_20)]) (st' := [.inl ((I56 100 17) + 1), .inr (.inr (some 100))]) (h' := gc_h sh I56 J7 A) (C := ((True ∧ True) ∧ True)) rfl ⟨⟨trivial, trivial⟩, trivial⟩ ?_
                refine gv_put hD rfl rfl S_100 ⟨by decide, B_100⟩ rfl trivial ?_
                refine gc_st (k := 17) hI56 S_100 rfl R_100 (lo := 0) (hi := 8) rfl rfl (by exact gz_m 32 (by omega)) (by exact gz_m 33 (by omega)) (fun I64 hI64 q65 p65 => ?_)
                have FI64 := gc_frs (W := fun q j => (q = 100 ∧ j = 17) ∨ q = 113 ∨ (q = a1 ∧ j = 5) ∨ (q = a1 ∧ j = 6) ∨ (q = a1 ∧ j = 7) ∨ (q = a1 ∧ j = 8)) FI56 (Or.inl ⟨rfl, rfl⟩) p65
                have t66 := p65 a1 1 (fun h => absurd h.2 (by decide))
                have t67 := p65 a1 5 (fun h => absurd h.2 (by decide))
                have t68 := p65 a1 6 (fun h => absurd h.2 (by decide))
                have t69 := p65 a1 7 (fun h => absurd h.2 (by decide))
                have f70 := (show 0 ≤ I64 100 17 ∧ I64 100 17 ≤ 8 from gc_in hI64 R_100 rfl rfl)
                show gv_X _ _ (165, [(4, .inl s0_20), (0, .inr (.inr (some 100))), (1, .inr (.inr (some a1))), (2, .inl v2_8), (3, .inl v3_20)], [], sh, gc_h sh I64 J7 A)
                refine gv_run 1 true hD (pc' := 166) (lv' := [(4, .inl s0_20), (0, .inr (.inr (some 100))), (1, .inr (.inr (some a1))), (2, .inl v2_8), (3, .inl v3_20)]) (st' := [.inr (.inr (some a1))]) (h' := gc_h sh I64 J7 A) (C := (True ∧ True)) rfl ⟨trivial, trivial⟩ ?_
                obtain ⟨r71, h71, E71, P71⟩ := d_X9_advance (ws0 := ws0) (tb := tb) hws htb sh ro I64 J7 A hI64 a1  h_a1    (by exact gz_m 34 (by omega)) 
                obtain ⟨I72, J73, rfl, hI72, g71, k71, ⟨rfl, V71_0, V71_1, V71_2, V71_3, V71_4, q71⟩⟩ := P71
                have FI72 := gc_frc (W := fun q j => (q = 100 ∧ j = 17) ∨ q = 113 ∨ (q = a1 ∧ j = 5) ∨ (q = a1 ∧ j = 6) ∨ (q = a1 ∧ j = 7) ∨ (q = a1 ∧ j = 8)) (V := fun q j => (q = a1 ∧ j = 5) ∨ (q = a1 ∧ j = 6) ∨ (q = a1 ∧ j = 7) ∨ (q = a1 ∧ j = 8)) FI64 (fun q j h => (h.elim (fun h => (Or.inr (Or.inr (Or.inl h)))) (fun h => (h.elim (fun h => (Or.inr (Or.inr (Or.inr (Or.inl h))))) (fun h => (h.elim (fun h => (Or.inr (Or.inr (Or.inr (Or.inr (Or.inl h)))))) (fun h => (Or.inr (Or.inr (Or.inr (Or.inr (Or.inr h)))))))))))) g71
                have FJ73 := gc_frc (W := fun q j => (q = a1 ∧ j = 9)) (V := fun q j => (q = a1 ∧ j = 9)) FJ7 (fun q j h => h) k71
                have t74 := (g71 a1 1).resolve_left (fun h => h.elim (fun h => absurd h.2 (by decide)) (fun h => h.elim (fun h => absurd h.2 (by decide)) (fun h => h.elim (fun h => absurd h.2 (by decide)) (fun h => absurd h.2 (by decide)))))
                have t75 := (g71 100 17).resolve_left (fun h => h.elim (fun h => absurd h.2 (by decide)) (fun h => h.elim (fun h => absurd h.2 (by decide)) (fun h => h.elim (fun h => absurd h.2 (by decide)) (fun h => absurd h.2 (by decide)))))
                have f76 := (show 0 ≤ I72 a1 5 ∧ I72 a1 5 ≤ 1000 from gc_in hI72 R_a1 rfl rfl)
                have f77 := (show 0 ≤ I72 a1 6 ∧ I72 a1 6 ≤ 1001 from gc_in hI72 R_a1 rfl rfl)
                have f78 := (show 0 ≤ I72 a1 7 ∧ I72 a1 7 ≤ 125 from gc_in hI72 R_a1 rfl rfl)
                refine gv_callV hD rfl (As := []) (st := []) rfl B_a1 S_a1 rfl (gc_lV1 hws rfl) (Nat.le_of_ble_eq_true rfl) (gz_Ev_mono (d := 2) (by decide) E71) ?_
                show gv_X _ _ (169, [(4, .inl s0_20), (0, .inr (.inr (some 100))), (1, .inr (.inr (some a1))), (2, .inl v2_8), (3, .inl v3_20)], [], sh, gc_h sh I72 J73 A)
                refine gv_run 2 true hD (pc' := 11) (lv' := [(2, .inl (v2_8 + 1)), (4, .inl s0_20), (0, .inr (.inr (some 100))), (1, .inr (.inr (some a1))), (3, .inl v3_20)]) (st' := []) (h' := gc_h sh I72 J73 A) (C := ((True ∧ True) ∧ True)) rfl ⟨⟨trivial, trivial⟩, trivial⟩ ?_
                refine gv_pick [2, 3, 0] rfl ?_
                exact ih11 I72 J73 (v2_8 + 1) (by exact gz_m 35 (by omega)) hI72 FI72 FJ73 (by exact gz_m 36 (by omega)) (gc_QU_push (m := (I6 100 17)) e0_8 rfl (by exact gz_m 37 (by omega)) (by exact gz_m 38 (by omega)) (fun k hk => ((((((g71 113 k).resolve_left (by exact gz_m 39 (by omega))).trans (p65 113 k (fun h => absurd h.1 (by exact gz_m 40 (by omega))))).trans (p57 113 k (fun h => by have := h.2; exact gz_m 41 (by omega)))).trans (p48 113 k (fun h => by have := h.2; exact gz_m 42 (by omega)))).trans (p38 113 k (fun h => by have := h.2; exact gz_m 43 (by omega))))) (fun hz => by have a09 := ((((((g71 113 (Int.toNat ((3 * (I6 100 17))))).resolve_left (by exact gz_m 44 (by omega))).trans (p65 113 (Int.toNat ((3 * (I6 100 17)))) (fun h => absurd h.1 (by exact gz_m 45 (by omega))))).trans (p57 113 (Int.toNat ((3 * (I6 100 17)))) (fun h => by have := h.2; exact gz_m 46 (by omega)))).trans (p48 113 (Int.toNat ((3 * (I6 100 17)))) (fun h => by have := h.2; exact gz_m 47 (by omega))))).trans q38; rw [show (Int.toNat ((3 * (I6 100 17)))) = (Int.toNat (3 * (I6 100 17))) from by exact gz_m 48 (by omega)] at a09; have a19 := (((((g71 113 (Int.toNat (((3 * (I37 100 17)) + 1)))).resolve_left (by exact gz_m 49 (by omega))).trans (p65 113 (Int.toNat (((3 * (I37 100 17)) + 1))) (fun h => absurd h.1 (by exact gz_m 50 (by omega))))).trans (p57 113 (Int.toNat (((3 * (I37 100 17)) + 1))) (fun h => by have := h.2; exact gz_m 51 (by omega))))).trans q48; rw [show (Int.toNat (((3 * (I37 100 17)) + 1))) = (Int.toNat ((3 * (I6 100 17)) + 1)) from by exact gz_m 52 (by omega)] at a19; have a29 := ((((g71 113 (Int.toNat (((3 * (I47 100 17)) + 2)))).resolve_left (by exact gz_m 53 (by omega))).trans (p65 113 (Int.toNat (((3 * (I47 100 17)) + 2))) (fun h => absurd h.1 (by exact gz_m 54 (by omega)))))).trans q57; rw [show (Int.toNat (((3 * (I47 100 17)) + 2))) = (Int.toNat ((3 * (I6 100 17)) + 2)) from by exact gz_m 55 (by omega)] at a29; exact gz_m 56 (by omega)))
              · show gv_X _ _ (127, [(4, .inl s0_20), (0, .inr (.inr (some 100))), (1, .inr (.inr (some a1))), (2, .inl v2_8), (3, .inl v3_20)], [.inl ((3 * (I37 100 17)) + 1), .inr (.inr (some 113))], sh, gc_h sh I37 J7 A)
                refine gv_run 2 true hD (pc' := 137) (lv' := [(4, .inl s0_20), (0, .inr (.inr (some 100))), (1, .inr (.inr (some a1))), (2, .inl v2_8), (3, .inl v3_20)]) (st' := [.inl v3_20, .inl ((3 * (I37 100 17)) + 1), .inr (.inr (some 113))]) (h' := gc_h sh I37 J7 A) (C := ((True ∧ True) ∧ True)) rfl ⟨⟨trivial, trivial⟩, trivial⟩ ?_
                refine gv_iast hD rfl S_113 ⟨by decide, B_113⟩ ⟨by exact gz_m 57 (by omega), by exact gz_m 58 (by omega)⟩ ?_
                refine gc_st hI37 S_113 rfl R_113 (lo := 0) (hi := 1001) (gc_lom (c := 1) rfl (by exact gz_m 59 (by omega)) rfl) (gc_him (c := 1) rfl (by exact gz_m 60 (by omega)) rfl) (by exact gz_m 61 (by omega)) (by exact gz_m 62 (by omega)) (fun I79 hI79 q80 p80 => ?_)
                have FI79 := gc_frs (W := fun q j => (q = 100 ∧ j = 17) ∨ q = 113 ∨ (q = a1 ∧ j = 5) ∨ (q = a1 ∧ j = 6) ∨ (q = a1 ∧ j = 7) ∨ (q = a1 ∧ j = 8)) FI37 (Or.inr (Or.inl rfl)) p80
                have t81 := p80 a1 1 (fun h => absurd h.1 N_a1__113)
                have t82 := p80 a1 5 (fun h => absurd h.1 N_a1__113)
                have t83 := p80 a1 6 (fun h => absurd h.1 N_a1__113)
                have t84 := p80 a1 7 (fun h => absurd h.1 N_a1__113)
                have t85 := p80 100 17 (fun h => absurd h.1 (by decide))
                show gv_X _ _ (138, [(4, .inl s0_20), (0, .inr (.inr (some 100))), (1, .inr (.inr (some a1))), (2, .inl v2_8), (3, .inl v3_20)], [], sh, gc_h sh I79 J7 A)
                refine gv_run 1 true hD (pc' := 139) (lv' := [(4, .inl s0_20), (0, .inr (.inr (some 100))), (1, .inr (.inr (some a1))), (2, .inl v2_8), (3, .inl v3_20)]) (st' := [.inr (.inr (some 100))]) (h' := gc_h sh I79 J7 A) (C := (True ∧ True)) rfl ⟨trivial, trivial⟩ ?_
                refine gv_get hD rfl rfl S_100 ⟨by decide, B_100⟩ (gc_hA S_100 rfl A_100_18) ?_
                show gv_X _ _ (142, [(4, .inl s0_20), (0, .inr (.inr (some 100))), (1, .inr (.inr (some a1))), (2, .inl v2_8), (3, .inl v3_20)], [.inr (.inr (some 113))], sh, gc_h sh I79 J7 A)
                refine gv_run 2 true hD (pc' := 144) (lv' := [(4, .inl s0_20), (0, .inr (.inr (some 100))), (1, .inr (.inr (some a1))), (2, .inl v2_8), (3, .inl v3_20)]) (st' := [.inr (.inr (some 100)), .inl 3, .inr (.inr (some 113))]) (h' := gc_h sh I79 J7 A) (C := ((True ∧ True) ∧ True)) rfl ⟨⟨trivial, trivial⟩, trivial⟩ ?_
                have f86 := (show 0 ≤ I79 100 17 ∧ I79 100 17 ≤ 8 from gc_in hI79 R_100 rfl rfl)
                refine gv_get hD rfl rfl S_100 ⟨by decide, B_100⟩ (gc_hI S_100 rfl) ?_
                show gv_X _ _ (147, [(4, .inl s0_20), (0, .inr (.inr (some 100))), (1, .inr (.inr (some a1))), (2, .inl v2_8), (3, .inl v3_20)], [.inl (I79 100 17), .inl 3, .inr (.inr (some 113))], sh, gc_h sh I79 J7 A)
                refine gv_run 4 true hD (pc' := 151) (lv' := [(4, .inl s0_20), (0, .inr (.inr (some 100))), (1, .inr (.inr (some a1))), (2, .inl v2_8), (3, .inl v3_20)]) (st' := [.inr (.inr (some a1)), .inl ((3 * (I79 100 17)) + 2), .inr (.inr (some 113))]) (h' := gc_h sh I79 J7 A) (C := ((((True ∧ True) ∧ True) ∧ True) ∧ True)) rfl ⟨⟨⟨⟨trivial, trivial⟩, trivial⟩, trivial⟩, trivial⟩ ?_
                obtain ⟨r87, h87, E87, P87⟩ := d_X9_lettersSize (ws0 := ws0) (tb := tb) hws htb sh ro I79 J7 A hI79 a1  h_a1     
                obtain ⟨rfl, ⟨z87, rfl, q87⟩⟩ := P87
                refine gv_callV hD rfl (As := []) (st := [.inl ((3 * (I79 100 17)) + 2), .inr (.inr (some 113))]) rfl B_a1 S_a1 rfl (gc_lV1 hws rfl) (Nat.le_of_ble_eq_true rfl) (gz_Ev_mono (d := 1) (by decide) E87) ?_
                show gv_X _ _ (154, [(4, .inl s0_20), (0, .inr (.inr (some 100))), (1, .inr (.inr (some a1))), (2, .inl v2_8), (3, .inl v3_20)], [.inl z87, .inl ((3 * (I79 100 17)) + 2), .inr (.inr (some 113))], sh, gc_h sh I79 J7 A)
                refine gv_iast hD rfl S_113 ⟨by decide, B_113⟩ ⟨by exact gz_m 63 (by omega), by exact gz_m 64 (by omega)⟩ ?_
                refine gc_st hI79 S_113 rfl R_113 (lo := (-2147483648)) (hi := 2147483647) (gc_lom (c := 2) rfl (by exact gz_m 65 (by omega)) rfl) (gc_him (c := 2) rfl (by exact gz_m 66 (by omega)) rfl) (by exact gz_m 67 (by omega)) (by exact gz_m 68 (by omega)) (fun I88 hI88 q89 p89 => ?_)
                have FI88 := gc_frs (W := fun q j => (q = 100 ∧ j = 17) ∨ q = 113 ∨ (q = a1 ∧ j = 5) ∨ (q = a1 ∧ j = 6) ∨ (q = a1 ∧ j = 7) ∨ (q = a1 ∧ j = 8)) FI79 (Or.inr (Or.inl rfl)) p89
                have t90 := p89 a1 1 (fun h => absurd h.1 N_a1__113)
                have t91 := p89 a1 5 (fun h => absurd h.1 N_a1__113)
                have t92 := p89 a1 6 (fun h => absurd h.1 N_a1__113)
                have t93 := p89 a1 7 (fun h => absurd h.1 N_a1__113)
                have t94 := p89 100 17 (fun h => absurd h.1 (by decide))
                show gv_X _ _ (155, [(4, .inl s0_20), (0, .inr (.inr (some 100))), (1, .inr (.inr (some a1))), (2, .inl v2_8), (3, .inl v3_20)], [], sh, gc_h sh I88 J7 A)
                refine gv_run 2 true hD (pc' := 157) (lv' := [(4, .inl s0_20), (0, .inr (.inr (some 100))), (1, .inr (.inr (some a1))), (2, .inl v2_8), (3, .inl v3_20)]) (st' := [.inr (.inr (some 100)), .inr (.inr (some 100))]) (h' := gc_h sh I88 J7 A) (C := ((True ∧ True) ∧ True)) rfl ⟨⟨trivial, trivial⟩, trivial⟩ ?_
                have f95 := (show 0 ≤ I88 100 17 ∧ I88 100 17 ≤ 8 from gc_in hI88 R_100 rfl rfl)
                refine gv_get hD rfl rfl S_100 ⟨by decide, B_100⟩ (gc_hI S_100 rfl) ?_
                show gv_X _ _ (160, [(4, .inl s0_20), (0, .inr (.inr (some 100))), (1, .inr (.inr (some a1))), (2, .inl v2_8), (3, .inl v3_20)], [.inl (I88 100 17), .inr (.inr (some 100))], sh, gc_h sh I88 J7 A)
                refine gv_run 2 true hD (pc' := 162) (lv' := [(4, .inl s0_20), (0, .inr (.inr (some 100))), (1, .inr (.inr (some a1))), (2, .inl v2_8), (3, .inl v3_20)]) (st' := [.inl ((I88 100 17) + 1), .inr (.inr (some 100))]) (h' := gc_h sh I88 J7 A) (C := ((True ∧ True) ∧ True)) rfl ⟨⟨trivial, trivial⟩, trivial⟩ ?_
                refine gv_put hD rfl rfl S_100 ⟨by decide, B_100⟩ rfl trivial ?_
                refine gc_st (k := 17) hI88 S_100 rfl R_100 (lo := 0) (hi := 8) rfl rfl (by exact gz_m 69 (by omega)) (by exact gz_m 70 (by omega)) (fun I96 hI96 q97 p97 => ?_)
                have FI96 := gc_frs (W := fun q j => (q = 100 ∧ j = 17) ∨ q = 113 ∨ (q = a1 ∧ j = 5) ∨ (q = a1 ∧ j = 6) ∨ (q = a1 ∧ j = 7) ∨ (q = a1 ∧ j = 8)) FI88 (Or.inl ⟨rfl, rfl⟩) p97
                have t98 := p97 a1 1 (fun h => absurd h.2 (by decide))
                have t99 := p97 a1 5 (fun h => absurd h.2 (by decide))
                have t100 := p97 a1 6 (fun h => absurd h.2 (by decide))
                have t101 := p97 a1 7 (fun h => absurd h.2 (by decide))
                have f102 := (show 0 ≤ I96 100 17 ∧ I96 100 17 ≤ 8 from gc_in hI96 R_100 rfl rfl)
                show gv_X _ _ (165, [(4, .inl s0_20), (0, .inr (.inr (some 100))), (1, .inr (.inr (some a1))), (2, .inl v2_8), (3, .inl v3_20)], [], sh, gc_h sh I96 J7 A)
                refine gv_run 1 true hD (pc' := 166) (lv' := [(4, .inl s0_20), (0, .inr (.inr (some 100))), (1, .inr (.inr (some a1))), (2, .inl v2_8), (3, .inl v3_20)]) (st' := [.inr (.inr (some a1))]) (h' := gc_h sh I96 J7 A) (C := (True ∧ True)) rfl ⟨trivial, trivial⟩ ?_
                obtain ⟨r103, h103, E103, P103⟩ := d_X9_advance (ws0 := ws0) (tb := tb) hws htb sh ro I96 J7 A hI96 a1  h_a1    (by exact gz_m 71 (by omega)) 
                obtain ⟨I104, J105, rfl, hI104, g103, k103, ⟨rfl, V103_0, V103_1, V103_2, V103_3, V103_4, q103⟩⟩ := P103
                have FI104 := gc_frc (W := fun q j => (q = 100 ∧ j = 17) ∨ q = 113 ∨ (q = a1 ∧ j = 5) ∨ (q = a1 ∧ j = 6) ∨ (q = a1 ∧ j = 7) ∨ (q = a1 ∧ j = 8)) (V := fun q j => (q = a1 ∧ j = 5) ∨ (q = a1 ∧ j = 6) ∨ (q = a1 ∧ j = 7) ∨ (q = a1 ∧ j = 8)) FI96 (fun q j h => (h.elim (fun h => (Or.inr (Or.inr (Or.inl h)))) (fun h => (h.elim (fun h => (Or.inr (Or.inr (Or.inr (Or.inl h))))) (fun h => (h.elim (fun h => (Or.inr (Or.inr (Or.inr (Or.inr (Or.inl h)))))) (fun h => (Or.inr (Or.inr (Or.inr (Or.inr (Or.inr h)))))))))))) g103
                have FJ105 := gc_frc (W := fun q j => (q = a1 ∧ j = 9)) (V := fun q j => (q = a1 ∧ j = 9)) FJ7 (fun q j h => h) k103
                have t106 := (g103 a1 1).resolve_left (fun h => h.elim (fun h => absurd h.2 (by decide)) (fun h => h.elim (fun h => absurd h.2 (by decide)) (fun h => h.elim (fun h => absurd h.2 (by decide)) (fun h => absurd h.2 (by decide)))))
                have t107 := (g103 100 17).resolve_left (fun h => h.elim (fun h => absurd h.2 (by decide)) (fun h => h.elim (fun h => absurd h.2 (by decide)) (fun h => h.elim (fun h => absurd h.2 (by decide)) (fun h => absurd h.2 (by decide)))))
                have f108 := (show 0 ≤ I104 a1 5 ∧ I104 a1 5 ≤ 1000 from gc_in hI104 R_a1 rfl rfl)
                have f109 := (show 0 ≤ I104 a1 6 ∧ I104 a1 6 ≤ 1001 from gc_in hI104 R_a1 rfl rfl)
                have f110 := (show 0 ≤ I104 a1 7 ∧ I104 a1 7 ≤ 125 from gc_in hI104 R_a1 rfl rfl)
                refine gv_callV hD rfl (As := []) (st := []) rfl B_a1 S_a1 rfl (gc_lV1 hws rfl) (Nat.le_of_ble_eq_true rfl) (gz_Ev_mono (d := 2) (by decide) E103) ?_
                show gv_X _ _ (169, [(4, .inl s0_20), (0, .inr (.inr (some 100))), (1, .inr (.inr (some a1))), (2, .inl v2_8), (3, .inl v3_20)], [], sh, gc_h sh I104 J105 A)
                refine gv_run 2 true hD (pc' := 11) (lv' := [(2, .inl (v2_8 + 1)), (4, .inl s0_20), (0, .inr (.inr (some 100))), (1, .inr (.inr (some a1))), (3, .inl v3_20)]) (st' := []) (h' := gc_h sh I104 J105 A) (C := ((True ∧ True) ∧ True)) rfl ⟨⟨trivial, trivial⟩, trivial⟩ ?_
                refine gv_pick [2, 3, 0] rfl ?_
                exact ih11 I104 J105 (v2_8 + 1) (by exact gz_m 72 (by omega)) hI104 FI104 FJ105 (by exact gz_m 73 (by omega)) (gc_QU_push (m := (I6 100 17)) e0_8 rfl (by exact gz_m 74 (by omega)) (by exact gz_m 75 (by omega)) (fun k hk => ((((((g103 113 k).resolve_left (by exact gz_m 76 (by omega))).trans (p97 113 k (fun h => absurd h.1 (by exact gz_m 77 (by omega))))).trans (p89 113 k (fun h => by have := h.2; exact gz_m 78 (by omega)))).trans (p80 113 k (fun h => by have := h.2; exact gz_m 79 (by omega)))).trans (p38 113 k (fun h => by have := h.2; exact gz_m 80 (by omega))))) (fun hz => by have a09 := ((((((g103 113 (Int.toNat ((3 * (I6 100 17))))).resolve_left (by exact gz_m 81 (by omega))).trans (p97 113 (Int.toNat ((3 * (I6 100 17)))) (fun h => absurd h.1 (by exact gz_m 82 (by omega))))).trans (p89 113 (Int.toNat ((3 * (I6 100 17)))) (fun h => by have := h.2; exact gz_m 83 (by omega)))).trans (p80 113 (Int.toNat ((3 * (I6 100 17)))) (fun h => by have := h.2; exact gz_m 84 (by omega))))).trans q38; rw [show (Int.toNat ((3 * (I6 100 17)))) = (Int.toNat (3 * (I6 100 17))) from by exact gz_m 85 (by omega)] at a09; have a19 := (((((g103 113 (Int.toNat (((3 * (I37 100 17)) + 1)))).resolve_left (by exact gz_m 86 (by omega))).trans (p97 113 (Int.toNat (((3 * (I37 100 17)) + 1))) (fun h => absurd h.1 (by exact gz_m 87 (by omega))))).trans (p89 113 (Int.toNat (((3 * (I37 100 17)) + 1))) (fun h => by have := h.2; exact gz_m 88 (by omega))))).trans q80; rw [show (Int.toNat (((3 * (I37 100 17)) + 1))) = (Int.toNat ((3 * (I6 100 17)) + 1)) from by exact gz_m 89 (by omega)] at a19; have a29 := ((((g103 113 (Int.toNat (((3 * (I79 100 17)) + 2)))).resolve_left (by exact gz_m 90 (by omega))).trans (p97 113 (Int.toNat (((3 * (I79 100 17)) + 2))) (fun h => absurd h.1 (by exact gz_m 91 (by omega)))))).trans q89; rw [show (Int.toNat (((3 * (I79 100 17)) + 2))) = (Int.toNat ((3 * (I6 100 17)) + 2)) from by exact gz_m 92 (by omega)] at a29; exact gz_m 93 (by omega)))
            · show gv_X _ _ (94, [(4, .inl s0_20), (0, .inr (.inr (some 100))), (1, .inr (.inr (some a1))), (2, .inl v2_8), (3, .inl v3_20)], [], sh, gc_h sh I6 J7 A)
              refine gv_pick [] rfl ?_
              exact L94 
        have L73 : ∀ (v3_111 : Int), ((0 ≤ v2_8 ∧ v2_8 ≤ 8) ∧ ((-1) ≤ v3_111 ∧ v3_111 ≤ 399) ∧ (v3_111 < 0 ∨ I6 a1 7 = 1) ∧ (I6 a1 7 = 42 ∨ I6 a1 7 = 3 ∨ I6 a1 7 = 1)) → gv_X (gc_E1 ws0 tb 3 (yX1_readQuestion, cX1_readQuestion, 5, (some .boolean)) kX1_readQuestion) (gv_Q cX1_readQuestion (some .boolean) sh (fun r h' => (∃ (I' : gr_I) (J' : gr_J), h' = gc_h sh I' J' A ∧ gc_Inv ro I' ∧ (∀ q j : Nat, ((q = 100 ∧ j = 17) ∨ q = 113 ∨ (q = a1 ∧ j = 5) ∨ (q = a1 ∧ j = 6) ∨ (q = a1 ∧ j = 7) ∨ (q = a1 ∧ j = 8)) ∨ I' q j = I q j) ∧ (∀ q j : Nat, ((q = a1 ∧ j = 9)) ∨ J' q j = J q j) ∧ (∃ z : Int, r = some (.inl z) ∧ 0 ≤ z ∧ z ≤ 1 ∧ (gc_QU I') ∧ (z = 0 ∨ 1 ≤ I' 100 17))))) (73, [(0, .inr (.inr (some 100))), (1, .inr (.inr (some a1))), (2, .inl v2_8), (3, .inl v3_111)], [], sh, gc_h sh I6 J7 A) := by
          intro v3_111 m_111
          obtain ⟨hv2_8_111, hv3_111, e0_111, e1_111⟩ := m_111
          have f112 := (show 0 ≤ I6 a1 1 ∧ I6 a1 1 ≤ 1000 from gc_in hI6 R_a1 rfl rfl)
          have f113 := (show 0 ≤ I6 a1 5 ∧ I6 a1 5 ≤ 1000 from gc_in hI6 R_a1 rfl rfl)
          have f114 := (show 0 ≤ I6 a1 6 ∧ I6 a1 6 ≤ 1001 from gc_in hI6 R_a1 rfl rfl)
          have f115 := (show 0 ≤ I6 a1 7 ∧ I6 a1 7 ≤ 125 from gc_in hI6 R_a1 rfl rfl)
          have f116 := (show 0 ≤ I6 100 17 ∧ I6 100 17 ≤ 8 from gc_in hI6 R_100 rfl rfl)
          refine gv_run 2 true hD (pc' := 78) (lv' := [(0, .inr (.inr (some 100))), (1, .inr (.inr (some a1))), (2, .inl v2_8), (3, .inl v3_111)]) (st' := [.inl 1]) (h' := gc_h sh I6 J7 A) (C := ((True ∧ True) ∧ True)) rfl ⟨⟨trivial, trivial⟩, trivial⟩ ?_
          exact L78 v3_111 1 (by exact gz_m 94 (by omega))
        refine gv_run 2 true hD (pc' := 53) (lv' := [(3, .inl s0_14), (0, .inr (.inr (some 100))), (1, .inr (.inr (some a1))), (2, .inl v2_8)]) (st' := [.inr (.inr (some a1))]) (h' := gc_h sh I6 J7 A) (C := ((True ∧ True) ∧ True)) rfl ⟨⟨trivial, trivial⟩, trivial⟩ ?_
        have f117 := (show 0 ≤ I6 a1 7 ∧ I6 a1 7 ≤ 125 from gc_in hI6 R_a1 rfl rfl)
        refine gv_get hD rfl rfl S_a1 ⟨by decide, B_a1⟩ (gc_hI S_a1 rfl) ?_
        show gv_X _ _ (56, [(3, .inl s0_14), (0, .inr (.inr (some 100))), (1, .inr (.inr (some a1))), (2, .inl v2_8)], [.inl (I6 a1 7)], sh, gc_h sh I6 J7 A)
        refine gv_run 1 true hD (pc' := 58) (lv' := [(3, .inl s0_14), (0, .inr (.inr (some 100))), (1, .inr (.inr (some a1))), (2, .inl v2_8)]) (st' := [.inl 42, .inl (I6 a1 7)]) (h' := gc_h sh I6 J7 A) (C := (True ∧ True)) rfl ⟨trivial, trivial⟩ ?_
        refine gv_icmp_eq (t := 73) hD rfl rfl ⟨⟨by exact gz_m 95 (by omega), by exact gz_m 96 (by omega)⟩, ⟨by exact gz_m 97 (by omega), by exact gz_m 98 (by omega)⟩⟩ (fun c118 => ?_) (fun c118 => ?_)
        · show gv_X _ _ (73, [(3, .inl s0_14), (0, .inr (.inr (some 100))), (1, .inr (.inr (some a1))), (2, .inl v2_8)], [], sh, gc_h sh I6 J7 A)
          refine gv_pick [1, 2, 3, 0] rfl ?_
          exact L73 s0_14 (by exact gz_m 99 (by omega))
        · show gv_X _ _ (61, [(3, .inl s0_14), (0, .inr (.inr (some 100))), (1, .inr (.inr (some a1))), (2, .inl v2_8)], [], sh, gc_h sh I6 J7 A)
          refine gv_run 1 true hD (pc' := 62) (lv' := [(3, .inl s0_14), (0, .inr (.inr (some 100))), (1, .inr (.inr (some a1))), (2, .inl v2_8)]) (st' := [.inr (.inr (some a1))]) (h' := gc_h sh I6 J7 A) (C := (True ∧ True)) rfl ⟨trivial, trivial⟩ ?_
          have f119 := (show 0 ≤ I6 a1 7 ∧ I6 a1 7 ≤ 125 from gc_in hI6 R_a1 rfl rfl)
          refine gv_get hD rfl rfl S_a1 ⟨by decide, B_a1⟩ (gc_hI S_a1 rfl) ?_
          show gv_X _ _ (65, [(3, .inl s0_14), (0, .inr (.inr (some 100))), (1, .inr (.inr (some a1))), (2, .inl v2_8)], [.inl (I6 a1 7)], sh, gc_h sh I6 J7 A)
          refine gv_run 1 true hD (pc' := 66) (lv' := [(3, .inl s0_14), (0, .inr (.inr (some 100))), (1, .inr (.inr (some a1))), (2, .inl v2_8)]) (st' := [.inl 3, .inl (I6 a1 7)]) (h' := gc_h sh I6 J7 A) (C := (True ∧ True)) rfl ⟨trivial, trivial⟩ ?_
          refine gv_icmp_eq (t := 73) hD rfl rfl ⟨⟨by exact gz_m 100 (by omega), by exact gz_m 101 (by omega)⟩, ⟨by exact gz_m 102 (by omega), by exact gz_m 103 (by omega)⟩⟩ (fun c120 => ?_) (fun c120 => ?_)
          · show gv_X _ _ (73, [(3, .inl s0_14), (0, .inr (.inr (some 100))), (1, .inr (.inr (some a1))), (2, .inl v2_8)], [], sh, gc_h sh I6 J7 A)
            refine gv_pick [1, 2, 3, 0] rfl ?_
            exact L73 s0_14 (by exact gz_m 104 (by omega))
          · show gv_X _ _ (69, [(3, .inl s0_14), (0, .inr (.inr (some 100))), (1, .inr (.inr (some a1))), (2, .inl v2_8)], [], sh, gc_h sh I6 J7 A)
            refine gv_run 1 true hD (pc' := 70) (lv' := [(3, .inl s0_14), (0, .inr (.inr (some 100))), (1, .inr (.inr (some a1))), (2, .inl v2_8)]) (st' := [.inl s0_14]) (h' := gc_h sh I6 J7 A) (C := (True ∧ True)) rfl ⟨trivial, trivial⟩ ?_
            refine gv_if_lt (t := 77) hD rfl rfl ⟨by exact gz_m 105 (by omega), by exact gz_m 106 (by omega)⟩ (fun c121 => ?_) (fun c121 => ?_)
            · show gv_X _ _ (77, [(3, .inl s0_14), (0, .inr (.inr (some 100))), (1, .inr (.inr (some a1))), (2, .inl v2_8)], [], sh, gc_h sh I6 J7 A)
              refine gv_run 1 true hD (pc' := 78) (lv' := [(3, .inl s0_14), (0, .inr (.inr (some 100))), (1, .inr (.inr (some a1))), (2, .inl v2_8)]) (st' := [.inl 0]) (h' := gc_h sh I6 J7 A) (C := (True ∧ True)) rfl ⟨trivial, trivial⟩ ?_
              refine gv_pick [1, 2, 3, 0] rfl ?_
              exact L78 s0_14 0 (by exact gz_m 107 (by omega))
            · show gv_X _ _ (73, [(3, .inl s0_14), (0, .inr (.inr (some 100))), (1, .inr (.inr (some a1))), (2, .inl v2_8)], [], sh, gc_h sh I6 J7 A)
              refine gv_pick [1, 2, 3, 0] rfl ?_
              exact L73 s0_14 (by exact gz_m 108 (by omega))
      have L175 : gv_X (gc_E1 ws0 tb 3 (yX1_readQuestion, cX1_readQuestion, 5, (some .boolean)) kX1_readQuestion) (gv_Q cX1_readQuestion (some .boolean) sh (fun r h' => (∃ (I' : gr_I) (J' : gr_J), h' = gc_h sh I' J' A ∧ gc_Inv ro I' ∧ (∀ q j : Nat, ((q = 100 ∧ j = 17) ∨ q = 113 ∨ (q = a1 ∧ j = 5) ∨ (q = a1 ∧ j = 6) ∨ (q = a1 ∧ j = 7) ∨ (q = a1 ∧ j = 8)) ∨ I' q j = I q j) ∧ (∀ q j : Nat, ((q = a1 ∧ j = 9)) ∨ J' q j = J q j) ∧ (∃ z : Int, r = some (.inl z) ∧ 0 ≤ z ∧ z ≤ 1 ∧ (gc_QU I') ∧ (z = 0 ∨ 1 ≤ I' 100 17))))) (175, [(0, .inr (.inr (some 100)))], [], sh, gc_h sh I6 J7 A) := by
        have f123 := (show 0 ≤ I6 a1 1 ∧ I6 a1 1 ≤ 1000 from gc_in hI6 R_a1 rfl rfl)
        have f124 := (show 0 ≤ I6 a1 5 ∧ I6 a1 5 ≤ 1000 from gc_in hI6 R_a1 rfl rfl)
        have f125 := (show 0 ≤ I6 a1 6 ∧ I6 a1 6 ≤ 1001 from gc_in hI6 R_a1 rfl rfl)
        have f126 := (show 0 ≤ I6 a1 7 ∧ I6 a1 7 ≤ 125 from gc_in hI6 R_a1 rfl rfl)
        have f127 := (show 0 ≤ I6 100 17 ∧ I6 100 17 ≤ 8 from gc_in hI6 R_100 rfl rfl)
        have L187 : ∀ (s0_128 : Int), ((0 ≤ s0_128 ∧ s0_128 ≤ 1) ∧ (s0_128 = 0 ∨ 1 ≤ I6 100 17)) → gv_X (gc_E1 ws0 tb 3 (yX1_readQuestion, cX1_readQuestion, 5, (some .boolean)) kX1_readQuestion) (gv_Q cX1_readQuestion (some .boolean) sh (fun r h' => (∃ (I' : gr_I) (J' : gr_J), h' = gc_h sh I' J' A ∧ gc_Inv ro I' ∧ (∀ q j : Nat, ((q = 100 ∧ j = 17) ∨ q = 113 ∨ (q = a1 ∧ j = 5) ∨ (q = a1 ∧ j = 6) ∨ (q = a1 ∧ j = 7) ∨ (q = a1 ∧ j = 8)) ∨ I' q j = I q j) ∧ (∀ q j : Nat, ((q = a1 ∧ j = 9)) ∨ J' q j = J q j) ∧ (∃ z : Int, r = some (.inl z) ∧ 0 ≤ z ∧ z ≤ 1 ∧ (gc_QU I') ∧ (z = 0 ∨ 1 ≤ I' 100 17))))) (187, [], [.inl s0_128], sh, gc_h sh I6 J7 A) := by
          intro s0_128 m_128
          obtain ⟨hs0_128, e0_128⟩ := m_128
          have f129 := (show 0 ≤ I6 a1 1 ∧ I6 a1 1 ≤ 1000 from gc_in hI6 R_a1 rfl rfl)
          have f130 := (show 0 ≤ I6 a1 5 ∧ I6 a1 5 ≤ 1000 from gc_in hI6 R_a1 rfl rfl)
          have f131 := (show 0 ≤ I6 a1 6 ∧ I6 a1 6 ≤ 1001 from gc_in hI6 R_a1 rfl rfl)
          have f132 := (show 0 ≤ I6 a1 7 ∧ I6 a1 7 ≤ 125 from gc_in hI6 R_a1 rfl rfl)
          have f133 := (show 0 ≤ I6 100 17 ∧ I6 100 17 ≤ 8 from gc_in hI6 R_100 rfl rfl)
          exact gv_zret hD rfl (by exact gz_m 109 (by omega)) ⟨I6, J7, rfl, hI6, FI6, FJ7, ⟨_, rfl, by exact gz_m 110 (by omega), by exact gz_m 111 (by omega), e0_8, by exact gz_m 112 (by omega)⟩⟩
        refine gv_run 1 true hD (pc' := 176) (lv' := [(0, .inr (.inr (some 100)))]) (st' := [.inr (.inr (some 100))]) (h' := gc_h sh I6 J7 A) (C := (True ∧ True)) rfl ⟨trivial, trivial⟩ ?_
        have f134 := (show 0 ≤ I6 100 17 ∧ I6 100 17 ≤ 8 from gc_in hI6 R_100 rfl rfl)
        refine gv_get hD rfl rfl S_100 ⟨by decide, B_100⟩ (gc_hI S_100 rfl) ?_
        show gv_X _ _ (179, [(0, .inr (.inr (some 100)))], [.inl (I6 100 17)], sh, gc_h sh I6 J7 A)
        refine gv_if_le (t := 186) hD rfl rfl ⟨by exact gz_m 113 (by omega), by exact gz_m 114 (by omega)⟩ (fun c135 => ?_) (fun c135 => ?_)
        · show gv_X _ _ (186, [(0, .inr (.inr (some 100)))], [], sh, gc_h sh I6 J7 A)
          refine gv_run 1 true hD (pc' := 187) (lv' := [(0, .inr (.inr (some 100)))]) (st' := [.inl 0]) (h' := gc_h sh I6 J7 A) (C := (True ∧ True)) rfl ⟨trivial, trivial⟩ ?_
          refine gv_pick [] rfl ?_
          exact L187 0 (by exact gz_m 115 (by omega))
        · show gv_X _ _ (182, [(0, .inr (.inr (some 100)))], [], sh, gc_h sh I6 J7 A)
          refine gv_run 2 true hD (pc' := 187) (lv' := [(0, .inr (.inr (some 100)))]) (st' := [.inl 1]) (h' := gc_h sh I6 J7 A) (C := ((True ∧ True) ∧ True)) rfl ⟨⟨trivial, trivial⟩, trivial⟩ ?_
          refine gv_pick [] rfl ?_
          exact L187 1 (by exact gz_m 116 (by omega))
      refine gv_run 2 true hD (pc' := 14) (lv' := [(0, .inr (.inr (some 100))), (1, .inr (.inr (some a1))), (2, .inl v2_8)]) (st' := [.inl 8, .inl v2_8]) (h' := gc_h sh I6 J7 A) (C := ((True ∧ True) ∧ True)) rfl ⟨⟨trivial, trivial⟩, trivial⟩ ?_
      refine gv_icmp_gt (t := 175) hD rfl rfl ⟨⟨by exact gz_m 117 (by omega), by exact gz_m 118 (by omega)⟩, ⟨by exact gz_m 119 (by omega), by exact gz_m 120 (by omega)⟩⟩ (fun c136 => ?_) (fun c136 => ?_)
      · show gv_X _ _ (175, [(0, .inr (.inr (some 100))), (1, .inr (.inr (some a1))), (2, .inl v2_8)], [], sh, gc_h sh I6 J7 A)
        refine gv_pick [0] rfl ?_
        exact L175 
      · show gv_X _ _ (17, [(0, .inr (.inr (some 100))), (1, .inr (.inr (some a1))), (2, .inl v2_8)], [], sh, gc_h sh I6 J7 A)
        refine gv_run 1 true hD (pc' := 18) (lv' := [(0, .inr (.inr (some 100))), (1, .inr (.inr (some a1))), (2, .inl v2_8)]) (st' := [.inr (.inr (some a1))]) (h' := gc_h sh I6 J7 A) (C := (True ∧ True)) rfl ⟨trivial, trivial⟩ ?_
        have f137 := (show 0 ≤ I6 a1 7 ∧ I6 a1 7 ≤ 125 from gc_in hI6 R_a1 rfl rfl)
        refine gv_get hD rfl rfl S_a1 ⟨by decide, B_a1⟩ (gc_hI S_a1 rfl) ?_
        show gv_X _ _ (21, [(0, .inr (.inr (some 100))), (1, .inr (.inr (some a1))), (2, .inl v2_8)], [.inl (I6 a1 7)], sh, gc_h sh I6 J7 A)
        refine gv_run 1 true hD (pc' := 22) (lv' := [(0, .inr (.inr (some 100))), (1, .inr (.inr (some a1))), (2, .inl v2_8)]) (st' := [.inl 4, .inl (I6 a1 7)]) (h' := gc_h sh I6 J7 A) (C := (True ∧ True)) rfl ⟨trivial, trivial⟩ ?_
        refine gv_icmp_eq (t := 175) hD rfl rfl ⟨⟨by exact gz_m 121 (by omega), by exact gz_m 122 (by omega)⟩, ⟨by exact gz_m 123 (by omega), by exact gz_m 124 (by omega)⟩⟩ (fun c138 => ?_) (fun c138 => ?_)
        · show gv_X _ _ (175, [(0, .inr (.inr (some 100))), (1, .inr (.inr (some a1))), (2, .inl v2_8)], [], sh, gc_h sh I6 J7 A)
          refine gv_pick [0] rfl ?_
          exact L175 
        · show gv_X _ _ (25, [(0, .inr (.inr (some 100))), (1, .inr (.inr (some a1))), (2, .inl v2_8)], [], sh, gc_h sh I6 J7 A)
          refine gv_run 1 true hD (pc' := 26) (lv' := [(0, .inr (.inr (some 100))), (1, .inr (.inr (some a1))), (2, .inl v2_8)]) (st' := [.inr (.inr (some a1))]) (h' := gc_h sh I6 J7 A) (C := (True ∧ True)) rfl ⟨trivial, trivial⟩ ?_
          have f139 := (show 0 ≤ I6 a1 7 ∧ I6 a1 7 ≤ 125 from gc_in hI6 R_a1 rfl rfl)
          refine gv_get hD rfl rfl S_a1 ⟨by decide, B_a1⟩ (gc_hI S_a1 rfl) ?_
          show gv_X _ _ (29, [(0, .inr (.inr (some 100))), (1, .inr (.inr (some a1))), (2, .inl v2_8)], [.inl (I6 a1 7)], sh, gc_h sh I6 J7 A)
          refine gv_run 1 true hD (pc' := 30) (lv' := [(0, .inr (.inr (some 100))), (1, .inr (.inr (some a1))), (2, .inl v2_8)]) (st' := [.inl 1, .inl (I6 a1 7)]) (h' := gc_h sh I6 J7 A) (C := (True ∧ True)) rfl ⟨trivial, trivial⟩ ?_
          refine gv_icmp_ne (t := 50) hD rfl rfl ⟨⟨by exact gz_m 125 (by omega), by exact gz_m 126 (by omega)⟩, ⟨by exact gz_m 127 (by omega), by exact gz_m 128 (by omega)⟩⟩ (fun c140 => ?_) (fun c140 => ?_)
          · show gv_X _ _ (50, [(0, .inr (.inr (some 100))), (1, .inr (.inr (some a1))), (2, .inl v2_8)], [], sh, gc_h sh I6 J7 A)
            refine gv_run 1 true hD (pc' := 51) (lv' := [(0, .inr (.inr (some 100))), (1, .inr (.inr (some a1))), (2, .inl v2_8)]) (st' := [.inl (-1)]) (h' := gc_h sh I6 J7 A) (C := (True ∧ True)) rfl ⟨trivial, trivial⟩ ?_
            exact L51 (-1) (by exact gz_m 129 (by omega))
          · show gv_X _ _ (33, [(0, .inr (.inr (some 100))), (1, .inr (.inr (some a1))), (2, .inl v2_8)], [], sh, gc_h sh I6 J7 A)
            refine gv_run 1 true hD (pc' := 34) (lv' := [(0, .inr (.inr (some 100))), (1, .inr (.inr (some a1))), (2, .inl v2_8)]) (st' := [.inr (.inr (some 100))]) (h' := gc_h sh I6 J7 A) (C := (True ∧ True)) rfl ⟨trivial, trivial⟩ ?_
            refine gv_get hD rfl rfl S_100 ⟨by decide, B_100⟩ (gc_hA S_100 rfl A_100_0) ?_
            show gv_X _ _ (37, [(0, .inr (.inr (some 100))), (1, .inr (.inr (some a1))), (2, .inl v2_8)], [.inr (.inr (some 1))], sh, gc_h sh I6 J7 A)
            refine gv_get hD rfl rfl S_1 ⟨by decide, B_1⟩ (gc_hA S_1 rfl A_1_0) ?_
            show gv_X _ _ (40, [(0, .inr (.inr (some 100))), (1, .inr (.inr (some a1))), (2, .inl v2_8)], [.inr (.inr (some 2))], sh, gc_h sh I6 J7 A)
            refine gv_run 1 true hD (pc' := 41) (lv' := [(0, .inr (.inr (some 100))), (1, .inr (.inr (some a1))), (2, .inl v2_8)]) (st' := [.inr (.inr (some a1)), .inr (.inr (some 2))]) (h' := gc_h sh I6 J7 A) (C := (True ∧ True)) rfl ⟨trivial, trivial⟩ ?_
            refine gv_get hD rfl rfl S_a1 ⟨by decide, B_a1⟩ (gc_hJ S_a1 rfl) ?_
            show gv_X _ _ (44, [(0, .inr (.inr (some 100))), (1, .inr (.inr (some a1))), (2, .inl v2_8)], [.inr (.inl (J7 a1 9)), .inr (.inr (some 2))], sh, gc_h sh I6 J7 A)
            obtain ⟨r141, h141, E141, P141⟩ := d_X4_find (ws0 := ws0) (tb := tb) hws htb sh ro I6 J7 A hI6 2 32 9 (J7 a1 9) (gc_b2 hb)     
            obtain ⟨rfl, ⟨z141, rfl, q141⟩⟩ := P141
            refine gv_callV hD rfl (As := [.inr (.inl (J7 a1 9))]) (st := []) rfl B_2 S_2 rfl (gc_lV1 hws rfl) (Nat.le_of_ble_eq_true rfl) (gz_Ev_mono (d := 1) (by decide) E141) ?_
            show gv_X _ _ (47, [(0, .inr (.inr (some 100))), (1, .inr (.inr (some a1))), (2, .inl v2_8)], [.inl z141], sh, gc_h sh I6 J7 A)
            refine gv_run 1 true hD (pc' := 51) (lv' := [(0, .inr (.inr (some 100))), (1, .inr (.inr (some a1))), (2, .inl v2_8)]) (st' := [.inl z141]) (h' := gc_h sh I6 J7 A) (C := (True ∧ True)) rfl ⟨trivial, trivial⟩ ?_
            exact L51 z141 (by exact gz_m 130 (by omega))
  refine gv_run 2 true hD (pc' := 2) (lv' := [(0, .inr (.inr (some 100))), (1, .inr (.inr (some a1)))]) (st' := [.inl 0, .inr (.inr (some 100))]) (h' := gc_h sh I J A) (C := ((True ∧ True) ∧ True)) rfl ⟨⟨trivial, trivial⟩, trivial⟩ ?_
  refine gv_put hD rfl rfl S_100 ⟨by decide, B_100⟩ rfl trivial ?_
  refine gc_st (k := 17) hI S_100 rfl R_100 (lo := 0) (hi := 8) rfl rfl (by exact gz_m 131 (by omega)) (by exact gz_m 132 (by omega)) (fun I142 hI142 q143 p143 => ?_)
  have FI142 := gc_frs (W := fun q j => (q = 100 ∧ j = 17) ∨ q = 113 ∨ (q = a1 ∧ j = 5) ∨ (q = a1 ∧ j = 6) ∨ (q = a1 ∧ j = 7) ∨ (q = a1 ∧ j = 8)) FI (Or.inl ⟨rfl, rfl⟩) p143
  have t144 := p143 a1 1 (fun h => absurd h.2 (by decide))
  have t145 := p143 a1 5 (fun h => absurd h.2 (by decide))
  have t146 := p143 a1 6 (fun h => absurd h.2 (by decide))
  have t147 := p143 a1 7 (fun h => absurd h.2 (by decide))
  have f148 := (show 0 ≤ I142 100 17 ∧ I142 100 17 ≤ 8 from gc_in hI142 R_100 rfl rfl)
  show gv_X _ _ (5, [(0, .inr (.inr (some 100))), (1, .inr (.inr (some a1)))], [], sh, gc_h sh I142 J A)
  refine gv_run 1 true hD (pc' := 6) (lv' := [(0, .inr (.inr (some 100))), (1, .inr (.inr (some a1)))]) (st' := [.inr (.inr (some a1))]) (h' := gc_h sh I142 J A) (C := (True ∧ True)) rfl ⟨trivial, trivial⟩ ?_
  obtain ⟨r149, h149, E149, P149⟩ := d_X9_rewind (ws0 := ws0) (tb := tb) hws htb sh ro I142 J A hI142 a1  h_a1     
  obtain ⟨I150, J151, rfl, hI150, g149, k149, ⟨rfl, V149_0, V149_1, V149_2, V149_3, V149_4, q149⟩⟩ := P149
  have FI150 := gc_frc (W := fun q j => (q = 100 ∧ j = 17) ∨ q = 113 ∨ (q = a1 ∧ j = 5) ∨ (q = a1 ∧ j = 6) ∨ (q = a1 ∧ j = 7) ∨ (q = a1 ∧ j = 8)) (V := fun q j => (q = a1 ∧ j = 5) ∨ (q = a1 ∧ j = 6) ∨ (q = a1 ∧ j = 7) ∨ (q = a1 ∧ j = 8)) FI142 (fun q j h => (h.elim (fun h => (Or.inr (Or.inr (Or.inl h)))) (fun h => (h.elim (fun h => (Or.inr (Or.inr (Or.inr (Or.inl h))))) (fun h => (h.elim (fun h => (Or.inr (Or.inr (Or.inr (Or.inr (Or.inl h)))))) (fun h => (Or.inr (Or.inr (Or.inr (Or.inr (Or.inr h)))))))))))) g149
  have FJ151 := gc_frc (W := fun q j => (q = a1 ∧ j = 9)) (V := fun q j => (q = a1 ∧ j = 9)) FJ (fun q j h => h) k149
  have t152 := (g149 a1 1).resolve_left (fun h => h.elim (fun h => absurd h.2 (by decide)) (fun h => h.elim (fun h => absurd h.2 (by decide)) (fun h => h.elim (fun h => absurd h.2 (by decide)) (fun h => absurd h.2 (by decide)))))
  have t153 := (g149 100 17).resolve_left (fun h => h.elim (fun h => absurd h.2 (by decide)) (fun h => h.elim (fun h => absurd h.2 (by decide)) (fun h => h.elim (fun h => absurd h.2 (by decide)) (fun h => absurd h.2 (by decide)))))
  have f154 := (show 0 ≤ I150 a1 5 ∧ I150 a1 5 ≤ 1000 from gc_in hI150 R_a1 rfl rfl)
  have f155 := (show 0 ≤ I150 a1 6 ∧ I150 a1 6 ≤ 1001 from gc_in hI150 R_a1 rfl rfl)
  have f156 := (show 0 ≤ I150 a1 7 ∧ I150 a1 7 ≤ 125 from gc_in hI150 R_a1 rfl rfl)
  refine gv_callV hD rfl (As := []) (st := []) rfl B_a1 S_a1 rfl (gc_lV1 hws rfl) (Nat.le_of_ble_eq_true rfl) (gz_Ev_mono (d := 3) (by decide) E149) ?_
  show gv_X _ _ (9, [(0, .inr (.inr (some 100))), (1, .inr (.inr (some a1)))], [], sh, gc_h sh I150 J151 A)
  refine gv_run 2 true hD (pc' := 11) (lv' := [(2, .inl 0), (0, .inr (.inr (some 100))), (1, .inr (.inr (some a1)))]) (st' := []) (h' := gc_h sh I150 J151 A) (C := ((True ∧ True) ∧ True)) rfl ⟨⟨trivial, trivial⟩, trivial⟩ ?_
  refine gv_pick [1, 2, 0] rfl ?_
  exact L11 _ I150 J151 0 (Nat.lt_succ_self _) hI150 FI150 FJ151 (by exact gz_m 133 (by omega)) (gc_QU_0 (by exact gz_m 134 (by omega)))
