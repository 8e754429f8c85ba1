def gc_pp (I : gr_I) (T : Nat) (n : Int) : Prop := ∀ i : Nat, (i : Int) < n → 1 ≤ gc_op I T i
set_option maxHeartbeats 4000000 in
set_option maxRecDepth 100000 in
theorem d_X6_readTree {ws0 : List Cond} {tb : String → gz_T} (hws : gc_Ws ws0) (htb : gc_tbs tb) (sh : gz_Sh) (ro : Nat → Nat) (I : gr_I) (J : gr_J) (A : gc_A) (hI : gc_Inv ro I) (m : Nat) (a1 : Nat) (hb : gc_Base sh ro A) (S_a1 : sh[a1]? = some (true, 1, m)) (R_a1 : ro a1 = 37) (B_a1 : a1 < 1000000) (M_a1 : m < 2147483648)  (x0 : 115 ≤ a1) (x1 : 60 ≤ m) : ∃ r h', gz_Ev ws0 tb 4 (yX6_readTree, cX6_readTree, 5, (some .int)) [.inr (.inr (some 39)), .inr (.inr (some a1))] sh (gc_h sh I J A) r sh h' 0 0 ∧ (∃ (I' : gr_I) (J' : gr_J), h' = gc_h sh I' J' A ∧ gc_Inv ro I' ∧ (∀ q j : Nat, ((q = 39 ∧ j = 3) ∨ (q = 39 ∧ j = 4) ∨ (q = 23 ∧ j = 5) ∨ (q = 23 ∧ j = 6) ∨ (q = 23 ∧ j = 7) ∨ (q = 23 ∧ j = 8) ∨ q = a1 ∨ q = 46 ∨ q = 47) ∨ I' q j = I q j) ∧ (∀ q j : Nat, ((q = 23 ∧ j = 9)) ∨ J' q j = J q j) ∧ (∃ z : Int, r = some (.inl z) ∧ (-1001) ≤ z ∧ z ≤ 60 ∧ (I' 23 5 ≤ I' 23 6) ∧ (I' 23 7 = 5 ∨ I' 23 6 ≤ I' 23 1) ∧ (I' 23 5 ≤ I' 23 1) ∧ (I' 23 7 = 4 ∨ (I' 23 5 < I' 23 6 ∧ I' 23 5 < I' 23 1)) ∧ (I' 23 7 = 3 → 2 ≤ I' 23 6 - I' 23 5 ∧ I' 23 6 - I' 23 5 ≤ 14) ∧ (I' 23 1 = I 23 1) ∧ (z ≤ 0 ∨ gc_wt I' a1 z) ∧ (z ≤ 60))) := by
  have FI : ∀ q j : Nat, ((q = 39 ∧ j = 3) ∨ (q = 39 ∧ j = 4) ∨ (q = 23 ∧ j = 5) ∨ (q = 23 ∧ j = 6) ∨ (q = 23 ∧ j = 7) ∨ (q = 23 ∧ j = 8) ∨ q = a1 ∨ q = 46 ∨ q = 47) ∨ I q j = I q j := fun _ _ => Or.inr rfl
  have FJ : ∀ q j : Nat, ((q = 23 ∧ j = 9)) ∨ J q j = J q j := fun _ _ => Or.inr rfl
  have A_1_1 : A 1 1 = some 4 := gc_bA hb rfl
  have A_1_6 : A 1 6 = some 11 := gc_bA hb rfl
  have A_1_7 : A 1 7 = some 12 := gc_bA hb rfl
  have A_39_0 : A 39 0 = some 1 := gc_bA hb rfl
  have A_39_1 : A 39 1 = some 23 := gc_bA hb rfl
  have A_39_17 : A 39 17 = some 46 := gc_bA hb rfl
  have A_39_18 : A 39 18 = some 47 := gc_bA hb rfl
  have B_1 : 1 < 1000000 := by decide
  have B_11 : 11 < 1000000 := by decide
  have B_12 : 12 < 1000000 := by decide
  have B_23 : 23 < 1000000 := by decide
  have B_39 : 39 < 1000000 := by decide
  have B_4 : 4 < 1000000 := by decide
  have B_46 : 46 < 1000000 := by decide
  have B_47 : 47 < 1000000 := by decide
  have R_11 : ro 11 = 25 := gc_bR hb (by decide) rfl
  have R_12 : ro 12 = 26 := gc_bR hb (by decide) rfl
  have R_23 : ro 23 = 3 := gc_bR hb (by decide) rfl
  have R_4 : ro 4 = 11 := gc_bR hb (by decide) rfl
  have R_46 : ro 46 = 37 := gc_bR hb (by decide) rfl
  have R_47 : ro 47 = 0 := gc_bR hb (by decide) rfl
  have S_1 : sh[1]? = some (false, 8, 21) := gc_bS hb rfl
  have S_11 : sh[11]? = some (true, 1, 96) := gc_bS hb rfl
  have S_12 : sh[12]? = some (true, 1, 96) := gc_bS hb rfl
  have S_23 : sh[23]? = some (false, 9, 10) := gc_bS hb rfl
  have S_39 : sh[39]? = some (false, 6, 19) := gc_bS hb rfl
  have S_4 : sh[4]? = some (false, 4, 2) := gc_bS hb rfl
  have S_46 : sh[46]? = some (true, 1, 60) := gc_bS hb rfl
  have S_47 : sh[47]? = some (true, 1, 60) := gc_bS hb rfl
  have hD : gv_D (gc_E6 ws0 tb 3 (yX6_readTree, cX6_readTree, 5, (some .int)) kX6_readTree) := gq_ok oX6_readTree
  refine gc_ev6 (d := 3) (l := kX6_readTree) (Po := fun r h' => (∃ (I' : gr_I) (J' : gr_J), h' = gc_h sh I' J' A ∧ gc_Inv ro I' ∧ (∀ q j : Nat, ((q = 39 ∧ j = 3) ∨ (q = 39 ∧ j = 4) ∨ (q = 23 ∧ j = 5) ∨ (q = 23 ∧ j = 6) ∨ (q = 23 ∧ j = 7) ∨ (q = 23 ∧ j = 8) ∨ q = a1 ∨ q = 46 ∨ q = 47) ∨ I' q j = I q j) ∧ (∀ q j : Nat, ((q = 23 ∧ j = 9)) ∨ J' q j = J q j) ∧ (∃ z : Int, r = some (.inl z) ∧ (-1001) ≤ z ∧ z ≤ 60 ∧ (I' 23 5 ≤ I' 23 6) ∧ (I' 23 7 = 5 ∨ I' 23 6 ≤ I' 23 1) ∧ (I' 23 5 ≤ I' 23 1) ∧ (I' 23 7 = 4 ∨ (I' 23 5 < I' 23 6 ∧ I' 23 5 < I' 23 1)) ∧ (I' 23 7 = 3 → 2 ≤ I' 23 6 - I' 23 5 ∧ I' 23 6 - I' 23 5 ≤ 14) ∧ (I' 23 1 = I 23 1) ∧ (z ≤ 0 ∨ gc_wt I' a1 z) ∧ (z ≤ 60)))) htb rfl (Nat.le_of_ble_eq_true rfl) ?_
  have f1 := (show 0 ≤ I 23 1 ∧ I 23 1 ≤ 1000 from gc_in hI R_23 rfl rfl)
  have f2 := (show 0 ≤ I 23 5 ∧ I 23 5 ≤ 1000 from gc_in hI R_23 rfl rfl)
  have f3 := (show 0 ≤ I 23 6 ∧ I 23 6 ≤ 1001 from gc_in hI R_23 rfl rfl)
  have f4 := (show 0 ≤ I 23 7 ∧ I 23 7 ≤ 125 from gc_in hI R_23 rfl rfl)
  have f5 := (show 0 ≤ I 4 1 ∧ I 4 1 ≤ 96 from gc_in hI R_4 rfl rfl)
  have L11 : ∀ (n9 : Nat) (I6 : gr_I) (J7 : gr_J) (v2_8 : Int) (v3_8 : Int), (61 - v2_8).toNat < n9 → gc_Inv ro I6 → (∀ q j : Nat, ((q = 39 ∧ j = 3) ∨ (q = 39 ∧ j = 4) ∨ (q = 23 ∧ j = 5) ∨ (q = 23 ∧ j = 6) ∨ (q = 23 ∧ j = 7) ∨ (q = 23 ∧ j = 8) ∨ q = a1 ∨ q = 46 ∨ q = 47) ∨ I6 q j = I q j) → (∀ q j : Nat, ((q = 23 ∧ j = 9)) ∨ J7 q j = J q j) → gc_LT I6 → ((0 ≤ v2_8 ∧ v2_8 ≤ 60) ∧ (0 ≤ v3_8 ∧ v3_8 ≤ 60) ∧ (v3_8 ≤ v2_8) ∧ (I6 23 5 ≤ I6 23 6) ∧ (I6 23 7 = 5 ∨ I6 23 6 ≤ I6 23 1) ∧ (I6 23 5 ≤ I6 23 1) ∧ (I6 23 7 = 4 ∨ (I6 23 5 < I6 23 6 ∧ I6 23 5 < I6 23 1)) ∧ (I6 23 7 = 3 → 2 ≤ I6 23 6 - I6 23 5 ∧ I6 23 6 - I6 23 5 ≤ 14) ∧ (I6 23 1 = I 23 1)) → (gc_SE I6 v3_8) → (gc_op I6 a1 (Int.toNat v2_8) = 1 + gc_ss I6 (Int.toNat v3_8)) → (gc_pp I6 a1 v2_8) → gv_X (gc_E6 ws0 tb 3 (yX6_readTree, cX6_readTree, 5, (some .int)) kX6_readTree) (gv_Q cX6_readTree (some .int) sh (fun r h' => (∃ (I' : gr_I) (J' : gr_J), h' = gc_h sh I' J' A ∧ gc_Inv ro I' ∧ (∀ q j : Nat, ((q = 39 ∧ j = 3) ∨ (q = 39 ∧ j = 4) ∨ (q = 23 ∧ j = 5) ∨ (q = 23 ∧ j = 6) ∨ (q = 23 ∧ j = 7) ∨ (q = 23 ∧ j = 8) ∨ q = a1 ∨ q = 46 ∨ q = 47) ∨ I' q j = I q j) ∧ (∀ q j : Nat, ((q = 23 ∧ j = 9)) ∨ J' q j = J q j) ∧ (∃ z : Int, r = some (.inl z) ∧ (-1001) ≤ z ∧ z ≤ 60 ∧ (I' 23 5 ≤ I' 23 6) ∧ (I' 23 7 = 5 ∨ I' 23 6 ≤ I' 23 1) ∧ (I' 23 5 ≤ I' 23 1) ∧ (I' 23 7 = 4 ∨ (I' 23 5 < I' 23 6 ∧ I' 23 5 < I' 23 1)) ∧ (I' 23 7 = 3 → 2 ≤ I' 23 6 - I' 23 5 ∧ I' 23 6 - I' 23 5 ≤ 14) ∧ (I' 23 1 = I 23 1) ∧ (z ≤ 0 ∨ gc_wt I' a1 z) ∧ (z ≤ 60))))) (11, [(0, .inr (.inr (some 39))), (1, .inr (.inr (some a1))), (2, .inl v2_8), (3, .inl v3_8)], [], sh, gc_h sh I6 J7 A) := by
    intro n9
    induction n9 with
    | zero => intro I6 J7 v2_8 v3_8 hn; omega
    | succ n9 ih11 =>
      intro I6 J7 v2_8 v3_8 hn hI6 FI6 FJ7 KLT_I6 m_8 e0_8 e1_8 e2_8
      obtain ⟨hv2_8, hv3_8, e3_8, e4_8, e5_8, e6_8, e7_8, e8_8, e9_8⟩ := m_8
      have f9 := (show 0 ≤ I6 23 1 ∧ I6 23 1 ≤ 1000 from gc_in hI6 R_23 rfl rfl)
      have f10 := (show 0 ≤ I6 23 5 ∧ I6 23 5 ≤ 1000 from gc_in hI6 R_23 rfl rfl)
      have f11 := (show 0 ≤ I6 23 6 ∧ I6 23 6 ≤ 1001 from gc_in hI6 R_23 rfl rfl)
      have f12 := (show 0 ≤ I6 23 7 ∧ I6 23 7 ≤ 125 from gc_in hI6 R_23 rfl rfl)
      have f13 := (show 0 ≤ I6 4 1 ∧ I6 4 1 ≤ 96 from gc_in hI6 R_4 rfl rfl)
      have L76 : ((I6 23 5 ≤ I6 23 6) ∧ (I6 23 7 = 5 ∨ I6 23 6 ≤ I6 23 1) ∧ (I6 23 5 ≤ I6 23 1) ∧ (I6 23 7 = 4 ∨ (I6 23 5 < I6 23 6 ∧ I6 23 5 < I6 23 1)) ∧ (I6 23 7 = 3 → 2 ≤ I6 23 6 - I6 23 5 ∧ I6 23 6 - I6 23 5 ≤ 14) ∧ (I6 23 1 = I 23 1)) → gv_X (gc_E6 ws0 tb 3 (yX6_readTree, cX6_readTree, 5, (some .int)) kX6_readTree) (gv_Q cX6_readTree (some .int) sh (fun r h' => (∃ (I' : gr_I) (J' : gr_J), h' = gc_h sh I' J' A ∧ gc_Inv ro I' ∧ (∀ q j : Nat, ((q = 39 ∧ j = 3) ∨ (q = 39 ∧ j = 4) ∨ (q = 23 ∧ j = 5) ∨ (q = 23 ∧ j = 6) ∨ (q = 23 ∧ j = 7) ∨ (q = 23 ∧ j = 8) ∨ q = a1 ∨ q = 46 ∨ q = 47) ∨ I' q j = I q j) ∧ (∀ q j : Nat, ((q = 23 ∧ j = 9)) ∨ J' q j = J q j) ∧ (∃ z : Int, r = some (.inl z) ∧ (-1001) ≤ z ∧ z ≤ 60 ∧ (I' 23 5 ≤ I' 23 6) ∧ (I' 23 7 = 5 ∨ I' 23 6 ≤ I' 23 1) ∧ (I' 23 5 ≤ I' 23 1) ∧ (I' 23 7 = 4 ∨ (I' 23 5 < I' 23 6 ∧ I' 23 5 < I' 23 1)) ∧ (I' 23 7 = 3 → 2 ≤ I' 23 6 - I' 23 5 ∧ I' 23 6 - I' 23 5 ≤ 14) ∧ (I' 23 1 = I 23 1) ∧ (z ≤ 0 ∨ gc_wt I' a1 z) ∧ (z ≤ 60))))) (76, [(0, .inr (.inr (some 39)))], [], sh, gc_h sh I6 J7 A) := by
        intro m_14
        obtain ⟨e0_14, e1_14, e2_14, e3_14, e4_14, e5_14⟩ := m_14
        have f15 := (show 0 ≤ I6 23 1 ∧ I6 23 1 ≤ 1000 from gc_in hI6 R_23 rfl rfl)
        have f16 := (show 0 ≤ I6 23 5 ∧ I6 23 5 ≤ 1000 from gc_in hI6 R_23 rfl rfl)
        have f17 := (show 0 ≤ I6 23 6 ∧ I6 23 6 ≤ 1001 from gc_in hI6 R_23 rfl rfl)
        have f18 := (show 0 ≤ I6 23 7 ∧ I6 23 7 ≤ 125 from gc_in hI6 R_23 rfl rfl)
        have f19 := (show 0 ≤ I6 4 1 ∧ I6 4 1 ≤ 96 from gc_in hI6 R_4 rfl rfl)
        refine gv_run 2 true hD (pc' := 78) (lv' := [(0, .inr (.inr (some 39)))]) (st' := [.inr (.inr (some 39)), .inl (-1)]) (h' := gc_h sh I6 J7 A) (C := ((True ∧ True) ∧ True)) rfl ⟨⟨trivial, trivial⟩, trivial⟩ ?_
        refine gv_get hD rfl rfl S_39 ⟨by decide, B_39⟩ (gc_hA S_39 rfl A_39_1) ?_
        show gv_X _ _ (81, [(0, .inr (.inr (some 39)))], [.inr (.inr (some 23)), .inl (-1)], sh, gc_h sh I6 J7 A)
        have f20 := (show 0 ≤ I6 23 5 ∧ I6 23 5 ≤ 1000 from gc_in hI6 R_23 rfl rfl)
        refine gv_get hD rfl rfl S_23 ⟨by decide, B_23⟩ (gc_hI S_23 rfl) ?_
        show gv_X _ _ (84, [(0, .inr (.inr (some 39)))], [.inl (I6 23 5), .inl (-1)], sh, gc_h sh I6 J7 A)
        refine gv_run 1 true hD (pc' := 85) (lv' := [(0, .inr (.inr (some 39)))]) (st' := [.inl ((-1) - (I6 23 5))]) (h' := gc_h sh I6 J7 A) (C := (True ∧ True)) rfl ⟨trivial, trivial⟩ ?_
        exact gv_iret hD rfl ⟨I6, J7, rfl, hI6, FI6, FJ7, ⟨_, rfl, by omega, by omega, by omega, by omega, by omega, by omega, by omega, by omega, (Or.inl (by omega)), by omega⟩⟩
      have L86 : ∀ (v4_21 : Int), ((0 ≤ v2_8 ∧ v2_8 ≤ 59) ∧ (0 ≤ v3_8 ∧ v3_8 ≤ 60) ∧ (0 ≤ v4_21 ∧ v4_21 ≤ 95) ∧ (v2_8 ≤ 59) ∧ (I6 23 7 = 1) ∧ (v4_21 < I6 4 1) ∧ (I6 23 5 ≤ I6 23 6) ∧ (I6 23 7 = 5 ∨ I6 23 6 ≤ I6 23 1) ∧ (I6 23 5 ≤ I6 23 1) ∧ (I6 23 7 = 4 ∨ (I6 23 5 < I6 23 6 ∧ I6 23 5 < I6 23 1)) ∧ (I6 23 7 = 3 → 2 ≤ I6 23 6 - I6 23 5 ∧ I6 23 6 - I6 23 5 ≤ 14) ∧ (I6 23 1 = I 23 1)) → gv_X (gc_E6 ws0 tb 3 (yX6_readTree, cX6_readTree, 5, (some .int)) kX6_readTree) (gv_Q cX6_readTree (some .int) sh (fun r h' => (∃ (I' : gr_I) (J' : gr_J), h' = gc_h sh I' J' A ∧ gc_Inv ro I' ∧ (∀ q j : Nat, ((q = 39 ∧ j = 3) ∨ (q = 39 ∧ j = 4) ∨ (q = 23 ∧ j = 5) ∨ (q = 23 ∧ j = 6) ∨ (q = 23 ∧ j = 7) ∨ (q = 23 ∧ j = 8) ∨ q = a1 ∨ q = 46 ∨ q = 47) ∨ I' q j = I q j) ∧ (∀ q j : Nat, ((q = 23 ∧ j = 9)) ∨ J' q j = J q j) ∧ (∃ z : Int, r = some (.inl z) ∧ (-1001) ≤ z ∧ z ≤ 60 ∧ (I' 23 5 ≤ I' 23 6) ∧ (I' 23 7 = 5 ∨ I' 23 6 ≤ I' 23 1) ∧ (I' 23 5 ≤ I' 23 1) ∧ (I' 23 7 = 4 ∨ (I' 23 5 < I' 23 6 ∧ I' 23 5 < I' 23 1)) ∧ (I' 23 7 = 3 → 2 ≤ I' 23 6 - I' 23 5 ∧ I' 23 6 - I' 23 5 ≤ 14) ∧ (I' 23 1 = I 23 1) ∧ (z ≤ 0 ∨ gc_wt I' a1 z) ∧ (z ≤ 60))))) (86, [(0, .inr (.inr (some 39))), (1, .inr (.inr (some a1))), (2, .inl v2_8), (3, .inl v3_8), (4, .inl v4_21)], [], sh, gc_h sh I6 J7 A) := by
        intro v4_21 m_21
        obtain ⟨hv2_8_21, hv3_8_21, hv4_21, e0_21, e1_21, e2_21, e3_21, e4_21, e5_21, e6_21, e7_21, e8_21⟩ := m_21
        have f22 := (show 0 ≤ I6 23 1 ∧ I6 23 1 ≤ 1000 from gc_in hI6 R_23 rfl rfl)
        have f23 := (show 0 ≤ I6 23 5 ∧ I6 23 5 ≤ 1000 from gc_in hI6 R_23 rfl rfl)
        have f24 := (show 0 ≤ I6 23 6 ∧ I6 23 6 ≤ 1001 from gc_in hI6 R_23 rfl rfl)
        have f25 := (show 0 ≤ I6 23 7 ∧ I6 23 7 ≤ 125 from gc_in hI6 R_23 rfl rfl)
        have f26 := (show 0 ≤ I6 4 1 ∧ I6 4 1 ≤ 96 from gc_in hI6 R_4 rfl rfl)
        have L202 : ∀ (I27 : gr_I) (J28 : gr_J) (s0_29 : Int), gc_Inv ro I27 → (∀ q j : Nat, ((q = 39 ∧ j = 3) ∨ (q = 39 ∧ j = 4) ∨ (q = 23 ∧ j = 5) ∨ (q = 23 ∧ j = 6) ∨ (q = 23 ∧ j = 7) ∨ (q = 23 ∧ j = 8) ∨ q = a1 ∨ q = 46 ∨ q = 47) ∨ I27 q j = I q j) → (∀ q j : Nat, ((q = 23 ∧ j = 9)) ∨ J28 q j = J q j) → gc_LT I27 → (((-1001) ≤ s0_29 ∧ s0_29 ≤ 60) ∧ (s0_29 ≤ 60) ∧ (I27 23 5 ≤ I27 23 6) ∧ (I27 23 7 = 5 ∨ I27 23 6 ≤ I27 23 1) ∧ (I27 23 5 ≤ I27 23 1) ∧ (I27 23 7 = 4 ∨ (I27 23 5 < I27 23 6 ∧ I27 23 5 < I27 23 1)) ∧ (I27 23 7 = 3 → 2 ≤ I27 23 6 - I27 23 5 ∧ I27 23 6 - I27 23 5 ≤ 14) ∧ (I27 23 1 = I 23 1)) → (s0_29 ≤ 0 ∨ gc_wt I27 a1 s0_29) → gv_X (gc_E6 ws0 tb 3 (yX6_readTree, cX6_readTree, 5, (some .int)) kX6_readTree) (gv_Q cX6_readTree (some .int) sh (fun r h' => (∃ (I' : gr_I) (J' : gr_J), h' = gc_h sh I' J' A ∧ gc_Inv ro I' ∧ (∀ q j : Nat, ((q = 39 ∧ j = 3) ∨ (q = 39 ∧ j = 4) ∨ (q = 23 ∧ j = 5) ∨ (q = 23 ∧ j = 6) ∨ (q = 23 ∧ j = 7) ∨ (q = 23 ∧ j = 8) ∨ q = a1 ∨ q = 46 ∨ q = 47) ∨ I' q j = I q j) ∧ (∀ q j : Nat, ((q = 23 ∧ j = 9)) ∨ J' q j = J q j) ∧ (∃ z : Int, r = some (.inl z) ∧ (-1001) ≤ z ∧ z ≤ 60 ∧ (I' 23 5 ≤ I' 23 6) ∧ (I' 23 7 = 5 ∨ I' 23 6 ≤ I' 23 1) ∧ (I' 23 5 ≤ I' 23 1) ∧ (I' 23 7 = 4 ∨ (I' 23 5 < I' 23 6 ∧ I' 23 5 < I' 23 1)) ∧ (I' 23 7 = 3 → 2 ≤ I' 23 6 - I' 23 5 ∧ I' 23 6 - I' 23 5 ≤ 14) ∧ (I' 23 1 = I 23 1) ∧ (z ≤ 0 ∨ gc_wt I' a1 z) ∧ (z ≤ 60))))) (202, [], [.inl s0_29], sh, gc_h sh I27 J28 A) := by
          intro I27 J28 s0_29 hI27 FI27 FJ28 KLT_I27 m_29 e0_29
          clear hv2_8_21 hv3_8_21 hv4_21 e0_21 e1_21 e2_21 e3_21 e4_21 e5_21 e6_21 e7_21 e8_21 f22 f23 f24 f25 f26 hv2_8 hv3_8 e3_8 e4_8 e5_8 e6_8 e7_8 e8_8 e9_8 f9 f10 f11 f12 f13
          obtain ⟨hs0_29, e1_29, e2_29, e3_29, e4_29, e5_29, e6_29, e7_29⟩ := m_29
          have f30 := (show 0 ≤ I27 23 1 ∧ I27 23 1 ≤ 1000 from gc_in hI27 R_23 rfl rfl)
          have f31 := (show 0 ≤ I27 23 5 ∧ I27 23 5 ≤ 1000 from gc_in hI27 R_23 rfl rfl)
          have f32 := (show 0 ≤ I27 23 6 ∧ I27 23 6 ≤ 1001 from gc_in hI27 R_23 rfl rfl)
          have f33 := (show 0 ≤ I27 23 7 ∧ I27 23 7 ≤ 125 from gc_in hI27 R_23 rfl rfl)
          have f34 := (show 0 ≤ I27 4 1 ∧ I27 4 1 ≤ 96 from gc_in hI27 R_4 rfl rfl)
          exact gv_iret hD rfl ⟨I27, J28, rfl, hI27, FI27, FJ28, ⟨_, rfl, by omega, by omega, by omega, by omega, by omega, by omega, by omega, by omega, e0_29, by omega⟩⟩
        have L193 : ∀ (I35 : gr_I) (J36 : gr_J) , gc_Inv ro I35 → (∀ q j : Nat, ((q = 39 ∧ j = 3) ∨ (q = 39 ∧ j = 4) ∨ (q = 23 ∧ j = 5) ∨ (q = 23 ∧ j = 6) ∨ (q = 23 ∧ j = 7) ∨ (q = 23 ∧ j = 8) ∨ q = a1 ∨ q = 46 ∨ q = 47) ∨ I35 q j = I q j) → (∀ q j : Nat, ((q = 23 ∧ j = 9)) ∨ J36 q j = J q j) → gc_LT I35 → ((I35 23 5 ≤ I35 23 6) ∧ (I35 23 7 = 5 ∨ I35 23 6 ≤ I35 23 1) ∧ (I35 23 5 ≤ I35 23 1) ∧ (I35 23 7 = 4 ∨ (I35 23 5 < I35 23 6 ∧ I35 23 5 < I35 23 1)) ∧ (I35 23 7 = 3 → 2 ≤ I35 23 6 - I35 23 5 ∧ I35 23 6 - I35 23 5 ≤ 14) ∧ (I35 23 1 = I 23 1)) → gv_X (gc_E6 ws0 tb 3 (yX6_readTree, cX6_readTree, 5, (some .int)) kX6_readTree) (gv_Q cX6_readTree (some .int) sh (fun r h' => (∃ (I' : gr_I) (J' : gr_J), h' = gc_h sh I' J' A ∧ gc_Inv ro I' ∧ (∀ q j : Nat, ((q = 39 ∧ j = 3) ∨ (q = 39 ∧ j = 4) ∨ (q = 23 ∧ j = 5) ∨ (q = 23 ∧ j = 6) ∨ (q = 23 ∧ j = 7) ∨ (q = 23 ∧ j = 8) ∨ q = a1 ∨ q = 46 ∨ q = 47) ∨ I' q j = I q j) ∧ (∀ q j : Nat, ((q = 23 ∧ j = 9)) ∨ J' q j = J q j) ∧ (∃ z : Int, r = some (.inl z) ∧ (-1001) ≤ z ∧ z ≤ 60 ∧ (I' 23 5 ≤ I' 23 6) ∧ (I' 23 7 = 5 ∨ I' 23 6 ≤ I' 23 1) ∧ (I' 23 5 ≤ I' 23 1) ∧ (I' 23 7 = 4 ∨ (I' 23 5 < I' 23 6 ∧ I' 23 5 < I' 23 1)) ∧ (I' 23 7 = 3 → 2 ≤ I' 23 6 - I' 23 5 ∧ I' 23 6 - I' 23 5 ≤ 14) ∧ (I' 23 1 = I 23 1) ∧ (z ≤ 0 ∨ gc_wt I' a1 z) ∧ (z ≤ 60))))) (193, [(0, .inr (.inr (some 39)))], [], sh, gc_h sh I35 J36 A) := by
          intro I35 J36 hI35 FI35 FJ36 KLT_I35 m_37
          clear hv2_8_21 hv3_8_21 hv4_21 e0_21 e1_21 e2_21 e3_21 e4_21 e5_21 e6_21 e7_21 e8_21 f22 f23 f24 f25 f26 hv2_8 hv3_8 e3_8 e4_8 e5_8 e6_8 e7_8 e8_8 e9_8 f9 f10 f11 f12 f13
          obtain ⟨e0_37, e1_37, e2_37, e3_37, e4_37, e5_37⟩ := m_37
          have f38 := (show 0 ≤ I35 23 1 ∧ I35 23 1 ≤ 1000 from gc_in hI35 R_23 rfl rfl)
          have f39 := (show 0 ≤ I35 23 5 ∧ I35 23 5 ≤ 1000 from gc_in hI35 R_23 rfl rfl)
          have f40 := (show 0 ≤ I35 23 6 ∧ I35 23 6 ≤ 1001 from gc_in hI35 R_23 rfl rfl)
          have f41 := (show 0 ≤ I35 23 7 ∧ I35 23 7 ≤ 125 from gc_in hI35 R_23 rfl rfl)
          have f42 := (show 0 ≤ I35 4 1 ∧ I35 4 1 ≤ 96 from gc_in hI35 R_4 rfl rfl)
          refine gv_run 2 true hD (pc' := 195) (lv' := [(0, .inr (.inr (some 39)))]) (st' := [.inr (.inr (some 39)), .inl (-1)]) (h' := gc_h sh I35 J36 A) (C := ((True ∧ True) ∧ True)) rfl ⟨⟨trivial, trivial⟩, trivial⟩ ?_
          refine gv_get hD rfl rfl S_39 ⟨by decide, B_39⟩ (gc_hA S_39 rfl A_39_1) ?_
          show gv_X _ _ (198, [(0, .inr (.inr (some 39)))], [.inr (.inr (some 23)), .inl (-1)], sh, gc_h sh I35 J36 A)
          have f43 := (show 0 ≤ I35 23 5 ∧ I35 23 5 ≤ 1000 from gc_in hI35 R_23 rfl rfl)
          refine gv_get hD rfl rfl S_23 ⟨by decide, B_23⟩ (gc_hI S_23 rfl) ?_
          show gv_X _ _ (201, [(0, .inr (.inr (some 39)))], [.inl (I35 23 5), .inl (-1)], sh, gc_h sh I35 J36 A)
          refine gv_run 1 true hD (pc' := 202) (lv' := [(0, .inr (.inr (some 39)))]) (st' := [.inl ((-1) - (I35 23 5))]) (h' := gc_h sh I35 J36 A) (C := (True ∧ True)) rfl ⟨trivial, trivial⟩ ?_
          refine gv_pick [] rfl ?_
          exact L202 I35 J36 (((-1) - (I35 23 5))) hI35 FI35 FJ36 KLT_I35 (by omega) (Or.inl (by omega))
        refine gv_run 4 true hD (pc' := 93) (lv' := [(2, .inl (v2_8 + 1)), (0, .inr (.inr (some 39))), (1, .inr (.inr (some a1))), (3, .inl v3_8), (4, .inl v4_21)]) (st' := [.inl v4_21, .inl v2_8, .inr (.inr (some a1))]) (h' := gc_h sh I6 J7 A) (C := ((((True ∧ True) ∧ True) ∧ True) ∧ True)) rfl ⟨⟨⟨⟨trivial, trivial⟩, trivial⟩, trivial⟩, trivial⟩ ?_
        refine gv_iast hD rfl S_a1 ⟨by omega, B_a1⟩ ⟨by omega, by omega⟩ ?_
        refine gc_st hI6 S_a1 rfl R_a1 (lo := 0) (hi := 95) rfl rfl (by omega) (by omega) (fun I44 hI44 q45 p45 => ?_)
        have FI44 := gc_frs (W := fun q j => (q = 39 ∧ j = 3) ∨ (q = 39 ∧ j = 4) ∨ (q = 23 ∧ j = 5) ∨ (q = 23 ∧ j = 6) ∨ (q = 23 ∧ j = 7) ∨ (q = 23 ∧ j = 8) ∨ q = a1 ∨ q = 46 ∨ q = 47) FI6 (Or.inr (Or.inr (Or.inr (Or.inr (Or.inr (Or.inr (Or.inl rfl))))))) p45
        have t46 := p45 23 1 (fun h => absurd h.1 (by omega))
        have t47 := p45 23 5 (fun h => absurd h.1 (by omega))
        have t48 := p45 23 6 (fun h => absurd h.1 (by omega))
        have t49 := p45 23 7 (fun h => absurd h.1 (by omega))
        have t50 := p45 4 1 (fun h => absurd h.1 (by omega))
        have f51 := (show 0 ≤ I44 23 1 ∧ I44 23 1 ≤ 1000 from gc_in hI44 R_23 rfl rfl)
        have f52 := (show 0 ≤ I44 23 5 ∧ I44 23 5 ≤ 1000 from gc_in hI44 R_23 rfl rfl)
        have f53 := (show 0 ≤ I44 23 6 ∧ I44 23 6 ≤ 1001 from gc_in hI44 R_23 rfl rfl)
        have f54 := (show 0 ≤ I44 23 7 ∧ I44 23 7 ≤ 125 from gc_in hI44 R_23 rfl rfl)
        have f55 := (show 0 ≤ I44 4 1 ∧ I44 4 1 ≤ 96 from gc_in hI44 R_4 rfl rfl)
        have KLT_I44 := gc_LT_fr KLT_I6 (p45 23 5 (fun h => absurd h.1 (by omega))) (p45 23 6 (fun h => absurd h.1 (by omega))) (p45 23 7 (fun h => absurd h.1 (by omega))) (fun k => p45 24 k (fun h => absurd h.1 (by omega)))
        show gv_X _ _ (94, [(2, .inl (v2_8 + 1)), (0, .inr (.inr (some 39))), (1, .inr (.inr (some a1))), (3, .inl v3_8), (4, .inl v4_21)], [], sh, gc_h sh I44 J7 A)
        refine gv_run 1 true hD (pc' := 95) (lv' := [(2, .inl (v2_8 + 1)), (0, .inr (.inr (some 39))), (1, .inr (.inr (some a1))), (3, .inl v3_8), (4, .inl v4_21)]) (st' := [.inr (.inr (some 39))]) (h' := gc_h sh I44 J7 A) (C := (True ∧ True)) rfl ⟨trivial, trivial⟩ ?_
        refine gv_get hD rfl rfl S_39 ⟨by decide, B_39⟩ (gc_hA S_39 rfl A_39_1) ?_
        show gv_X _ _ (98, [(2, .inl (v2_8 + 1)), (0, .inr (.inr (some 39))), (1, .inr (.inr (some a1))), (3, .inl v3_8), (4, .inl v4_21)], [.inr (.inr (some 23))], sh, gc_h sh I44 J7 A)
        obtain ⟨r56, h56, E56, P56⟩ := d_X9_advance (ws0 := ws0) (tb := tb) hws htb sh ro I44 J7 A hI44 23  (gc_b23 hb)    (by omega) 
        obtain ⟨I57, J58, rfl, hI57, g56, k56, ⟨rfl, q56⟩⟩ := P56
        have FI57 := gc_frc (W := fun q j => (q = 39 ∧ j = 3) ∨ (q = 39 ∧ j = 4) ∨ (q = 23 ∧ j = 5) ∨ (q = 23 ∧ j = 6) ∨ (q = 23 ∧ j = 7) ∨ (q = 23 ∧ j = 8) ∨ q = a1 ∨ q = 46 ∨ q = 47) (V := fun q j => (q = 23 ∧ j = 5) ∨ (q = 23 ∧ j = 6) ∨ (q = 23 ∧ j = 7) ∨ (q = 23 ∧ j = 8)) FI44 (fun q j h => (h.elim (fun h => (Or.inr (Or.inr (Or.inl h)))) (fun h => (h.elim (fun h => (Or.inr (Or.inr (Or.inr (Or.inl h))))) (fun h => (h.elim (fun h => (Or.inr (Or.inr (Or.inr (Or.inr (Or.inl h)))))) (fun h => (Or.inr (Or.inr (Or.inr (Or.inr (Or.inr (Or.inl h))))))))))))) g56
        have FJ58 := gc_frc (W := fun q j => (q = 23 ∧ j = 9)) (V := fun q j => (q = 23 ∧ j = 9)) FJ7 (fun q j h => h) k56
        have t59 := (g56 23 1).resolve_left (by omega)
        have t60 := (g56 4 1).resolve_left (by omega)
        have f61 := (show 0 ≤ I57 23 1 ∧ I57 23 1 ≤ 1000 from gc_in hI57 R_23 rfl rfl)
        have f62 := (show 0 ≤ I57 23 5 ∧ I57 23 5 ≤ 1000 from gc_in hI57 R_23 rfl rfl)
        have f63 := (show 0 ≤ I57 23 6 ∧ I57 23 6 ≤ 1001 from gc_in hI57 R_23 rfl rfl)
        have f64 := (show 0 ≤ I57 23 7 ∧ I57 23 7 ≤ 125 from gc_in hI57 R_23 rfl rfl)
        have f65 := (show 0 ≤ I57 4 1 ∧ I57 4 1 ≤ 96 from gc_in hI57 R_4 rfl rfl)
        have KLT_I57 : gc_LT I57 := q56.2.2.2.2.2.2.2
        refine gv_callV hD rfl (As := []) (st := []) rfl B_23 S_23 rfl (gc_lV6 hws rfl) (Nat.le_of_ble_eq_true rfl) (gz_Ev_mono (d := 2) (by decide) E56) ?_
        show gv_X _ _ (101, [(2, .inl (v2_8 + 1)), (0, .inr (.inr (some 39))), (1, .inr (.inr (some a1))), (3, .inl v3_8), (4, .inl v4_21)], [], sh, gc_h sh I57 J58 A)
        refine gv_run 1 true hD (pc' := 102) (lv' := [(2, .inl (v2_8 + 1)), (0, .inr (.inr (some 39))), (1, .inr (.inr (some a1))), (3, .inl v3_8), (4, .inl v4_21)]) (st' := [.inr (.inr (some 39))]) (h' := gc_h sh I57 J58 A) (C := (True ∧ True)) rfl ⟨trivial, trivial⟩ ?_
        refine gv_get hD rfl rfl S_39 ⟨by decide, B_39⟩ (gc_hA S_39 rfl A_39_0) ?_
        show gv_X _ _ (105, [(2, .inl (v2_8 + 1)), (0, .inr (.inr (some 39))), (1, .inr (.inr (some a1))), (3, .inl v3_8), (4, .inl v4_21)], [.inr (.inr (some 1))], sh, gc_h sh I57 J58 A)
        refine gv_get hD rfl rfl S_1 ⟨by decide, B_1⟩ (gc_hA S_1 rfl A_1_7) ?_
        show gv_X _ _ (108, [(2, .inl (v2_8 + 1)), (0, .inr (.inr (some 39))), (1, .inr (.inr (some a1))), (3, .inl v3_8), (4, .inl v4_21)], [.inr (.inr (some 12))], sh, gc_h sh I57 J58 A)
        refine gv_run 1 true hD (pc' := 110) (lv' := [(2, .inl (v2_8 + 1)), (0, .inr (.inr (some 39))), (1, .inr (.inr (some a1))), (3, .inl v3_8), (4, .inl v4_21)]) (st' := [.inl v4_21, .inr (.inr (some 12))]) (h' := gc_h sh I57 J58 A) (C := (True ∧ True)) rfl ⟨trivial, trivial⟩ ?_
        have f66 := (show 0 ≤ I57 12 (Int.toNat v4_21) ∧ I57 12 (Int.toNat v4_21) ≤ 4 from gc_in hI57 R_12 rfl rfl)
        refine gv_iald hD rfl S_12 rfl ⟨by decide, B_12⟩ ⟨by omega, by omega⟩ (gc_iI S_12 rfl) ?_
        show gv_X _ _ (111, [(2, .inl (v2_8 + 1)), (0, .inr (.inr (some 39))), (1, .inr (.inr (some a1))), (3, .inl v3_8), (4, .inl v4_21)], [.inl (I57 12 (Int.toNat v4_21))], sh, gc_h sh I57 J58 A)
        refine gv_if_le (t := 164) hD rfl rfl ⟨by omega, by omega⟩ (fun c67 => ?_) (fun c67 => ?_)
        · show gv_X _ _ (164, [(2, .inl (v2_8 + 1)), (0, .inr (.inr (some 39))), (1, .inr (.inr (some a1))), (3, .inl v3_8), (4, .inl v4_21)], [], sh, gc_h sh I57 J58 A)
          refine gv_run 2 true hD (pc' := 166) (lv' := [(2, .inl (v2_8 + 1)), (0, .inr (.inr (some 39))), (1, .inr (.inr (some a1))), (3, .inl v3_8), (4, .inl v4_21)]) (st' := [.inl v3_8, .inr (.inr (some 39))]) (h' := gc_h sh I57 J58 A) (C := ((True ∧ True) ∧ True)) rfl ⟨⟨trivial, trivial⟩, trivial⟩ ?_
          obtain ⟨r68, h68, E68, P68⟩ := d_X6_closeArguments (ws0 := ws0) (tb := tb) hws htb sh ro I57 J58 A hI57  v3_8 hb   ⟨by omega, by omega⟩ (by omega) (by omega) (by omega) (by omega) (by omega) (gc_SE_fr (n := v3_8) e0_8 (fun k hk => (((g56 47 k).resolve_left (by omega)).trans (p45 47 k (fun h => absurd h.1 (by omega))))) (fun k hk => (((g56 46 k).resolve_left (by omega)).trans (p45 46 k (fun h => absurd h.1 (by omega))))) (fun k => (((g56 12 k).resolve_left (by omega)).trans (p45 12 k (fun h => absurd h.1 (by omega)))))) KLT_I57
          obtain ⟨I69, J70, rfl, hI69, g68, k68, KLT_I69, ⟨z68, rfl, q68⟩⟩ := P68
          have FI69 := gc_frc (W := fun q j => (q = 39 ∧ j = 3) ∨ (q = 39 ∧ j = 4) ∨ (q = 23 ∧ j = 5) ∨ (q = 23 ∧ j = 6) ∨ (q = 23 ∧ j = 7) ∨ (q = 23 ∧ j = 8) ∨ q = a1 ∨ q = 46 ∨ q = 47) (V := fun q j => (q = 39 ∧ j = 3) ∨ (q = 39 ∧ j = 4) ∨ (q = 23 ∧ j = 5) ∨ (q = 23 ∧ j = 6) ∨ (q = 23 ∧ j = 7) ∨ (q = 23 ∧ j = 8) ∨ q = 47) FI57 (fun q j h => (h.elim (fun h => (Or.inl h)) (fun h => (h.elim (fun h => (Or.inr (Or.inl h))) (fun h => (h.elim (fun h => (Or.inr (Or.inr (Or.inl h)))) (fun h => (h.elim (fun h => (Or.inr (Or.inr (Or.inr (Or.inl h))))) (fun h => (h.elim (fun h => (Or.inr (Or.inr (Or.inr (Or.inr (Or.inl h)))))) (fun h => (h.elim (fun h => (Or.inr (Or.inr (Or.inr (Or.inr (Or.inr (Or.inl h))))))) (fun h => (Or.inr (Or.inr (Or.inr (Or.inr (Or.inr (Or.inr (Or.inr (Or.inr h))))))))))))))))))))) g68
          have FJ70 := gc_frc (W := fun q j => (q = 23 ∧ j = 9)) (V := fun q j => (q = 23 ∧ j = 9)) FJ58 (fun q j h => h) k68
          have t71 := (g68 23 1).resolve_left (by omega)
          have t72 := (g68 4 1).resolve_left (by omega)
          have f73 := (show 0 ≤ I69 23 1 ∧ I69 23 1 ≤ 1000 from gc_in hI69 R_23 rfl rfl)
          have f74 := (show 0 ≤ I69 23 5 ∧ I69 23 5 ≤ 1000 from gc_in hI69 R_23 rfl rfl)
          have f75 := (show 0 ≤ I69 23 6 ∧ I69 23 6 ≤ 1001 from gc_in hI69 R_23 rfl rfl)
          have f76 := (show 0 ≤ I69 23 7 ∧ I69 23 7 ≤ 125 from gc_in hI69 R_23 rfl rfl)
          have f77 := (show 0 ≤ I69 4 1 ∧ I69 4 1 ≤ 96 from gc_in hI69 R_4 rfl rfl)
          refine gv_callV hD rfl (As := [.inl v3_8]) (st := []) rfl B_39 S_39 rfl (gc_lV6 hws rfl) (Nat.le_of_ble_eq_true rfl) (gz_Ev_mono (d := 3) (by decide) E68) ?_
          show gv_X _ _ (169, [(2, .inl (v2_8 + 1)), (0, .inr (.inr (some 39))), (1, .inr (.inr (some a1))), (3, .inl v3_8), (4, .inl v4_21)], [.inl z68], sh, gc_h sh I69 J70 A)
          refine gv_run 2 true hD (pc' := 171) (lv' := [(3, .inl z68), (2, .inl (v2_8 + 1)), (0, .inr (.inr (some 39))), (1, .inr (.inr (some a1))), (4, .inl v4_21)]) (st' := [.inl z68]) (h' := gc_h sh I69 J70 A) (C := ((True ∧ True) ∧ True)) rfl ⟨⟨trivial, trivial⟩, trivial⟩ ?_
          refine gv_if_gt (t := 203) hD rfl rfl ⟨by omega, by omega⟩ (fun c78 => ?_) (fun c78 => ?_)
          · show gv_X _ _ (203, [(3, .inl z68), (2, .inl (v2_8 + 1)), (0, .inr (.inr (some 39))), (1, .inr (.inr (some a1))), (4, .inl v4_21)], [], sh, gc_h sh I69 J70 A)
            refine gv_run 1 true hD (pc' := 11) (lv' := [(3, .inl z68), (2, .inl (v2_8 + 1)), (0, .inr (.inr (some 39))), (1, .inr (.inr (some a1))), (4, .inl v4_21)]) (st' := []) (h' := gc_h sh I69 J70 A) (C := (True ∧ True)) rfl ⟨trivial, trivial⟩ ?_
            refine gv_pick [2, 3, 1, 0] rfl ?_
            exact ih11 I69 J70 (v2_8 + 1) z68 (by omega) hI69 FI69 FJ70 KLT_I69 (by omega) q68.2.2.2.2.2.2.2.2.2.2.1 (by have h1 := gc_op_fr (I := I6) (I' := I69) (T := a1) (n := Int.toNat v2_8) (fun k hk => ((((g68 a1 k).resolve_left (by omega)).trans ((g56 a1 k).resolve_left (by omega))).trans (p45 a1 k (fun h => by have := h.2; omega)))) (fun k => ((((g68 12 k).resolve_left (by omega)).trans ((g56 12 k).resolve_left (by omega))).trans (p45 12 k (fun h => absurd h.1 (by omega))))); have h2 := gc_ss_fr (I := I6) (I' := I57) (d := Int.toNat v3_8) (fun k hk => (((g56 47 k).resolve_left (by omega)).trans (p45 47 k (fun h => absurd h.1 (by omega))))) (fun k hk => (((g56 46 k).resolve_left (by omega)).trans (p45 46 k (fun h => absurd h.1 (by omega))))) (fun k => (((g56 12 k).resolve_left (by omega)).trans (p45 12 k (fun h => absurd h.1 (by omega))))); have h3 : I69 a1 (Int.toNat v2_8) = v4_21 := (((g68 a1 (Int.toNat v2_8)).resolve_left (by omega)).trans ((g56 a1 (Int.toNat v2_8)).resolve_left (by omega))).trans q45; have h7 : I69 12 (Int.toNat v4_21) = I57 12 (Int.toNat v4_21) := ((g68 12 (Int.toNat v4_21)).resolve_left (by omega)); have h6 := e1_8; have h8 := q68.2.2.2.2.2.2.2.2.2.2.2.2; have h9 := q68.2.2.2.2.2.2.2.2.2.2.2.1; rw [show Int.toNat (v2_8 + 1) = Int.toNat v2_8 + 1 from by omega]; show gc_op I69 a1 (Int.toNat v2_8) - 1 + I69 12 (Int.toNat (I69 a1 (Int.toNat v2_8))) = 1 + gc_ss I69 (Int.toNat z68); rw [h3]; omega) (fun k hk => by have h1 := gc_ss_nn (I := I6) (d := Int.toNat v3_8) (fun j hj => e0_8 j (by omega)); have h2 := e1_8; exact (if hkk : k = Int.toNat v2_8 then (by rw [hkk, gc_op_fr (I := I6) (I' := I69) (T := a1) (n := Int.toNat v2_8) (fun k hk => ((((g68 a1 k).resolve_left (by omega)).trans ((g56 a1 k).resolve_left (by omega))).trans (p45 a1 k (fun h => by have := h.2; omega)))) (fun k => ((((g68 12 k).resolve_left (by omega)).trans ((g56 12 k).resolve_left (by omega))).trans (p45 12 k (fun h => absurd h.1 (by omega)))))]; omega) else (by rw [gc_op_fr (I := I6) (I' := I69) (T := a1) (n := k) (fun k hk => ((((g68 a1 k).resolve_left (by omega)).trans ((g56 a1 k).resolve_left (by omega))).trans (p45 a1 k (fun h => by have := h.2; omega)))) (fun k => ((((g68 12 k).resolve_left (by omega)).trans ((g56 12 k).resolve_left (by omega))).trans (p45 12 k (fun h => absurd h.1 (by omega)))))]; exact e2_8 k (by omega))))
          · show gv_X _ _ (174, [(3, .inl z68), (2, .inl (v2_8 + 1)), (0, .inr (.inr (some 39))), (1, .inr (.inr (some a1))), (4, .inl v4_21)], [], sh, gc_h sh I69 J70 A)
            refine gv_run 1 true hD (pc' := 175) (lv' := [(3, .inl z68), (2, .inl (v2_8 + 1)), (0, .inr (.inr (some 39))), (1, .inr (.inr (some a1))), (4, .inl v4_21)]) (st' := [.inl z68]) (h' := gc_h sh I69 J70 A) (C := (True ∧ True)) rfl ⟨trivial, trivial⟩ ?_
            refine gv_if_ne (t := 193) hD rfl rfl ⟨by omega, by omega⟩ (fun c79 => ?_) (fun c79 => ?_)
            · show gv_X _ _ (193, [(3, .inl z68), (2, .inl (v2_8 + 1)), (0, .inr (.inr (some 39))), (1, .inr (.inr (some a1))), (4, .inl v4_21)], [], sh, gc_h sh I69 J70 A)
              refine gv_pick [2] rfl ?_
              exact L193 I69 J70 hI69 FI69 FJ70 KLT_I69 (by omega)
            · show gv_X _ _ (178, [(3, .inl z68), (2, .inl (v2_8 + 1)), (0, .inr (.inr (some 39))), (1, .inr (.inr (some a1))), (4, .inl v4_21)], [], sh, gc_h sh I69 J70 A)
              refine gv_run 1 true hD (pc' := 179) (lv' := [(3, .inl z68), (2, .inl (v2_8 + 1)), (0, .inr (.inr (some 39))), (1, .inr (.inr (some a1))), (4, .inl v4_21)]) (st' := [.inr (.inr (some 39))]) (h' := gc_h sh I69 J70 A) (C := (True ∧ True)) rfl ⟨trivial, trivial⟩ ?_
              refine gv_get hD rfl rfl S_39 ⟨by decide, B_39⟩ (gc_hA S_39 rfl A_39_1) ?_
              show gv_X _ _ (182, [(3, .inl z68), (2, .inl (v2_8 + 1)), (0, .inr (.inr (some 39))), (1, .inr (.inr (some a1))), (4, .inl v4_21)], [.inr (.inr (some 23))], sh, gc_h sh I69 J70 A)
              have f80 := (show 0 ≤ I69 23 7 ∧ I69 23 7 ≤ 125 from gc_in hI69 R_23 rfl rfl)
              refine gv_get hD rfl rfl S_23 ⟨by decide, B_23⟩ (gc_hI S_23 rfl) ?_
              show gv_X _ _ (185, [(3, .inl z68), (2, .inl (v2_8 + 1)), (0, .inr (.inr (some 39))), (1, .inr (.inr (some a1))), (4, .inl v4_21)], [.inl (I69 23 7)], sh, gc_h sh I69 J70 A)
              refine gv_run 1 true hD (pc' := 186) (lv' := [(3, .inl z68), (2, .inl (v2_8 + 1)), (0, .inr (.inr (some 39))), (1, .inr (.inr (some a1))), (4, .inl v4_21)]) (st' := [.inl 4, .inl (I69 23 7)]) (h' := gc_h sh I69 J70 A) (C := (True ∧ True)) rfl ⟨trivial, trivial⟩ ?_
              refine gv_icmp_ne (t := 193) hD rfl rfl ⟨⟨by omega, by omega⟩, ⟨by omega, by omega⟩⟩ (fun c81 => ?_) (fun c81 => ?_)
              · show gv_X _ _ (193, [(3, .inl z68), (2, .inl (v2_8 + 1)), (0, .inr (.inr (some 39))), (1, .inr (.inr (some a1))), (4, .inl v4_21)], [], sh, gc_h sh I69 J70 A)
                refine gv_pick [2] rfl ?_
                exact L193 I69 J70 hI69 FI69 FJ70 KLT_I69 (by omega)
              · show gv_X _ _ (189, [(3, .inl z68), (2, .inl (v2_8 + 1)), (0, .inr (.inr (some 39))), (1, .inr (.inr (some a1))), (4, .inl v4_21)], [], sh, gc_h sh I69 J70 A)
                refine gv_run 2 true hD (pc' := 202) (lv' := [(3, .inl z68), (2, .inl (v2_8 + 1)), (0, .inr (.inr (some 39))), (1, .inr (.inr (some a1))), (4, .inl v4_21)]) (st' := [.inl (v2_8 + 1)]) (h' := gc_h sh I69 J70 A) (C := ((True ∧ True) ∧ True)) rfl ⟨⟨trivial, trivial⟩, trivial⟩ ?_
                refine gv_pick [] rfl ?_
                exact L202 I69 J70 (v2_8 + 1) hI69 FI69 FJ70 KLT_I69 (by omega) (Or.inr ⟨(fun k hk => by have h1 := gc_ss_nn (I := I6) (d := Int.toNat v3_8) (fun j hj => e0_8 j (by omega)); have h2 := e1_8; exact (if hkk : k = Int.toNat v2_8 then (by rw [hkk, gc_op_fr (I := I6) (I' := I69) (T := a1) (n := Int.toNat v2_8) (fun k hk => ((((g68 a1 k).resolve_left (by omega)).trans ((g56 a1 k).resolve_left (by omega))).trans (p45 a1 k (fun h => by have := h.2; omega)))) (fun k => ((((g68 12 k).resolve_left (by omega)).trans ((g56 12 k).resolve_left (by omega))).trans (p45 12 k (fun h => absurd h.1 (by omega)))))]; omega) else (by rw [gc_op_fr (I := I6) (I' := I69) (T := a1) (n := k) (fun k hk => ((((g68 a1 k).resolve_left (by omega)).trans ((g56 a1 k).resolve_left (by omega))).trans (p45 a1 k (fun h => by have := h.2; omega)))) (fun k => ((((g68 12 k).resolve_left (by omega)).trans ((g56 12 k).resolve_left (by omega))).trans (p45 12 k (fun h => absurd h.1 (by omega)))))]; exact e2_8 k (by omega)))), by have h1 := gc_op_fr (I := I6) (I' := I69) (T := a1) (n := Int.toNat v2_8) (fun k hk => ((((g68 a1 k).resolve_left (by omega)).trans ((g56 a1 k).resolve_left (by omega))).trans (p45 a1 k (fun h => by have := h.2; omega)))) (fun k => ((((g68 12 k).resolve_left (by omega)).trans ((g56 12 k).resolve_left (by omega))).trans (p45 12 k (fun h => absurd h.1 (by omega))))); have h2 := gc_ss_fr (I := I6) (I' := I57) (d := Int.toNat v3_8) (fun k hk => (((g56 47 k).resolve_left (by omega)).trans (p45 47 k (fun h => absurd h.1 (by omega))))) (fun k hk => (((g56 46 k).resolve_left (by omega)).trans (p45 46 k (fun h => absurd h.1 (by omega))))) (fun k => (((g56 12 k).resolve_left (by omega)).trans (p45 12 k (fun h => absurd h.1 (by omega))))); have h3 : I69 a1 (Int.toNat v2_8) = v4_21 := (((g68 a1 (Int.toNat v2_8)).resolve_left (by omega)).trans ((g56 a1 (Int.toNat v2_8)).resolve_left (by omega))).trans q45; have h7 : I69 12 (Int.toNat v4_21) = I57 12 (Int.toNat v4_21) := ((g68 12 (Int.toNat v4_21)).resolve_left (by omega)); have h6 := e1_8; have h8 := q68.2.2.2.2.2.2.2.2.2.2.2.2; have h9 := q68.2.2.2.2.2.2.2.2.2.2.2.1; rw [show Int.toNat (v2_8 + 1) = Int.toNat v2_8 + 1 from by omega]; show gc_op I69 a1 (Int.toNat v2_8) - 1 + I69 12 (Int.toNat (I69 a1 (Int.toNat v2_8))) = 0; rw [h3]; omega⟩)
        · show gv_X _ _ (114, [(2, .inl (v2_8 + 1)), (0, .inr (.inr (some 39))), (1, .inr (.inr (some a1))), (3, .inl v3_8), (4, .inl v4_21)], [], sh, gc_h sh I57 J58 A)
          refine gv_run 1 true hD (pc' := 115) (lv' := [(2, .inl (v2_8 + 1)), (0, .inr (.inr (some 39))), (1, .inr (.inr (some a1))), (3, .inl v3_8), (4, .inl v4_21)]) (st' := [.inr (.inr (some 39))]) (h' := gc_h sh I57 J58 A) (C := (True ∧ True)) rfl ⟨trivial, trivial⟩ ?_
          refine gv_get hD rfl rfl S_39 ⟨by decide, B_39⟩ (gc_hA S_39 rfl A_39_1) ?_
          show gv_X _ _ (118, [(2, .inl (v2_8 + 1)), (0, .inr (.inr (some 39))), (1, .inr (.inr (some a1))), (3, .inl v3_8), (4, .inl v4_21)], [.inr (.inr (some 23))], sh, gc_h sh I57 J58 A)
          have f82 := (show 0 ≤ I57 23 7 ∧ I57 23 7 ≤ 125 from gc_in hI57 R_23 rfl rfl)
          refine gv_get hD rfl rfl S_23 ⟨by decide, B_23⟩ (gc_hI S_23 rfl) ?_
          show gv_X _ _ (121, [(2, .inl (v2_8 + 1)), (0, .inr (.inr (some 39))), (1, .inr (.inr (some a1))), (3, .inl v3_8), (4, .inl v4_21)], [.inl (I57 23 7)], sh, gc_h sh I57 J58 A)
          refine gv_run 1 true hD (pc' := 123) (lv' := [(2, .inl (v2_8 + 1)), (0, .inr (.inr (some 39))), (1, .inr (.inr (some a1))), (3, .inl v3_8), (4, .inl v4_21)]) (st' := [.inl 40, .inl (I57 23 7)]) (h' := gc_h sh I57 J58 A) (C := (True ∧ True)) rfl ⟨trivial, trivial⟩ ?_
          refine gv_icmp_eq (t := 136) hD rfl rfl ⟨⟨by omega, by omega⟩, ⟨by omega, by omega⟩⟩ (fun c83 => ?_) (fun c83 => ?_)
          · show gv_X _ _ (136, [(2, .inl (v2_8 + 1)), (0, .inr (.inr (some 39))), (1, .inr (.inr (some a1))), (3, .inl v3_8), (4, .inl v4_21)], [], sh, gc_h sh I57 J58 A)
            refine gv_run 1 true hD (pc' := 137) (lv' := [(2, .inl (v2_8 + 1)), (0, .inr (.inr (some 39))), (1, .inr (.inr (some a1))), (3, .inl v3_8), (4, .inl v4_21)]) (st' := [.inr (.inr (some 39))]) (h' := gc_h sh I57 J58 A) (C := (True ∧ True)) rfl ⟨trivial, trivial⟩ ?_
            refine gv_get hD rfl rfl S_39 ⟨by decide, B_39⟩ (gc_hA S_39 rfl A_39_17) ?_
            show gv_X _ _ (140, [(2, .inl (v2_8 + 1)), (0, .inr (.inr (some 39))), (1, .inr (.inr (some a1))), (3, .inl v3_8), (4, .inl v4_21)], [.inr (.inr (some 46))], sh, gc_h sh I57 J58 A)
            refine gv_run 2 true hD (pc' := 143) (lv' := [(2, .inl (v2_8 + 1)), (0, .inr (.inr (some 39))), (1, .inr (.inr (some a1))), (3, .inl v3_8), (4, .inl v4_21)]) (st' := [.inl v4_21, .inl v3_8, .inr (.inr (some 46))]) (h' := gc_h sh I57 J58 A) (C := ((True ∧ True) ∧ True)) rfl ⟨⟨trivial, trivial⟩, trivial⟩ ?_
            refine gv_iast hD rfl S_46 ⟨by decide, B_46⟩ ⟨by omega, by omega⟩ ?_
            refine gc_st hI57 S_46 rfl R_46 (lo := 0) (hi := 95) rfl rfl (by omega) (by omega) (fun I84 hI84 q85 p85 => ?_)
            have FI84 := gc_frs (W := fun q j => (q = 39 ∧ j = 3) ∨ (q = 39 ∧ j = 4) ∨ (q = 23 ∧ j = 5) ∨ (q = 23 ∧ j = 6) ∨ (q = 23 ∧ j = 7) ∨ (q = 23 ∧ j = 8) ∨ q = a1 ∨ q = 46 ∨ q = 47) FI57 (Or.inr (Or.inr (Or.inr (Or.inr (Or.inr (Or.inr (Or.inr (Or.inl rfl)))))))) p85
            have t86 := p85 23 1 (fun h => absurd h.1 (by omega))
            have t87 := p85 23 5 (fun h => absurd h.1 (by omega))
            have t88 := p85 23 6 (fun h => absurd h.1 (by omega))
            have t89 := p85 23 7 (fun h => absurd h.1 (by omega))
            have t90 := p85 4 1 (fun h => absurd h.1 (by omega))
            have f91 := (show 0 ≤ I84 23 1 ∧ I84 23 1 ≤ 1000 from gc_in hI84 R_23 rfl rfl)
            have f92 := (show 0 ≤ I84 23 5 ∧ I84 23 5 ≤ 1000 from gc_in hI84 R_23 rfl rfl)
            have f93 := (show 0 ≤ I84 23 6 ∧ I84 23 6 ≤ 1001 from gc_in hI84 R_23 rfl rfl)
            have f94 := (show 0 ≤ I84 23 7 ∧ I84 23 7 ≤ 125 from gc_in hI84 R_23 rfl rfl)
            have f95 := (show 0 ≤ I84 4 1 ∧ I84 4 1 ≤ 96 from gc_in hI84 R_4 rfl rfl)
            have KLT_I84 := gc_LT_fr KLT_I57 (p85 23 5 (fun h => absurd h.1 (by omega))) (p85 23 6 (fun h => absurd h.1 (by omega))) (p85 23 7 (fun h => absurd h.1 (by omega))) (fun k => p85 24 k (fun h => absurd h.1 (by omega)))
            show gv_X _ _ (144, [(2, .inl (v2_8 + 1)), (0, .inr (.inr (some 39))), (1, .inr (.inr (some a1))), (3, .inl v3_8), (4, .inl v4_21)], [], sh, gc_h sh I84 J58 A)
            refine gv_run 1 true hD (pc' := 145) (lv' := [(2, .inl (v2_8 + 1)), (0, .inr (.inr (some 39))), (1, .inr (.inr (some a1))), (3, .inl v3_8), (4, .inl v4_21)]) (st' := [.inr (.inr (some 39))]) (h' := gc_h sh I84 J58 A) (C := (True ∧ True)) rfl ⟨trivial, trivial⟩ ?_
            refine gv_get hD rfl rfl S_39 ⟨by decide, B_39⟩ (gc_hA S_39 rfl A_39_18) ?_
            show gv_X _ _ (148, [(2, .inl (v2_8 + 1)), (0, .inr (.inr (some 39))), (1, .inr (.inr (some a1))), (3, .inl v3_8), (4, .inl v4_21)], [.inr (.inr (some 47))], sh, gc_h sh I84 J58 A)
            refine gv_run 2 true hD (pc' := 150) (lv' := [(2, .inl (v2_8 + 1)), (0, .inr (.inr (some 39))), (1, .inr (.inr (some a1))), (3, .inl v3_8), (4, .inl v4_21)]) (st' := [.inl 0, .inl v3_8, .inr (.inr (some 47))]) (h' := gc_h sh I84 J58 A) (C := ((True ∧ True) ∧ True)) rfl ⟨⟨trivial, trivial⟩, trivial⟩ ?_
            refine gv_iast hD rfl S_47 ⟨by decide, B_47⟩ ⟨by omega, by omega⟩ ?_
            refine gc_st hI84 S_47 rfl R_47 (lo := (-2147483648)) (hi := 2147483647) rfl rfl (by omega) (by omega) (fun I96 hI96 q97 p97 => ?_)
            have FI96 := gc_frs (W := fun q j => (q = 39 ∧ j = 3) ∨ (q = 39 ∧ j = 4) ∨ (q = 23 ∧ j = 5) ∨ (q = 23 ∧ j = 6) ∨ (q = 23 ∧ j = 7) ∨ (q = 23 ∧ j = 8) ∨ q = a1 ∨ q = 46 ∨ q = 47) FI84 (Or.inr (Or.inr (Or.inr (Or.inr (Or.inr (Or.inr (Or.inr (Or.inr rfl)))))))) p97
            have t98 := p97 23 1 (fun h => absurd h.1 (by omega))
            have t99 := p97 23 5 (fun h => absurd h.1 (by omega))
            have t100 := p97 23 6 (fun h => absurd h.1 (by omega))
            have t101 := p97 23 7 (fun h => absurd h.1 (by omega))
            have t102 := p97 4 1 (fun h => absurd h.1 (by omega))
            have f103 := (show 0 ≤ I96 23 1 ∧ I96 23 1 ≤ 1000 from gc_in hI96 R_23 rfl rfl)
            have f104 := (show 0 ≤ I96 23 5 ∧ I96 23 5 ≤ 1000 from gc_in hI96 R_23 rfl rfl)
            have f105 := (show 0 ≤ I96 23 6 ∧ I96 23 6 ≤ 1001 from gc_in hI96 R_23 rfl rfl)
            have f106 := (show 0 ≤ I96 23 7 ∧ I96 23 7 ≤ 125 from gc_in hI96 R_23 rfl rfl)
            have f107 := (show 0 ≤ I96 4 1 ∧ I96 4 1 ≤ 96 from gc_in hI96 R_4 rfl rfl)
            have KLT_I96 := gc_LT_fr KLT_I84 (p97 23 5 (fun h => absurd h.1 (by omega))) (p97 23 6 (fun h => absurd h.1 (by omega))) (p97 23 7 (fun h => absurd h.1 (by omega))) (fun k => p97 24 k (fun h => absurd h.1 (by omega)))
            show gv_X _ _ (151, [(2, .inl (v2_8 + 1)), (0, .inr (.inr (some 39))), (1, .inr (.inr (some a1))), (3, .inl v3_8), (4, .inl v4_21)], [], sh, gc_h sh I96 J58 A)
            refine gv_run 2 true hD (pc' := 155) (lv' := [(3, .inl (v3_8 + 1)), (2, .inl (v2_8 + 1)), (0, .inr (.inr (some 39))), (1, .inr (.inr (some a1))), (4, .inl v4_21)]) (st' := [.inr (.inr (some 39))]) (h' := gc_h sh I96 J58 A) (C := ((True ∧ True) ∧ True)) rfl ⟨⟨trivial, trivial⟩, trivial⟩ ?_
            refine gv_get hD rfl rfl S_39 ⟨by decide, B_39⟩ (gc_hA S_39 rfl A_39_1) ?_
            show gv_X _ _ (158, [(3, .inl (v3_8 + 1)), (2, .inl (v2_8 + 1)), (0, .inr (.inr (some 39))), (1, .inr (.inr (some a1))), (4, .inl v4_21)], [.inr (.inr (some 23))], sh, gc_h sh I96 J58 A)
            obtain ⟨r108, h108, E108, P108⟩ := d_X9_advance (ws0 := ws0) (tb := tb) hws htb sh ro I96 J58 A hI96 23  (gc_b23 hb)    (by omega) 
            obtain ⟨I109, J110, rfl, hI109, g108, k108, ⟨rfl, q108⟩⟩ := P108
            have FI109 := gc_frc (W := fun q j => (q = 39 ∧ j = 3) ∨ (q = 39 ∧ j = 4) ∨ (q = 23 ∧ j = 5) ∨ (q = 23 ∧ j = 6) ∨ (q = 23 ∧ j = 7) ∨ (q = 23 ∧ j = 8) ∨ q = a1 ∨ q = 46 ∨ q = 47) (V := fun q j => (q = 23 ∧ j = 5) ∨ (q = 23 ∧ j = 6) ∨ (q = 23 ∧ j = 7) ∨ (q = 23 ∧ j = 8)) FI96 (fun q j h => (h.elim (fun h => (Or.inr (Or.inr (Or.inl h)))) (fun h => (h.elim (fun h => (Or.inr (Or.inr (Or.inr (Or.inl h))))) (fun h => (h.elim (fun h => (Or.inr (Or.inr (Or.inr (Or.inr (Or.inl h)))))) (fun h => (Or.inr (Or.inr (Or.inr (Or.inr (Or.inr (Or.inl h))))))))))))) g108
            have FJ110 := gc_frc (W := fun q j => (q = 23 ∧ j = 9)) (V := fun q j => (q = 23 ∧ j = 9)) FJ58 (fun q j h => h) k108
            have t111 := (g108 23 1).resolve_left (by omega)
            have t112 := (g108 4 1).resolve_left (by omega)
            have f113 := (show 0 ≤ I109 23 1 ∧ I109 23 1 ≤ 1000 from gc_in hI109 R_23 rfl rfl)
            have f114 := (show 0 ≤ I109 23 5 ∧ I109 23 5 ≤ 1000 from gc_in hI109 R_23 rfl rfl)
            have f115 := (show 0 ≤ I109 23 6 ∧ I109 23 6 ≤ 1001 from gc_in hI109 R_23 rfl rfl)
            have f116 := (show 0 ≤ I109 23 7 ∧ I109 23 7 ≤ 125 from gc_in hI109 R_23 rfl rfl)
            have f117 := (show 0 ≤ I109 4 1 ∧ I109 4 1 ≤ 96 from gc_in hI109 R_4 rfl rfl)
            have KLT_I109 : gc_LT I109 := q108.2.2.2.2.2.2.2
            refine gv_callV hD rfl (As := []) (st := []) rfl B_23 S_23 rfl (gc_lV6 hws rfl) (Nat.le_of_ble_eq_true rfl) (gz_Ev_mono (d := 2) (by decide) E108) ?_
            show gv_X _ _ (161, [(3, .inl (v3_8 + 1)), (2, .inl (v2_8 + 1)), (0, .inr (.inr (some 39))), (1, .inr (.inr (some a1))), (4, .inl v4_21)], [], sh, gc_h sh I109 J110 A)
            refine gv_run 1 true hD (pc' := 11) (lv' := [(3, .inl (v3_8 + 1)), (2, .inl (v2_8 + 1)), (0, .inr (.inr (some 39))), (1, .inr (.inr (some a1))), (4, .inl v4_21)]) (st' := []) (h' := gc_h sh I109 J110 A) (C := (True ∧ True)) rfl ⟨trivial, trivial⟩ ?_
            refine gv_pick [2, 3, 1, 0] rfl ?_
            exact ih11 I109 J110 (v2_8 + 1) (v3_8 + 1) (by omega) hI109 FI109 FJ110 KLT_I109 (by omega) (fun k hk => by have h4 : I109 46 (Int.toNat v3_8) = v4_21 := (((g108 46 (Int.toNat v3_8)).resolve_left (by omega)).trans (p97 46 (Int.toNat v3_8) (fun h => absurd h.1 (by omega)))).trans q85; have h5 : I109 47 (Int.toNat v3_8) = 0 := ((g108 47 (Int.toNat v3_8)).resolve_left (by omega)).trans q97; have h7 : I109 12 (Int.toNat v4_21) = I57 12 (Int.toNat v4_21) := ((((g108 12 (Int.toNat v4_21)).resolve_left (by omega)).trans (p97 12 (Int.toNat v4_21) (fun h => absurd h.1 (by omega)))).trans (p85 12 (Int.toNat v4_21) (fun h => absurd h.1 (by omega)))); exact (if hkk : k = Int.toNat v3_8 then (by rw [hkk, h4, h5]; omega) else (gc_SE_fr (n := v3_8) e0_8 (fun k hk => ((((((g108 47 k).resolve_left (by omega)).trans (p97 47 k (fun h => by have := h.2; omega))).trans (p85 47 k (fun h => absurd h.1 (by omega)))).trans ((g56 47 k).resolve_left (by omega))).trans (p45 47 k (fun h => absurd h.1 (by omega))))) (fun k hk => ((((((g108 46 k).resolve_left (by omega)).trans (p97 46 k (fun h => absurd h.1 (by omega)))).trans (p85 46 k (fun h => by have := h.2; omega))).trans ((g56 46 k).resolve_left (by omega))).trans (p45 46 k (fun h => absurd h.1 (by omega))))) (fun k => ((((((g108 12 k).resolve_left (by omega)).trans (p97 12 k (fun h => absurd h.1 (by omega)))).trans (p85 12 k (fun h => absurd h.1 (by omega)))).trans ((g56 12 k).resolve_left (by omega))).trans (p45 12 k (fun h => absurd h.1 (by omega))))) k (by omega)))) (by have h1 := gc_op_fr (I := I6) (I' := I109) (T := a1) (n := Int.toNat v2_8) (fun k hk => ((((((g108 a1 k).resolve_left (by omega)).trans (p97 a1 k (fun h => absurd h.1 (by omega)))).trans (p85 a1 k (fun h => absurd h.1 (by omega)))).trans ((g56 a1 k).resolve_left (by omega))).trans (p45 a1 k (fun h => by have := h.2; omega)))) (fun k => ((((((g108 12 k).resolve_left (by omega)).trans (p97 12 k (fun h => absurd h.1 (by omega)))).trans (p85 12 k (fun h => absurd h.1 (by omega)))).trans ((g56 12 k).resolve_left (by omega))).trans (p45 12 k (fun h => absurd h.1 (by omega))))); have h2 := gc_ss_fr (I := I6) (I' := I109) (d := Int.toNat v3_8) (fun k hk => ((((((g108 47 k).resolve_left (by omega)).trans (p97 47 k (fun h => by have := h.2; omega))).trans (p85 47 k (fun h => absurd h.1 (by omega)))).trans ((g56 47 k).resolve_left (by omega))).trans (p45 47 k (fun h => absurd h.1 (by omega))))) (fun k hk => ((((((g108 46 k).resolve_left (by omega)).trans (p97 46 k (fun h => absurd h.1 (by omega)))).trans (p85 46 k (fun h => by have := h.2; omega))).trans ((g56 46 k).resolve_left (by omega))).trans (p45 46 k (fun h => absurd h.1 (by omega))))) (fun k => ((((((g108 12 k).resolve_left (by omega)).trans (p97 12 k (fun h => absurd h.1 (by omega)))).trans (p85 12 k (fun h => absurd h.1 (by omega)))).trans ((g56 12 k).resolve_left (by omega))).trans (p45 12 k (fun h => absurd h.1 (by omega))))); have h3 : I109 a1 (Int.toNat v2_8) = v4_21 := (((((g108 a1 (Int.toNat v2_8)).resolve_left (by omega)).trans (p97 a1 (Int.toNat v2_8) (fun h => absurd h.1 (by omega)))).trans (p85 a1 (Int.toNat v2_8) (fun h => absurd h.1 (by omega)))).trans ((g56 a1 (Int.toNat v2_8)).resolve_left (by omega))).trans q45; have h4 : I109 46 (Int.toNat v3_8) = v4_21 := (((g108 46 (Int.toNat v3_8)).resolve_left (by omega)).trans (p97 46 (Int.toNat v3_8) (fun h => absurd h.1 (by omega)))).trans q85; have h5 : I109 47 (Int.toNat v3_8) = 0 := ((g108 47 (Int.toNat v3_8)).resolve_left (by omega)).trans q97; have h7 : I109 12 (Int.toNat v4_21) = I57 12 (Int.toNat v4_21) := ((((g108 12 (Int.toNat v4_21)).resolve_left (by omega)).trans (p97 12 (Int.toNat v4_21) (fun h => absurd h.1 (by omega)))).trans (p85 12 (Int.toNat v4_21) (fun h => absurd h.1 (by omega)))); have h6 := e1_8; rw [show Int.toNat (v2_8 + 1) = Int.toNat v2_8 + 1 from by omega, show Int.toNat (v3_8 + 1) = Int.toNat v3_8 + 1 from by omega]; show gc_op I109 a1 (Int.toNat v2_8) - 1 + I109 12 (Int.toNat (I109 a1 (Int.toNat v2_8))) = 1 + (gc_ss I109 (Int.toNat v3_8) + (I109 12 (Int.toNat (I109 46 (Int.toNat v3_8))) - I109 47 (Int.toNat v3_8) - 1)); rw [h3, h4]; omega) (fun k hk => by have h1 := gc_ss_nn (I := I6) (d := Int.toNat v3_8) (fun j hj => e0_8 j (by omega)); have h2 := e1_8; exact (if hkk : k = Int.toNat v2_8 then (by rw [hkk, gc_op_fr (I := I6) (I' := I109) (T := a1) (n := Int.toNat v2_8) (fun k hk => ((((((g108 a1 k).resolve_left (by omega)).trans (p97 a1 k (fun h => absurd h.1 (by omega)))).trans (p85 a1 k (fun h => absurd h.1 (by omega)))).trans ((g56 a1 k).resolve_left (by omega))).trans (p45 a1 k (fun h => by have := h.2; omega)))) (fun k => ((((((g108 12 k).resolve_left (by omega)).trans (p97 12 k (fun h => absurd h.1 (by omega)))).trans (p85 12 k (fun h => absurd h.1 (by omega)))).trans ((g56 12 k).resolve_left (by omega))).trans (p45 12 k (fun h => absurd h.1 (by omega)))))]; omega) else (by rw [gc_op_fr (I := I6) (I' := I109) (T := a1) (n := k) (fun k hk => ((((((g108 a1 k).resolve_left (by omega)).trans (p97 a1 k (fun h => absurd h.1 (by omega)))).trans (p85 a1 k (fun h => absurd h.1 (by omega)))).trans ((g56 a1 k).resolve_left (by omega))).trans (p45 a1 k (fun h => by have := h.2; omega)))) (fun k => ((((((g108 12 k).resolve_left (by omega)).trans (p97 12 k (fun h => absurd h.1 (by omega)))).trans (p85 12 k (fun h => absurd h.1 (by omega)))).trans ((g56 12 k).resolve_left (by omega))).trans (p45 12 k (fun h => absurd h.1 (by omega)))))]; exact e2_8 k (by omega))))
          · show gv_X _ _ (126, [(2, .inl (v2_8 + 1)), (0, .inr (.inr (some 39))), (1, .inr (.inr (some a1))), (3, .inl v3_8), (4, .inl v4_21)], [], sh, gc_h sh I57 J58 A)
            refine gv_run 2 true hD (pc' := 128) (lv' := [(2, .inl (v2_8 + 1)), (0, .inr (.inr (some 39))), (1, .inr (.inr (some a1))), (3, .inl v3_8), (4, .inl v4_21)]) (st' := [.inr (.inr (some 39)), .inl (-1)]) (h' := gc_h sh I57 J58 A) (C := ((True ∧ True) ∧ True)) rfl ⟨⟨trivial, trivial⟩, trivial⟩ ?_
            refine gv_get hD rfl rfl S_39 ⟨by decide, B_39⟩ (gc_hA S_39 rfl A_39_1) ?_
            show gv_X _ _ (131, [(2, .inl (v2_8 + 1)), (0, .inr (.inr (some 39))), (1, .inr (.inr (some a1))), (3, .inl v3_8), (4, .inl v4_21)], [.inr (.inr (some 23)), .inl (-1)], sh, gc_h sh I57 J58 A)
            have f118 := (show 0 ≤ I57 23 5 ∧ I57 23 5 ≤ 1000 from gc_in hI57 R_23 rfl rfl)
            refine gv_get hD rfl rfl S_23 ⟨by decide, B_23⟩ (gc_hI S_23 rfl) ?_
            show gv_X _ _ (134, [(2, .inl (v2_8 + 1)), (0, .inr (.inr (some 39))), (1, .inr (.inr (some a1))), (3, .inl v3_8), (4, .inl v4_21)], [.inl (I57 23 5), .inl (-1)], sh, gc_h sh I57 J58 A)
            refine gv_run 1 true hD (pc' := 135) (lv' := [(2, .inl (v2_8 + 1)), (0, .inr (.inr (some 39))), (1, .inr (.inr (some a1))), (3, .inl v3_8), (4, .inl v4_21)]) (st' := [.inl ((-1) - (I57 23 5))]) (h' := gc_h sh I57 J58 A) (C := (True ∧ True)) rfl ⟨trivial, trivial⟩ ?_
            exact gv_iret hD rfl ⟨I57, J58, rfl, hI57, FI57, FJ58, ⟨_, rfl, by omega, by omega, by omega, by omega, by omega, by omega, by omega, by omega, (Or.inl (by omega)), by omega⟩⟩
      have L206 : ((I6 23 5 ≤ I6 23 6) ∧ (I6 23 7 = 5 ∨ I6 23 6 ≤ I6 23 1) ∧ (I6 23 5 ≤ I6 23 1) ∧ (I6 23 7 = 4 ∨ (I6 23 5 < I6 23 6 ∧ I6 23 5 < I6 23 1)) ∧ (I6 23 7 = 3 → 2 ≤ I6 23 6 - I6 23 5 ∧ I6 23 6 - I6 23 5 ≤ 14) ∧ (I6 23 1 = I 23 1)) → gv_X (gc_E6 ws0 tb 3 (yX6_readTree, cX6_readTree, 5, (some .int)) kX6_readTree) (gv_Q cX6_readTree (some .int) sh (fun r h' => (∃ (I' : gr_I) (J' : gr_J), h' = gc_h sh I' J' A ∧ gc_Inv ro I' ∧ (∀ q j : Nat, ((q = 39 ∧ j = 3) ∨ (q = 39 ∧ j = 4) ∨ (q = 23 ∧ j = 5) ∨ (q = 23 ∧ j = 6) ∨ (q = 23 ∧ j = 7) ∨ (q = 23 ∧ j = 8) ∨ q = a1 ∨ q = 46 ∨ q = 47) ∨ I' q j = I q j) ∧ (∀ q j : Nat, ((q = 23 ∧ j = 9)) ∨ J' q j = J q j) ∧ (∃ z : Int, r = some (.inl z) ∧ (-1001) ≤ z ∧ z ≤ 60 ∧ (I' 23 5 ≤ I' 23 6) ∧ (I' 23 7 = 5 ∨ I' 23 6 ≤ I' 23 1) ∧ (I' 23 5 ≤ I' 23 1) ∧ (I' 23 7 = 4 ∨ (I' 23 5 < I' 23 6 ∧ I' 23 5 < I' 23 1)) ∧ (I' 23 7 = 3 → 2 ≤ I' 23 6 - I' 23 5 ∧ I' 23 6 - I' 23 5 ≤ 14) ∧ (I' 23 1 = I 23 1) ∧ (z ≤ 0 ∨ gc_wt I' a1 z) ∧ (z ≤ 60))))) (206, [(0, .inr (.inr (some 39)))], [], sh, gc_h sh I6 J7 A) := by
        intro m_119
        obtain ⟨e0_119, e1_119, e2_119, e3_119, e4_119, e5_119⟩ := m_119
        have f120 := (show 0 ≤ I6 23 1 ∧ I6 23 1 ≤ 1000 from gc_in hI6 R_23 rfl rfl)
        have f121 := (show 0 ≤ I6 23 5 ∧ I6 23 5 ≤ 1000 from gc_in hI6 R_23 rfl rfl)
        have f122 := (show 0 ≤ I6 23 6 ∧ I6 23 6 ≤ 1001 from gc_in hI6 R_23 rfl rfl)
        have f123 := (show 0 ≤ I6 23 7 ∧ I6 23 7 ≤ 125 from gc_in hI6 R_23 rfl rfl)
        have f124 := (show 0 ≤ I6 4 1 ∧ I6 4 1 ≤ 96 from gc_in hI6 R_4 rfl rfl)
        refine gv_run 2 true hD (pc' := 208) (lv' := [(0, .inr (.inr (some 39)))]) (st' := [.inr (.inr (some 39)), .inl (-1)]) (h' := gc_h sh I6 J7 A) (C := ((True ∧ True) ∧ True)) rfl ⟨⟨trivial, trivial⟩, trivial⟩ ?_
        refine gv_get hD rfl rfl S_39 ⟨by decide, B_39⟩ (gc_hA S_39 rfl A_39_1) ?_
        show gv_X _ _ (211, [(0, .inr (.inr (some 39)))], [.inr (.inr (some 23)), .inl (-1)], sh, gc_h sh I6 J7 A)
        have f125 := (show 0 ≤ I6 23 5 ∧ I6 23 5 ≤ 1000 from gc_in hI6 R_23 rfl rfl)
        refine gv_get hD rfl rfl S_23 ⟨by decide, B_23⟩ (gc_hI S_23 rfl) ?_
        show gv_X _ _ (214, [(0, .inr (.inr (some 39)))], [.inl (I6 23 5), .inl (-1)], sh, gc_h sh I6 J7 A)
        refine gv_run 1 true hD (pc' := 215) (lv' := [(0, .inr (.inr (some 39)))]) (st' := [.inl ((-1) - (I6 23 5))]) (h' := gc_h sh I6 J7 A) (C := (True ∧ True)) rfl ⟨trivial, trivial⟩ ?_
        exact gv_iret hD rfl ⟨I6, J7, rfl, hI6, FI6, FJ7, ⟨_, rfl, by omega, by omega, by omega, by omega, by omega, by omega, by omega, by omega, (Or.inl (by omega)), by omega⟩⟩
      refine gv_run 2 true hD (pc' := 14) (lv' := [(0, .inr (.inr (some 39))), (1, .inr (.inr (some a1))), (2, .inl v2_8), (3, .inl v3_8)]) (st' := [.inl 60, .inl v2_8]) (h' := gc_h sh I6 J7 A) (C := ((True ∧ True) ∧ True)) rfl ⟨⟨trivial, trivial⟩, trivial⟩ ?_
      refine gv_icmp_ge (t := 206) hD rfl rfl ⟨⟨by omega, by omega⟩, ⟨by omega, by omega⟩⟩ (fun c126 => ?_) (fun c126 => ?_)
      · show gv_X _ _ (206, [(0, .inr (.inr (some 39))), (1, .inr (.inr (some a1))), (2, .inl v2_8), (3, .inl v3_8)], [], sh, gc_h sh I6 J7 A)
        refine gv_pick [0] rfl ?_
        exact L206 (by omega)
      · show gv_X _ _ (17, [(0, .inr (.inr (some 39))), (1, .inr (.inr (some a1))), (2, .inl v2_8), (3, .inl v3_8)], [], sh, gc_h sh I6 J7 A)
        refine gv_run 1 true hD (pc' := 18) (lv' := [(0, .inr (.inr (some 39))), (1, .inr (.inr (some a1))), (2, .inl v2_8), (3, .inl v3_8)]) (st' := [.inr (.inr (some 39))]) (h' := gc_h sh I6 J7 A) (C := (True ∧ True)) rfl ⟨trivial, trivial⟩ ?_
        refine gv_get hD rfl rfl S_39 ⟨by decide, B_39⟩ (gc_hA S_39 rfl A_39_1) ?_
        show gv_X _ _ (21, [(0, .inr (.inr (some 39))), (1, .inr (.inr (some a1))), (2, .inl v2_8), (3, .inl v3_8)], [.inr (.inr (some 23))], sh, gc_h sh I6 J7 A)
        have f127 := (show 0 ≤ I6 23 7 ∧ I6 23 7 ≤ 125 from gc_in hI6 R_23 rfl rfl)
        refine gv_get hD rfl rfl S_23 ⟨by decide, B_23⟩ (gc_hI S_23 rfl) ?_
        show gv_X _ _ (24, [(0, .inr (.inr (some 39))), (1, .inr (.inr (some a1))), (2, .inl v2_8), (3, .inl v3_8)], [.inl (I6 23 7)], sh, gc_h sh I6 J7 A)
        refine gv_run 1 true hD (pc' := 25) (lv' := [(0, .inr (.inr (some 39))), (1, .inr (.inr (some a1))), (2, .inl v2_8), (3, .inl v3_8)]) (st' := [.inl 1, .inl (I6 23 7)]) (h' := gc_h sh I6 J7 A) (C := (True ∧ True)) rfl ⟨trivial, trivial⟩ ?_
        refine gv_icmp_ne (t := 206) hD rfl rfl ⟨⟨by omega, by omega⟩, ⟨by omega, by omega⟩⟩ (fun c128 => ?_) (fun c128 => ?_)
        · show gv_X _ _ (206, [(0, .inr (.inr (some 39))), (1, .inr (.inr (some a1))), (2, .inl v2_8), (3, .inl v3_8)], [], sh, gc_h sh I6 J7 A)
          refine gv_pick [0] rfl ?_
          exact L206 (by omega)
        · show gv_X _ _ (28, [(0, .inr (.inr (some 39))), (1, .inr (.inr (some a1))), (2, .inl v2_8), (3, .inl v3_8)], [], sh, gc_h sh I6 J7 A)
          refine gv_run 1 true hD (pc' := 29) (lv' := [(0, .inr (.inr (some 39))), (1, .inr (.inr (some a1))), (2, .inl v2_8), (3, .inl v3_8)]) (st' := [.inr (.inr (some 39))]) (h' := gc_h sh I6 J7 A) (C := (True ∧ True)) rfl ⟨trivial, trivial⟩ ?_
          refine gv_get hD rfl rfl S_39 ⟨by decide, B_39⟩ (gc_hA S_39 rfl A_39_0) ?_
          show gv_X _ _ (32, [(0, .inr (.inr (some 39))), (1, .inr (.inr (some a1))), (2, .inl v2_8), (3, .inl v3_8)], [.inr (.inr (some 1))], sh, gc_h sh I6 J7 A)
          refine gv_get hD rfl rfl S_1 ⟨by decide, B_1⟩ (gc_hA S_1 rfl A_1_1) ?_
          show gv_X _ _ (35, [(0, .inr (.inr (some 39))), (1, .inr (.inr (some a1))), (2, .inl v2_8), (3, .inl v3_8)], [.inr (.inr (some 4))], sh, gc_h sh I6 J7 A)
          refine gv_run 1 true hD (pc' := 36) (lv' := [(0, .inr (.inr (some 39))), (1, .inr (.inr (some a1))), (2, .inl v2_8), (3, .inl v3_8)]) (st' := [.inr (.inr (some 39)), .inr (.inr (some 4))]) (h' := gc_h sh I6 J7 A) (C := (True ∧ True)) rfl ⟨trivial, trivial⟩ ?_
          refine gv_get hD rfl rfl S_39 ⟨by decide, B_39⟩ (gc_hA S_39 rfl A_39_1) ?_
          show gv_X _ _ (39, [(0, .inr (.inr (some 39))), (1, .inr (.inr (some a1))), (2, .inl v2_8), (3, .inl v3_8)], [.inr (.inr (some 23)), .inr (.inr (some 4))], sh, gc_h sh I6 J7 A)
          refine gv_get hD rfl rfl S_23 ⟨by decide, B_23⟩ (gc_hJ S_23 rfl) ?_
          show gv_X _ _ (42, [(0, .inr (.inr (some 39))), (1, .inr (.inr (some a1))), (2, .inl v2_8), (3, .inl v3_8)], [.inr (.inl (J7 23 9)), .inr (.inr (some 4))], sh, gc_h sh I6 J7 A)
          obtain ⟨r129, h129, E129, P129⟩ := d_X4_find (ws0 := ws0) (tb := tb) hws htb sh ro I6 J7 A hI6 4 96 11 (J7 23 9) (gc_b4 hb)     
          obtain ⟨rfl, ⟨z129, rfl, q129⟩⟩ := P129
          refine gv_callV hD rfl (As := [.inr (.inl (J7 23 9))]) (st := []) rfl B_4 S_4 rfl (gc_lV6 hws rfl) (Nat.le_of_ble_eq_true rfl) (gz_Ev_mono (d := 1) (by decide) E129) ?_
          show gv_X _ _ (45, [(0, .inr (.inr (some 39))), (1, .inr (.inr (some a1))), (2, .inl v2_8), (3, .inl v3_8)], [.inl z129], sh, gc_h sh I6 J7 A)
          refine gv_run 2 true hD (pc' := 49) (lv' := [(4, .inl z129), (0, .inr (.inr (some 39))), (1, .inr (.inr (some a1))), (2, .inl v2_8), (3, .inl v3_8)]) (st' := [.inl z129]) (h' := gc_h sh I6 J7 A) (C := ((True ∧ True) ∧ True)) rfl ⟨⟨trivial, trivial⟩, trivial⟩ ?_
          refine gv_if_lt (t := 76) hD rfl rfl ⟨by omega, by omega⟩ (fun c130 => ?_) (fun c130 => ?_)
          · show gv_X _ _ (76, [(4, .inl z129), (0, .inr (.inr (some 39))), (1, .inr (.inr (some a1))), (2, .inl v2_8), (3, .inl v3_8)], [], sh, gc_h sh I6 J7 A)
            refine gv_pick [1] rfl ?_
            exact L76 (by omega)
          · show gv_X _ _ (52, [(4, .inl z129), (0, .inr (.inr (some 39))), (1, .inr (.inr (some a1))), (2, .inl v2_8), (3, .inl v3_8)], [], sh, gc_h sh I6 J7 A)
            refine gv_run 1 true hD (pc' := 53) (lv' := [(4, .inl z129), (0, .inr (.inr (some 39))), (1, .inr (.inr (some a1))), (2, .inl v2_8), (3, .inl v3_8)]) (st' := [.inl v3_8]) (h' := gc_h sh I6 J7 A) (C := (True ∧ True)) rfl ⟨trivial, trivial⟩ ?_
            refine gv_if_le (t := 86) hD rfl rfl ⟨by omega, by omega⟩ (fun c131 => ?_) (fun c131 => ?_)
            · show gv_X _ _ (86, [(4, .inl z129), (0, .inr (.inr (some 39))), (1, .inr (.inr (some a1))), (2, .inl v2_8), (3, .inl v3_8)], [], sh, gc_h sh I6 J7 A)
              refine gv_pick [1, 2, 3, 4, 0] rfl ?_
              exact L86 z129 (by omega)
            · show gv_X _ _ (56, [(4, .inl z129), (0, .inr (.inr (some 39))), (1, .inr (.inr (some a1))), (2, .inl v2_8), (3, .inl v3_8)], [], sh, gc_h sh I6 J7 A)
              refine gv_run 1 true hD (pc' := 57) (lv' := [(4, .inl z129), (0, .inr (.inr (some 39))), (1, .inr (.inr (some a1))), (2, .inl v2_8), (3, .inl v3_8)]) (st' := [.inr (.inr (some 39))]) (h' := gc_h sh I6 J7 A) (C := (True ∧ True)) rfl ⟨trivial, trivial⟩ ?_
              refine gv_get hD rfl rfl S_39 ⟨by decide, B_39⟩ (gc_hA S_39 rfl A_39_0) ?_
              show gv_X _ _ (60, [(4, .inl z129), (0, .inr (.inr (some 39))), (1, .inr (.inr (some a1))), (2, .inl v2_8), (3, .inl v3_8)], [.inr (.inr (some 1))], sh, gc_h sh I6 J7 A)
              refine gv_get hD rfl rfl S_1 ⟨by decide, B_1⟩ (gc_hA S_1 rfl A_1_6) ?_
              show gv_X _ _ (63, [(4, .inl z129), (0, .inr (.inr (some 39))), (1, .inr (.inr (some a1))), (2, .inl v2_8), (3, .inl v3_8)], [.inr (.inr (some 11))], sh, gc_h sh I6 J7 A)
              refine gv_run 1 true hD (pc' := 65) (lv' := [(4, .inl z129), (0, .inr (.inr (some 39))), (1, .inr (.inr (some a1))), (2, .inl v2_8), (3, .inl v3_8)]) (st' := [.inl z129, .inr (.inr (some 11))]) (h' := gc_h sh I6 J7 A) (C := (True ∧ True)) rfl ⟨trivial, trivial⟩ ?_
              have f132 := (show 0 ≤ I6 11 (Int.toNat z129) ∧ I6 11 (Int.toNat z129) ≤ 31 from gc_in hI6 R_11 rfl rfl)
              refine gv_iald hD rfl S_11 rfl ⟨by decide, B_11⟩ ⟨by omega, by omega⟩ (gc_iI S_11 rfl) ?_
              show gv_X _ _ (66, [(4, .inl z129), (0, .inr (.inr (some 39))), (1, .inr (.inr (some a1))), (2, .inl v2_8), (3, .inl v3_8)], [.inl (I6 11 (Int.toNat z129))], sh, gc_h sh I6 J7 A)
              have t133 := e0_8 (Int.toNat (v3_8 - 1)) (by omega)
              refine gv_run 4 true hD (pc' := 70) (lv' := [(4, .inl z129), (0, .inr (.inr (some 39))), (1, .inr (.inr (some a1))), (2, .inl v2_8), (3, .inl v3_8)]) (st' := [.inl (v3_8 - 1), .inr (.inr (some 39)), .inl (I6 11 (Int.toNat z129))]) (h' := gc_h sh I6 J7 A) (C := ((((True ∧ True) ∧ True) ∧ True) ∧ True)) rfl ⟨⟨⟨⟨trivial, trivial⟩, trivial⟩, trivial⟩, trivial⟩ ?_
              obtain ⟨r134, h134, E134, P134⟩ := d_X6_kindWanted (ws0 := ws0) (tb := tb) hws htb sh ro I6 J7 A hI6  (v3_8 - 1) hb   ⟨by omega, by omega⟩ (by omega) 
              obtain ⟨rfl, ⟨z134, rfl, q134⟩⟩ := P134
              refine gv_callV hD rfl (As := [.inl (v3_8 - 1)]) (st := [.inl (I6 11 (Int.toNat z129))]) rfl B_39 S_39 rfl (gc_lV6 hws rfl) (Nat.le_of_ble_eq_true rfl) (gz_Ev_mono (d := 1) (by decide) E134) ?_
              show gv_X _ _ (73, [(4, .inl z129), (0, .inr (.inr (some 39))), (1, .inr (.inr (some a1))), (2, .inl v2_8), (3, .inl v3_8)], [.inl z134, .inl (I6 11 (Int.toNat z129))], sh, gc_h sh I6 J7 A)
              refine gv_icmp_eq (t := 86) hD rfl rfl ⟨⟨by omega, by omega⟩, ⟨by omega, by omega⟩⟩ (fun c135 => ?_) (fun c135 => ?_)
              · show gv_X _ _ (86, [(4, .inl z129), (0, .inr (.inr (some 39))), (1, .inr (.inr (some a1))), (2, .inl v2_8), (3, .inl v3_8)], [], sh, gc_h sh I6 J7 A)
                refine gv_pick [1, 2, 3, 4, 0] rfl ?_
                exact L86 z129 (by omega)
              · show gv_X _ _ (76, [(4, .inl z129), (0, .inr (.inr (some 39))), (1, .inr (.inr (some a1))), (2, .inl v2_8), (3, .inl v3_8)], [], sh, gc_h sh I6 J7 A)
                refine gv_pick [1] rfl ?_
                exact L76 (by omega)
  refine gv_run 1 true hD (pc' := 1) (lv' := [(0, .inr (.inr (some 39))), (1, .inr (.inr (some a1)))]) (st' := [.inr (.inr (some 39))]) (h' := gc_h sh I J A) (C := (True ∧ True)) rfl ⟨trivial, trivial⟩ ?_
  refine gv_get hD rfl rfl S_39 ⟨by decide, B_39⟩ (gc_hA S_39 rfl A_39_1) ?_
  show gv_X _ _ (4, [(0, .inr (.inr (some 39))), (1, .inr (.inr (some a1)))], [.inr (.inr (some 23))], sh, gc_h sh I J A)
  obtain ⟨r136, h136, E136, P136⟩ := d_X9_rewind (ws0 := ws0) (tb := tb) hws htb sh ro I J A hI 23  (gc_b23 hb)     
  obtain ⟨I137, J138, rfl, hI137, g136, k136, ⟨rfl, q136⟩⟩ := P136
  have FI137 := gc_frc (W := fun q j => (q = 39 ∧ j = 3) ∨ (q = 39 ∧ j = 4) ∨ (q = 23 ∧ j = 5) ∨ (q = 23 ∧ j = 6) ∨ (q = 23 ∧ j = 7) ∨ (q = 23 ∧ j = 8) ∨ q = a1 ∨ q = 46 ∨ q = 47) (V := fun q j => (q = 23 ∧ j = 5) ∨ (q = 23 ∧ j = 6) ∨ (q = 23 ∧ j = 7) ∨ (q = 23 ∧ j = 8)) FI (fun q j h => (h.elim (fun h => (Or.inr (Or.inr (Or.inl h)))) (fun h => (h.elim (fun h => (Or.inr (Or.inr (Or.inr (Or.inl h))))) (fun h => (h.elim (fun h => (Or.inr (Or.inr (Or.inr (Or.inr (Or.inl h)))))) (fun h => (Or.inr (Or.inr (Or.inr (Or.inr (Or.inr (Or.inl h))))))))))))) g136
  have FJ138 := gc_frc (W := fun q j => (q = 23 ∧ j = 9)) (V := fun q j => (q = 23 ∧ j = 9)) FJ (fun q j h => h) k136
  have t139 := (g136 23 1).resolve_left (by omega)
  have t140 := (g136 4 1).resolve_left (by omega)
  have f141 := (show 0 ≤ I137 23 1 ∧ I137 23 1 ≤ 1000 from gc_in hI137 R_23 rfl rfl)
  have f142 := (show 0 ≤ I137 23 5 ∧ I137 23 5 ≤ 1000 from gc_in hI137 R_23 rfl rfl)
  have f143 := (show 0 ≤ I137 23 6 ∧ I137 23 6 ≤ 1001 from gc_in hI137 R_23 rfl rfl)
  have f144 := (show 0 ≤ I137 23 7 ∧ I137 23 7 ≤ 125 from gc_in hI137 R_23 rfl rfl)
  have f145 := (show 0 ≤ I137 4 1 ∧ I137 4 1 ≤ 96 from gc_in hI137 R_4 rfl rfl)
  have KLT_I137 : gc_LT I137 := q136.2.2.2.2.2.2
  refine gv_callV hD rfl (As := []) (st := []) rfl B_23 S_23 rfl (gc_lV6 hws rfl) (Nat.le_of_ble_eq_true rfl) (gz_Ev_mono (d := 3) (by decide) E136) ?_
  show gv_X _ _ (7, [(0, .inr (.inr (some 39))), (1, .inr (.inr (some a1)))], [], sh, gc_h sh I137 J138 A)
  refine gv_run 4 true hD (pc' := 11) (lv' := [(3, .inl 0), (2, .inl 0), (0, .inr (.inr (some 39))), (1, .inr (.inr (some a1)))]) (st' := []) (h' := gc_h sh I137 J138 A) (C := ((((True ∧ True) ∧ True) ∧ True) ∧ True)) rfl ⟨⟨⟨⟨trivial, trivial⟩, trivial⟩, trivial⟩, trivial⟩ ?_
  refine gv_pick [2, 3, 1, 0] rfl ?_
  exact L11 _ I137 J138 0 0 (Nat.lt_succ_self _) hI137 FI137 FJ138 KLT_I137 (by omega) (fun k hk => by omega) (show (1 : Int) = 1 + 0 from rfl) (fun k hk => by omega)
