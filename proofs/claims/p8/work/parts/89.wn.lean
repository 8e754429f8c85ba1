set_option maxHeartbeats 8000000 in
set_option maxRecDepth 100000 in
theorem d_X6_readTree_f {ws0 : List Cond} {tb : String → gz_T} (hws : gc_Ws ws0) (htb : gc_tbs tb) (sh : gz_Sh) (ro : Nat → Nat) (I : gr_I) (J : gr_J) (A : gc_A) (hI : gc_Inv ro I) (m : Nat) (a1 : Nat) (hb : gc_Base sh ro A) (S_a1 : sh[a1]? = some (true, 1, m)) (R_a1 : ro a1 = 37) (B_a1 : a1 < 1000000) (M_a1 : m < 2147483648)  (x0 : 115 ≤ a1) (x1 : 60 ≤ m) : ∃ r h', gz_Ev ws0 tb 4 (yX6_readTree, cX6_readTree, 5, (some .int)) [.inr (.inr (some 39)), .inr (.inr (some a1))] sh (gc_h sh I J A) r sh h' 0 0 ∧ (∃ (I' : gr_I) (J' : gr_J), h' = gc_h sh I' J' A ∧ gc_Inv ro I' ∧ (∀ q j : Nat, ((q = 39 ∧ j = 3) ∨ (q = 39 ∧ j = 4) ∨ (q = 23 ∧ j = 5) ∨ (q = 23 ∧ j = 6) ∨ (q = 23 ∧ j = 7) ∨ (q = 23 ∧ j = 8) ∨ q = a1 ∨ q = 46 ∨ q = 47) ∨ I' q j = I q j) ∧ (∀ q j : Nat, ((q = 23 ∧ j = 9)) ∨ J' q j = J q j) ∧ (∃ z : Int, r = some (.inl z) ∧ (-1001) ≤ z ∧ z ≤ 60 ∧ (I' 23 1 = I 23 1) ∧ (z ≤ 0 ∨ gc_wtr I' a1 z) ∧ (z ≤ 60) ∧ (z ≤ 0 ∨ gc_rg a1 I' z 0 (I 4 1 - 1)))) := by
  have FI : ∀ q j : Nat, ((q = 39 ∧ j = 3) ∨ (q = 39 ∧ j = 4) ∨ (q = 23 ∧ j = 5) ∨ (q = 23 ∧ j = 6) ∨ (q = 23 ∧ j = 7) ∨ (q = 23 ∧ j = 8) ∨ q = a1 ∨ q = 46 ∨ q = 47) ∨ I q j = I q j := fun _ _ => Or.inr rfl
  have FJ : ∀ q j : Nat, ((q = 23 ∧ j = 9)) ∨ J q j = J q j := fun _ _ => Or.inr rfl
  have A_1_1 : A 1 1 = some 4 := gc_bA hb rfl
  have A_1_6 : A 1 6 = some 11 := gc_bA hb rfl
  have A_1_7 : A 1 7 = some 12 := gc_bA hb rfl
  have A_39_0 : A 39 0 = some 1 := gc_bA hb rfl
  have A_39_1 : A 39 1 = some 23 := gc_bA hb rfl
  have A_39_17 : A 39 17 = some 46 := gc_bA hb rfl
  have A_39_18 : A 39 18 = some 47 := gc_bA hb rfl
  have B_1 : 1 < 1000000 := by decide
  have B_11 : 11 < 1000000 := by decide
  have B_12 : 12 < 1000000 := by decide
  have B_23 : 23 < 1000000 := by decide
  have B_39 : 39 < 1000000 := by decide
  have B_4 : 4 < 1000000 := by decide
  have B_46 : 46 < 1000000 := by decide
  have B_47 : 47 < 1000000 := by decide
  have R_11 : ro 11 = 25 := gc_bR hb (by decide) rfl
  have R_12 : ro 12 = 26 := gc_bR hb (by decide) rfl
  have R_23 : ro 23 = 3 := gc_bR hb (by decide) rfl
  have R_4 : ro 4 = 11 := gc_bR hb (by decide) rfl
  have R_46 : ro 46 = 37 := gc_bR hb (by decide) rfl
  have R_47 : ro 47 = 0 := gc_bR hb (by decide) rfl
  have S_1 : sh[1]? = some (false, 8, 21) := gc_bS hb rfl
  have S_11 : sh[11]? = some (true, 1, 96) := gc_bS hb rfl
  have S_12 : sh[12]? = some (true, 1, 96) := gc_bS hb rfl
  have S_23 : sh[23]? = some (false, 9, 10) := gc_bS hb rfl
  have S_39 : sh[39]? = some (false, 6, 19) := gc_bS hb rfl
  have S_4 : sh[4]? = some (false, 4, 2) := gc_bS hb rfl
  have S_46 : sh[46]? = some (true, 1, 60) := gc_bS hb rfl
  have S_47 : sh[47]? = some (true, 1, 60) := gc_bS hb rfl
  have hD : gv_D (gc_E6 ws0 tb 3 (yX6_readTree, cX6_readTree, 5, (some .int)) kX6_readTree) := gq_of oX6_readTree
  refine gc_ev6 (d := 3) (l := kX6_readTree) (Po := fun r h' => (∃ (I' : gr_I) (J' : gr_J), h' = gc_h sh I' J' A ∧ gc_Inv ro I' ∧ (∀ q j : Nat, ((q = 39 ∧ j = 3) ∨ (q = 39 ∧ j = 4) ∨ (q = 23 ∧ j = 5) ∨ (q = 23 ∧ j = 6) ∨ (q = 23 ∧ j = 7) ∨ (q = 23 ∧ j = 8) ∨ q = a1 ∨ q = 46 ∨ q = 47) ∨ I' q j = I q j) ∧ (∀ q j : Nat, ((q = 23 ∧ j = 9)) ∨ J' q j = J q j) ∧ (∃ z : Int, r = some (.inl z) ∧ (-1001) ≤ z ∧ z ≤ 60 ∧ (I' 23 1 = I 23 1) ∧ (z ≤ 0 ∨ gc_wtr I' a1 z) ∧ (z ≤ 60) ∧ (z ≤ 0 ∨ gc_rg a1 I' z 0 (I 4 1 - 1))))) htb rfl (Nat.le_of_ble_eq_true rfl) ?_
  have N_23__a1 : ¬ (23 = a1) := by exact gz_m 0 (by omega)
  have N_4__a1 : ¬ (4 = a1) := by exact gz_m 1 (by omega)
  have N_24__a1 : ¬ (24 = a1) := by exact gz_m 2 (by omega)
  have f1 := (show 0 ≤ I 23 1 ∧ I 23 1 ≤ 1000 from gc_in hI R_23 rfl rfl)
  have f2 := (show 0 ≤ I 23 5 ∧ I 23 5 ≤ 1000 from gc_in hI R_23 rfl rfl)
  have f3 := (show 0 ≤ I 23 6 ∧ I 23 6 ≤ 1001 from gc_in hI R_23 rfl rfl)
  have f4 := (show 0 ≤ I 23 7 ∧ I 23 7 ≤ 125 from gc_in hI R_23 rfl rfl)
  have f5 := (show 0 ≤ I 4 1 ∧ I 4 1 ≤ 96 from gc_in hI R_4 rfl rfl)
  have L11 : ∀ (n9 : Nat) (I6 : gr_I) (J7 : gr_J) (v2_8 : Int) (v3_8 : Int), (61 - v2_8).toNat < n9 → gc_Inv ro I6 → (∀ q j : Nat, ((q = 39 ∧ j = 3) ∨ (q = 39 ∧ j = 4) ∨ (q = 23 ∧ j = 5) ∨ (q = 23 ∧ j = 6) ∨ (q = 23 ∧ j = 7) ∨ (q = 23 ∧ j = 8) ∨ q = a1 ∨ q = 46 ∨ q = 47) ∨ I6 q j = I q j) → (∀ q j : Nat, ((q = 23 ∧ j = 9)) ∨ J7 q j = J q j) → gc_LT I6 → gc_TK I6 → ((0 ≤ v2_8 ∧ v2_8 ≤ 60) ∧ (0 ≤ v3_8 ∧ v3_8 ≤ 60) ∧ (v3_8 ≤ v2_8) ∧ (I6 23 1 = I 23 1) ∧ (I6 4 1 = I 4 1)) → (gc_SE I6 v3_8) → (gc_op I6 a1 (Int.toNat v2_8) = 1 + gc_ss I6 (Int.toNat v3_8)) → (gc_pp I6 a1 v2_8) → (gc_rg a1 I6 v2_8 0 (I 4 1 - 1)) → gv_X (gc_E6 ws0 tb 3 (yX6_readTree, cX6_readTree, 5, (some .int)) kX6_readTree) (gv_Q cX6_readTree (some .int) sh (fun r h' => (∃ (I' : gr_I) (J' : gr_J), h' = gc_h sh I' J' A ∧ gc_Inv ro I' ∧ (∀ q j : Nat, ((q = 39 ∧ j = 3) ∨ (q = 39 ∧ j = 4) ∨ (q = 23 ∧ j = 5) ∨ (q = 23 ∧ j = 6) ∨ (q = 23 ∧ j = 7) ∨ (q = 23 ∧ j = 8) ∨ q = a1 ∨ q = 46 ∨ q = 47) ∨ I' q j = I q j) ∧ (∀ q j : Nat, ((q = 23 ∧ j = 9)) ∨ J' q j = J q j) ∧ (∃ z : Int, r = some (.inl z) ∧ (-1001) ≤ z ∧ z ≤ 60 ∧ (I' 23 1 = I 23 1) ∧ (z ≤ 0 ∨ gc_wtr I' a1 z) ∧ (z ≤ 60) ∧ (z ≤ 0 ∨ gc_rg a1 I' z 0 (I 4 1 - 1)))))) (11, [(0, .inr (.inr (some 39))), (1, .inr (.inr (some a1))), (2, .inl v2_8), (3, .inl v3_8)], [], sh, gc_h sh I6 J7 A) := by
    intro n9
    induction n9 with
    | zero => intro I6 J7 v2_8 v3_8 hn; exact gz_m 3 (by omega)
    | succ n9 ih11 =>
      intro I6 J7 v2_8 v3_8 hn hI6 FI6 FJ7 KLT_I6 KTK_I6 m_8 e0_8 e1_8 e2_8 e4_8
      obtain ⟨hv2_8, hv3_8, e3_8, e5_8, e6_8⟩ := m_8
      have t9 := gc_TK_mo KTK_I6
      have f10 := (show 0 ≤ I6 23 1 ∧ I6 23 1 ≤ 1000 from gc_in hI6 R_23 rfl rfl)
      have f11 := (show 0 ≤ I6 23 5 ∧ I6 23 5 ≤ 1000 from gc_in hI6 R_23 rfl rfl)
      have f12 := (show 0 ≤ I6 23 6 ∧ I6 23 6 ≤ 1001 from gc_in hI6 R_23 rfl rfl)
      have f13 := (show 0 ≤ I6 23 7 ∧ I6 23 7 ≤ 125 from gc_in hI6 R_23 rfl rfl)
      have f14 := (show 0 ≤ I6 4 1 ∧ I6 4 1 ≤ 96 from gc_in hI6 R_4 rfl rfl)
      have L76 : ((I6 23 1 = I 23 1) ∧ (I6 4 1 = I 4 1)) → gv_X (gc_E6 ws0 tb 3 (yX6_readTree, cX6_readTree, 5, (some .int)) kX6_readTree) (gv_Q cX6_readTree (some .int) sh (fun r h' => (∃ (I' : gr_I) (J' : gr_J), h' = gc_h sh I' J' A ∧ gc_Inv ro I' ∧ (∀ q j : Nat, ((q = 39 ∧ j = 3) ∨ (q = 39 ∧ j = 4) ∨ (q = 23 ∧ j = 5) ∨ (q = 23 ∧ j = 6) ∨ (q = 23 ∧ j = 7) ∨ (q = 23 ∧ j = 8) ∨ q = a1 ∨ q = 46 ∨ q = 47) ∨ I' q j = I q j) ∧ (∀ q j : Nat, ((q = 23 ∧ j = 9)) ∨ J' q j = J q j) ∧ (∃ z : Int, r = some (.inl z) ∧ (-1001) ≤ z ∧ z ≤ 60 ∧ (I' 23 1 = I 23 1) ∧ (z ≤ 0 ∨ gc_wtr I' a1 z) ∧ (z ≤ 60) ∧ (z ≤ 0 ∨ gc_rg a1 I' z 0 (I 4 1 - 1)))))) (76, [(0, .inr (.inr (some 39)))], [], sh, gc_h sh I6 J7 A) := by
        intro m_15
        obtain ⟨e0_15, e1_15⟩ := m_15
        have t16 := gc_TK_mo KTK_I6
        have f17 := (show 0 ≤ I6 23 1 ∧ I6 23 1 ≤ 1000 from gc_in hI6 R_23 rfl rfl)
        have f18 := (show 0 ≤ I6 23 5 ∧ I6 23 5 ≤ 1000 from gc_in hI6 R_23 rfl rfl)
        have f19 := (show 0 ≤ I6 23 6 ∧ I6 23 6 ≤ 1001 from gc_in hI6 R_23 rfl rfl)
        have f20 := (show 0 ≤ I6 23 7 ∧ I6 23 7 ≤ 125 from gc_in hI6 R_23 rfl rfl)
        have f21 := (show 0 ≤ I6 4 1 ∧ I6 4 1 ≤ 96 from gc_in hI6 R_4 rfl rfl)
        refine gv_run 2 true hD (pc' := 78) (lv' := [(0, .inr (.inr (some 39)))]) (st' := [.inr (.inr (some 39)), .inl (-1)]) (h' := gc_h sh I6 J7 A) (C := ((True ∧ True) ∧ True)) rfl ⟨⟨trivial, trivial⟩, trivial⟩ ?_
        refine gv_get hD rfl rfl S_39 ⟨by decide, B_39⟩ (gc_hA S_39 rfl A_39_1) ?_
        show gv_X _ _ (81, [(0, .inr (.inr (some 39)))], [.inr (.inr (some 23)), .inl (-1)], sh, gc_h sh I6 J7 A)
        have f22 := (show 0 ≤ I6 23 5 ∧ I6 23 5 ≤ 1000 from gc_in hI6 R_23 rfl rfl)
        refine gv_get hD rfl rfl S_23 ⟨by decide, B_23⟩ (gc_hI S_23 rfl) ?_
        show gv_X _ _ (84, [(0, .inr (.inr (some 39)))], [.inl (I6 23 5), .inl (-1)], sh, gc_h sh I6 J7 A)
        refine gv_run 1 true hD (pc' := 85) (lv' := [(0, .inr (.inr (some 39)))]) (st' := [.inl ((-1) - (I6 23 5))]) (h' := gc_h sh I6 J7 A) (C := (True ∧ True)) rfl ⟨trivial, trivial⟩ ?_
        exact gv_iret hD rfl ⟨I6, J7, rfl, hI6, FI6, FJ7, ⟨_, rfl, by exact gz_m 4 (by omega), by exact gz_m 5 (by omega), by exact gz_m 6 (by omega), (Or.inl (by exact gz_m 7 (by omega))), by exact gz_m 8 (by omega), (Or.inl (by exact gz_m 9 (by omega)))⟩⟩
      have L86 : ∀ (v4_23 : Int), ((0 ≤ v2_8 ∧ v2_8 ≤ 59) ∧ (0 ≤ v3_8 ∧ v3_8 ≤ 60) ∧ (0 ≤ v4_23 ∧ v4_23 ≤ 95) ∧ (v2_8 ≤ 59) ∧ (I6 23 7 = 1) ∧ (v4_23 < I6 4 1) ∧ (I6 23 1 = I 23 1) ∧ (I6 4 1 = I 4 1)) → gv_X (gc_E6 ws0 tb 3 (yX6_readTree, cX6_readTree, 5, (some .int)) kX6_readTree) (gv_Q cX6_readTree (some .int) sh (fun r h' => (∃ (I' : gr_I) (J' : gr_J), h' = gc_h sh I' J' A ∧ gc_Inv ro I' ∧ (∀ q j : Nat, ((q = 39 ∧ j = 3) ∨ (q = 39 ∧ j = 4) ∨ (q = 23 ∧ j = 5) ∨ (q = 23 ∧ j = 6) ∨ (q = 23 ∧ j = 7) ∨ (q = 23 ∧ j = 8) ∨ q = a1 ∨ q = 46 ∨ q = 47) ∨ I' q j = I q j) ∧ (∀ q j : Nat, ((q = 23 ∧ j = 9)) ∨ J' q j = J q j) ∧ (∃ z : Int, r = some (.inl z) ∧ (-1001) ≤ z ∧ z ≤ 60 ∧ (I' 23 1 = I 23 1) ∧ (z ≤ 0 ∨ gc_wtr I' a1 z) ∧ (z ≤ 60) ∧ (z ≤ 0 ∨ gc_rg a1 I' z 0 (I 4 1 - 1)))))) (86, [(0, .inr (.inr (some 39))), (1, .inr (.inr (some a1))), (2, .inl v2_8), (3, .inl v3_8), (4, .inl v4_23)], [], sh, gc_h sh I6 J7 A) := by
        intro v4_23 m_23
        obtain ⟨hv2_8_23, hv3_8_23, hv4_23, e0_23, e1_23, e2_23, e3_23, e4_23⟩ := m_23
        have t24 := gc_TK_mo KTK_I6
        have f25 := (show 0 ≤ I6 23 1 ∧ I6 23 1 ≤ 1000 from gc_in hI6 R_23 rfl rfl)
        have f26 := (show 0 ≤ I6 23 5 ∧ I6 23 5 ≤ 1000 from gc_in hI6 R_23 rfl rfl)
        have f27 := (show 0 ≤ I6 23 6 ∧ I6 23 6 ≤ 1001 from gc_in hI6 R_23 rfl rfl)
        have f28 := (show 0 ≤ I6 23 7 ∧ I6 23 7 ≤ 125 from gc_in hI6 R_23 rfl rfl)
        have f29 := (show 0 ≤ I6 4 1 ∧ I6 4 1 ≤ 96 from gc_in hI6 R_4 rfl rfl)
        have L202 : ∀ (I30 : gr_I) (J31 : gr_J) (s0_32 : Int), gc_Inv ro I30 → (∀ q j : Nat, ((q = 39 ∧ j = 3) ∨ (q = 39 ∧ j = 4) ∨ (q = 23 ∧ j = 5) ∨ (q = 23 ∧ j = 6) ∨ (q = 23 ∧ j = 7) ∨ (q = 23 ∧ j = 8) ∨ q = a1 ∨ q = 46 ∨ q = 47) ∨ I30 q j = I q j) → (∀ q j : Nat, ((q = 23 ∧ j = 9)) ∨ J31 q j = J q j) → gc_LT I30 → gc_TK I30 → (((-1001) ≤ s0_32 ∧ s0_32 ≤ 60) ∧ (s0_32 ≤ 60) ∧ (I30 23 1 = I 23 1) ∧ (I30 4 1 = I 4 1)) → (s0_32 ≤ 0 ∨ gc_wtr I30 a1 s0_32) → (s0_32 ≤ 0 ∨ gc_rg a1 I30 s0_32 0 (I 4 1 - 1)) → gv_X (gc_E6 ws0 tb 3 (yX6_readTree, cX6_readTree, 5, (some .int)) kX6_readTree) (gv_Q cX6_readTree (some .int) sh (fun r h' => (∃ (I' : gr_I) (J' : gr_J), h' = gc_h sh I' J' A ∧ gc_Inv ro I' ∧ (∀ q j : Nat, ((q = 39 ∧ j = 3) ∨ (q = 39 ∧ j = 4) ∨ (q = 23 ∧ j = 5) ∨ (q = 23 ∧ j = 6) ∨ (q = 23 ∧ j = 7) ∨ (q = 23 ∧ j = 8) ∨ q = a1 ∨ q = 46 ∨ q = 47) ∨ I' q j = I q j) ∧ (∀ q j : Nat, ((q = 23 ∧ j = 9)) ∨ J' q j = J q j) ∧ (∃ z : Int, r = some (.inl z) ∧ (-1001) ≤ z ∧ z ≤ 60 ∧ (I' 23 1 = I 23 1) ∧ (z ≤ 0 ∨ gc_wtr I' a1 z) ∧ (z ≤ 60) ∧ (z ≤ 0 ∨ gc_rg a1 I' z 0 (I 4 1 - 1)))))) (202, [], [.inl s0_32], sh, gc_h sh I30 J31 A) := by
          intro I30 J31 s0_32 hI30 FI30 FJ31 KLT_I30 KTK_I30 m_32 e0_32 e2_32
          clear hv2_8_23 hv3_8_23 hv4_23 e0_23 e1_23 e2_23 e3_23 e4_23 t24 f25 f26 f27 f28 f29 hv2_8 hv3_8 e3_8 e5_8 e6_8 t9 f10 f11 f12 f13 f14
          obtain ⟨hs0_32, e1_32, e3_32, e4_32⟩ := m_32
          have t33 := gc_TK_mo KTK_I30
          have f34 := (show 0 ≤ I30 23 1 ∧ I30 23 1 ≤ 1000 from gc_in hI30 R_23 rfl rfl)
          have f35 := (show 0 ≤ I30 23 5 ∧ I30 23 5 ≤ 1000 from gc_in hI30 R_23 rfl rfl)
          have f36 := (show 0 ≤ I30 23 6 ∧ I30 23 6 ≤ 1001 from gc_in hI30 R_23 rfl rfl)
          have f37 := (show 0 ≤ I30 23 7 ∧ I30 23 7 ≤ 125 from gc_in hI30 R_23 rfl rfl)
          have f38 := (show 0 ≤ I30 4 1 ∧ I30 4 1 ≤ 96 from gc_in hI30 R_4 rfl rfl)
          exact gv_iret hD rfl ⟨I30, J31, rfl, hI30, FI30, FJ31, ⟨_, rfl, by exact gz_m 10 (by omega), by exact gz_m 11 (by omega), by exact gz_m 12 (by omega), e0_32, by exact gz_m 13 (by omega), e2_32⟩⟩
        have L193 : ∀ (I39 : gr_I) (J40 : gr_J) , gc_Inv ro I39 → (∀ q j : Nat, ((q = 39 ∧ j = 3) ∨ (q = 39 ∧ j = 4) ∨ (q = 23 ∧ j = 5) ∨ (q = 23 ∧ j = 6) ∨ (q = 23 ∧ j = 7) ∨ (q = 23 ∧ j = 8) ∨ q = a1 ∨ q = 46 ∨ q = 47) ∨ I39 q j = I q j) → (∀ q j : Nat, ((q = 23 ∧ j = 9)) ∨ J40 q j = J q j) → gc_LT I39 → gc_TK I39 → ((I39 23 1 = I 23 1) ∧ (I39 4 1 = I 4 1)) → gv_X (gc_E6 ws0 tb 3 (yX6_readTree, cX6_readTree, 5, (some .int)) kX6_readTree) (gv_Q cX6_readTree (some .int) sh (fun r h' => (∃ (I' : gr_I) (J' : gr_J), h' = gc_h sh I' J' A ∧ gc_Inv ro I' ∧ (∀ q j : Nat, ((q = 39 ∧ j = 3) ∨ (q = 39 ∧ j = 4) ∨ (q = 23 ∧ j = 5) ∨ (q = 23 ∧ j = 6) ∨ (q = 23 ∧ j = 7) ∨ (q = 23 ∧ j = 8) ∨ q = a1 ∨ q = 46 ∨ q = 47) ∨ I' q j = I q j) ∧ (∀ q j : Nat, ((q = 23 ∧ j = 9)) ∨ J' q j = J q j) ∧ (∃ z : Int, r = some (.inl z) ∧ (-1001) ≤ z ∧ z ≤ 60 ∧ (I' 23 1 = I 23 1) ∧ (z ≤ 0 ∨ gc_wtr I' a1 z) ∧ (z ≤ 60) ∧ (z ≤ 0 ∨ gc_rg a1 I' z 0 (I 4 1 - 1)))))) (193, [(0, .inr (.inr (some 39)))], [], sh, gc_h sh I39 J40 A) := by
          intro I39 J40 hI39 FI39 FJ40 KLT_I39 KTK_I39 m_41
          clear hv2_8_23 hv3_8_23 hv4_23 e0_23 e1_23 e2_23 e3_23 e4_23 t24 f25 f26 f27 f28 f29 hv2_8 hv3_8 e3_8 e5_8 e6_8 t9 f10 f11 f12 f13 f14
          obtain ⟨e0_41, e1_41⟩ := m_41
          have t42 := gc_TK_mo KTK_I39
          have f43 := (show 0 ≤ I39 23 1 ∧ I39 23 1 ≤ 1000 from gc_in hI39 R_23 rfl rfl)
          have f44 := (show 0 ≤ I39 23 5 ∧ I39 23 5 ≤ 1000 from gc_in hI39 R_23 rfl rfl)
          have f45 := (show 0 ≤ I39 23 6 ∧ I39 23 6 ≤ 1001 from gc_in hI39 R_23 rfl rfl)
          have f46 := (show 0 ≤ I39 23 7 ∧ I39 23 7 ≤ 125 from gc_in hI39 R_23 rfl rfl)
          have f47 := (show 0 ≤ I39 4 1 ∧ I39 4 1 ≤ 96 from gc_in hI39 R_4 rfl rfl)
          refine gv_run 2 true hD (pc' := 195) (lv' := [(0, .inr (.inr (some 39)))]) (st' := [.inr (.inr (some 39)), .inl (-1)]) (h' := gc_h sh I39 J40 A) (C := ((True ∧ True) ∧ True)) rfl ⟨⟨trivial, trivial⟩, trivial⟩ ?_
          refine gv_get hD rfl rfl S_39 ⟨by decide, B_39⟩ (gc_hA S_39 rfl A_39_1) ?_
          show gv_X _ _ (198, [(0, .inr (.inr (some 39)))], [.inr (.inr (some 23)), .inl (-1)], sh, gc_h sh I39 J40 A)
          have f48 := (show 0 ≤ I39 23 5 ∧ I39 23 5 ≤ 1000 from gc_in hI39 R_23 rfl rfl)
          refine gv_get hD rfl rfl S_23 ⟨by decide, B_23⟩ (gc_hI S_23 rfl) ?_
          show gv_X _ _ (201, [(0, .inr (.inr (some 39)))], [.inl (I39 23 5), .inl (-1)], sh, gc_h sh I39 J40 A)
          refine gv_run 1 true hD (pc' := 202) (lv' := [(0, .inr (.inr (some 39)))]) (st' := [.inl ((-1) - (I39 23 5))]) (h' := gc_h sh I39 J40 A) (C := (True ∧ True)) rfl ⟨trivial, trivial⟩ ?_
          refine gv_pick [] rfl ?_
          exact L202 I39 J40 (((-1) - (I39 23 5))) hI39 FI39 FJ40 KLT_I39 KTK_I39 (by exact gz_m 14 (by omega)) (Or.inl (by exact gz_m 15 (by omega))) (Or.inl (by exact gz_m 16 (by omega)))
        refine gv_run 4 true hD (pc' := 93) (lv' := [(2, .inl (v2_8 + 1)), (0, .inr (.inr (some 39))), (1, .inr (.inr (some a1))), (3, .inl v3_8), (4, .inl v4_23)]) (st' := [.inl v4_23, .inl v2_8, .inr (.inr (some a1))]) (h' := gc_h sh I6 J7 A) (C := ((((True ∧ True) ∧ True) ∧ True) ∧ True)) rfl ⟨⟨⟨⟨trivial, trivial⟩, trivial⟩, trivial⟩, trivial⟩ ?_
        refine gv_iast hD rfl S_a1 ⟨by exact gz_m 17 (by omega), B_a1⟩ ⟨by exact gz_m 18 (by omega), by exact gz_m 19 (by omega)⟩ ?_
        refine gc_st hI6 S_a1 rfl R_a1 (lo := 0) (hi := 95) rfl rfl (by exact gz_m 20 (by omega)) (by exact gz_m 21 (by omega)) (fun I49 hI49 q50 p50 => ?_)
        have FI49 := gc_frs (W := fun q j => (q = 39 ∧ j = 3) ∨ (q = 39 ∧ j = 4) ∨ (q = 23 ∧ j = 5) ∨ (q = 23 ∧ j = 6) ∨ (q = 23 ∧ j = 7) ∨ (q = 23 ∧ j = 8) ∨ q = a1 ∨ q = 46 ∨ q = 47) FI6 (Or.inr (Or.inr (Or.inr (Or.inr (Or.inr (Or.inr (Or.inl rfl))))))) p50
        have t51 := p50 23 1 (fun h => absurd h.1 N_23__a1)
        have t52 := p50 23 5 (fun h => absurd h.1 N_23__a1)
        have t53 := p50 23 6 (fun h => absurd h.1 N_23__a1)
        have t54 := p50 23 7 (fun h => absurd h.1 N_23__a1)
        have t55 := p50 4 1 (fun h => absurd h.1 N_4__a1)
        have KLT_I49 := gc_LT_fr KLT_I6 (p50 23 5 (fun h => absurd h.1 N_23__a1)) (p50 23 6 (fun h => absurd h.1 N_23__a1)) (p50 23 7 (fun h => absurd h.1 N_23__a1)) (fun k => p50 24 k (fun h => absurd h.1 N_24__a1))
        have KTK_I49 := gc_TK_fr KTK_I6 (p50 23 1 (fun h => absurd h.1 N_23__a1)) (p50 23 5 (fun h => absurd h.1 N_23__a1)) (p50 23 6 (fun h => absurd h.1 N_23__a1)) (p50 23 7 (fun h => absurd h.1 N_23__a1))
        show gv_X _ _ (94, [(2, .inl (v2_8 + 1)), (0, .inr (.inr (some 39))), (1, .inr (.inr (some a1))), (3, .inl v3_8), (4, .inl v4_23)], [], sh, gc_h sh I49 J7 A)
        refine gv_run 1 true hD (pc' := 95) (lv' := [(2, .inl (v2_8 + 1)), (0, .inr (.inr (some 39))), (1, .inr (.inr (some a1))), (3, .inl v3_8), (4, .inl v4_23)]) (st' := [.inr (.inr (some 39))]) (h' := gc_h sh I49 J7 A) (C := (True ∧ True)) rfl ⟨trivial, trivial⟩ ?_
        refine gv_get hD rfl rfl S_39 ⟨by decide, B_39⟩ (gc_hA S_39 rfl A_39_1) ?_
        show gv_X _ _ (98, [(2, .inl (v2_8 + 1)), (0, .inr (.inr (some 39))), (1, .inr (.inr (some a1))), (3, .inl v3_8), (4, .inl v4_23)], [.inr (.inr (some 23))], sh, gc_h sh I49 J7 A)
        have t57 := gc_TK_nx KTK_I49 (by exact gz_m 22 (by omega))
        obtain ⟨r56, h56, E56, P56⟩ := d_X9_advance (ws0 := ws0) (tb := tb) hws htb sh ro I49 J7 A hI49 23  (gc_b23 hb)    (by exact gz_m 23 (by omega)) 
        obtain ⟨I58, J59, rfl, hI58, g56, k56, ⟨rfl, V56_0, V56_1, V56_2, V56_3, V56_4, q56⟩⟩ := P56
        have FI58 := gc_frc (W := fun q j => (q = 39 ∧ j = 3) ∨ (q = 39 ∧ j = 4) ∨ (q = 23 ∧ j = 5) ∨ (q = 23 ∧ j = 6) ∨ (q = 23 ∧ j = 7) ∨ (q = 23 ∧ j = 8) ∨ q = a1 ∨ q = 46 ∨ q = 47) (V := fun q j => (q = 23 ∧ j = 5) ∨ (q = 23 ∧ j = 6) ∨ (q = 23 ∧ j = 7) ∨ (q = 23 ∧ j = 8)) FI49 (fun q j h => (h.elim (fun h => (Or.inr (Or.inr (Or.inl h)))) (fun h => (h.elim (fun h => (Or.inr (Or.inr (Or.inr (Or.inl h))))) (fun h => (h.elim (fun h => (Or.inr (Or.inr (Or.inr (Or.inr (Or.inl h)))))) (fun h => (Or.inr (Or.inr (Or.inr (Or.inr (Or.inr (Or.inl h))))))))))))) g56
        have FJ59 := gc_frc (W := fun q j => (q = 23 ∧ j = 9)) (V := fun q j => (q = 23 ∧ j = 9)) FJ7 (fun q j h => h) k56
        have t60 := (g56 23 1).resolve_left (fun h => h.elim (fun h => absurd h.2 (by decide)) (fun h => h.elim (fun h => absurd h.2 (by decide)) (fun h => h.elim (fun h => absurd h.2 (by decide)) (fun h => absurd h.2 (by decide)))))
        have t61 := (g56 4 1).resolve_left (fun h => h.elim (fun h => absurd h.2 (by decide)) (fun h => h.elim (fun h => absurd h.2 (by decide)) (fun h => h.elim (fun h => absurd h.2 (by decide)) (fun h => absurd h.2 (by decide)))))
        have f62 := (show 0 ≤ I58 23 5 ∧ I58 23 5 ≤ 1000 from gc_in hI58 R_23 rfl rfl)
        have f63 := (show 0 ≤ I58 23 6 ∧ I58 23 6 ≤ 1001 from gc_in hI58 R_23 rfl rfl)
        have f64 := (show 0 ≤ I58 23 7 ∧ I58 23 7 ≤ 125 from gc_in hI58 R_23 rfl rfl)
        have KLT_I58 : gc_LT I58 := q56.2.2
        have KTK_I58 : gc_TK I58 := And.intro V56_0 (And.intro V56_1 (And.intro V56_2 (And.intro V56_3 V56_4)))
        have t65 := gc_TK_mo KTK_I58
        clear V56_0 V56_1 V56_2 V56_3 V56_4
        refine gv_callV hD rfl (As := []) (st := []) rfl B_23 S_23 rfl (gc_lV6 hws rfl) (Nat.le_of_ble_eq_true rfl) (gz_Ev_mono (d := 2) (by decide) E56) ?_
        show gv_X _ _ (101, [(2, .inl (v2_8 + 1)), (0, .inr (.inr (some 39))), (1, .inr (.inr (some a1))), (3, .inl v3_8), (4, .inl v4_23)], [], sh, gc_h sh I58 J59 A)
        refine gv_run 1 true hD (pc' := 102) (lv' := [(2, .inl (v2_8 + 1)), (0, .inr (.inr (some 39))), (1, .inr (.inr (some a1))), (3, .inl v3_8), (4, .inl v4_23)]) (st' := [.inr (.inr (some 39))]) (h' := gc_h sh I58 J59 A) (C := (True ∧ True)) rfl ⟨trivial, trivial⟩ ?_
        refine gv_get hD rfl rfl S_39 ⟨by decide, B_39⟩ (gc_hA S_39 rfl A_39_0) ?_
        show gv_X _ _ (105, [(2, .inl (v2_8 + 1)), (0, .inr (.inr (some 39))), (1, .inr (.inr (some a1))), (3, .inl v3_8), (4, .inl v4_23)], [.inr (.inr (some 1))], sh, gc_h sh I58 J59 A)
        refine gv_get hD rfl rfl S_1 ⟨by decide, B_1⟩ (gc_hA S_1 rfl A_1_7) ?_
        show gv_X _ _ (108, [(2, .inl (v2_8 + 1)), (0, .inr (.inr (some 39))), (1, .inr (.inr (some a1))), (3, .inl v3_8), (4, .inl v4_23)], [.inr (.inr (some 12))], sh, gc_h sh I58 J59 A)
        refine gv_run 1 true hD (pc' := 110) (lv' := [(2, .inl (v2_8 + 1)), (0, .inr (.inr (some 39))), (1, .inr (.inr (some a1))), (3, .inl v3_8), (4, .inl v4_23)]) (st' := [.inl v4_23, .inr (.inr (some 12))]) (h' := gc_h sh I58 J59 A) (C := (True ∧ True)) rfl ⟨trivial, trivial⟩ ?_
        have f66 := (show 0 ≤ I58 12 (Int.toNat v4_23) ∧ I58 12 (Int.toNat v4_23) ≤ 4 from gc_in hI58 R_12 rfl rfl)
        refine gv_iald hD rfl S_12 rfl ⟨by decide, B_12⟩ ⟨by exact gz_m 24 (by omega), by exact gz_m 25 (by omega)⟩ (gc_iI S_12 rfl) ?_
        show gv_X _ _ (111, [(2, .inl (v2_8 + 1)), (0, .inr (.inr (some 39))), (1, .inr (.inr (some a1))), (3, .inl v3_8), (4, .inl v4_23)], [.inl (I58 12 (Int.toNat v4_23))], sh, gc_h sh I58 J59 A)
        refine gv_if_le (t := 164) hD rfl rfl ⟨by exact gz_m 26 (by omega), by exact gz_m 27 (by omega)⟩ (fun c67 => ?_) (fun c67 => ?_)
        · show gv_X _ _ (164, [(2, .inl (v2_8 + 1)), (0, .inr (.inr (some 39))), (1, .inr (.inr (some a1))), (3, .inl v3_8), (4, .inl v4_23)], [], sh, gc_h sh I58 J59 A)
          refine gv_run 2 true hD (pc' := 166) (lv' := [(2, .inl (v2_8 + 1)), (0, .inr (.inr (some 39))), (1, .inr (.inr (some a1))), (3, .inl v3_8), (4, .inl v4_23)]) (st' := [.inl v3_8, .inr (.inr (some 39))]) (h' := gc_h sh I58 J59 A) (C := ((True ∧ True) ∧ True)) rfl ⟨⟨trivial, trivial⟩, trivial⟩ ?_
          obtain ⟨r68, h68, E68, P68⟩ := d_X6_closeArguments (ws0 := ws0) (tb := tb) hws htb sh ro I58 J59 A hI58  v3_8 hb   ⟨by exact gz_m 28 (by omega), by exact gz_m 29 (by omega)⟩ (gc_SE_fr (n := v3_8) e0_8 (fun k hk => (((g56 47 k).resolve_left (by exact gz_m 30 (by omega))).trans (p50 47 k (fun h => absurd h.1 (by exact gz_m 31 (by omega)))))) (fun k hk => (((g56 46 k).resolve_left (by exact gz_m 32 (by omega))).trans (p50 46 k (fun h => absurd h.1 (by exact gz_m 33 (by omega)))))) (fun k => (((g56 12 k).resolve_left (by exact gz_m 34 (by omega))).trans (p50 12 k (fun h => absurd h.1 (by exact gz_m 35 (by omega))))))) KLT_I58 KTK_I58
          obtain ⟨I69, J70, rfl, hI69, g68, k68, KLT_I69, KTK_I69, ⟨z68, rfl, q68⟩⟩ := P68
          have FI69 := gc_frc (W := fun q j => (q = 39 ∧ j = 3) ∨ (q = 39 ∧ j = 4) ∨ (q = 23 ∧ j = 5) ∨ (q = 23 ∧ j = 6) ∨ (q = 23 ∧ j = 7) ∨ (q = 23 ∧ j = 8) ∨ q = a1 ∨ q = 46 ∨ q = 47) (V := fun q j => (q = 39 ∧ j = 3) ∨ (q = 39 ∧ j = 4) ∨ (q = 23 ∧ j = 5) ∨ (q = 23 ∧ j = 6) ∨ (q = 23 ∧ j = 7) ∨ (q = 23 ∧ j = 8) ∨ q = 47) FI58 (fun q j h => (h.elim (fun h => (Or.inl h)) (fun h => (h.elim (fun h => (Or.inr (Or.inl h))) (fun h => (h.elim (fun h => (Or.inr (Or.inr (Or.inl h)))) (fun h => (h.elim (fun h => (Or.inr (Or.inr (Or.inr (Or.inl h))))) (fun h => (h.elim (fun h => (Or.inr (Or.inr (Or.inr (Or.inr (Or.inl h)))))) (fun h => (h.elim (fun h => (Or.inr (Or.inr (Or.inr (Or.inr (Or.inr (Or.inl h))))))) (fun h => (Or.inr (Or.inr (Or.inr (Or.inr (Or.inr (Or.inr (Or.inr (Or.inr h))))))))))))))))))))) g68
          have FJ70 := gc_frc (W := fun q j => (q = 23 ∧ j = 9)) (V := fun q j => (q = 23 ∧ j = 9)) FJ59 (fun q j h => h) k68
          have t71 := (g68 23 1).resolve_left (fun h => h.elim (fun h => absurd h.2 (by decide)) (fun h => h.elim (fun h => absurd h.2 (by decide)) (fun h => h.elim (fun h => absurd h.2 (by decide)) (fun h => h.elim (fun h => absurd h.2 (by decide)) (fun h => h.elim (fun h => absurd h.2 (by decide)) (fun h => h.elim (fun h => absurd h.2 (by decide)) (fun h => absurd h (by decide))))))))
          have t72 := (g68 4 1).resolve_left (fun h => h.elim (fun h => absurd h.2 (by decide)) (fun h => h.elim (fun h => absurd h.2 (by decide)) (fun h => h.elim (fun h => absurd h.2 (by decide)) (fun h => h.elim (fun h => absurd h.2 (by decide)) (fun h => h.elim (fun h => absurd h.2 (by decide)) (fun h => h.elim (fun h => absurd h.2 (by decide)) (fun h => absurd h (by decide))))))))
          have f73 := (show 0 ≤ I69 23 5 ∧ I69 23 5 ≤ 1000 from gc_in hI69 R_23 rfl rfl)
          have f74 := (show 0 ≤ I69 23 6 ∧ I69 23 6 ≤ 1001 from gc_in hI69 R_23 rfl rfl)
          have f75 := (show 0 ≤ I69 23 7 ∧ I69 23 7 ≤ 125 from gc_in hI69 R_23 rfl rfl)
          have t76 := gc_TK_mo KTK_I69
          refine gv_callV hD rfl (As := [.inl v3_8]) (st := []) rfl B_39 S_39 rfl (gc_lV6 hws rfl) (Nat.le_of_ble_eq_true rfl) (gz_Ev_mono (d := 3) (by decide) E68) ?_
          show gv_X _ _ (169, [(2, .inl (v2_8 + 1)), (0, .inr (.inr (some 39))), (1, .inr (.inr (some a1))), (3, .inl v3_8), (4, .inl v4_23)], [.inl z68], sh, gc_h sh I69 J70 A)
          refine gv_run 2 true hD (pc' := 171) (lv' := [(3, .inl z68), (2, .inl (v2_8 + 1)), (0, .inr (.inr (some 39))), (1, .inr (.inr (some a1))), (4, .inl v4_23)]) (st' := [.inl z68]) (h' := gc_h sh I69 J70 A) (C := ((True ∧ True) ∧ True)) rfl ⟨⟨trivial, trivial⟩, trivial⟩ ?_
          refine gv_if_gt (t := 203) hD rfl rfl ⟨by exact gz_m 36 (by omega), by exact gz_m 37 (by omega)⟩ (fun c77 => ?_) (fun c77 => ?_)
          · show gv_X _ _ (203, [(3, .inl z68), (2, .inl (v2_8 + 1)), (0, .inr (.inr (some 39))), (1, .inr (.inr (some a1))), (4, .inl v4_23)], [], sh, gc_h sh I69 J70 A)
            refine gv_run 1 true hD (pc' := 11) (lv' := [(3, .inl z68), (2, .inl (v2_8 + 1)), (0, .inr (.inr (some 39))), (1, .inr (.inr (some a1))), (4, .inl v4_23)]) (st' := []) (h' := gc_h sh I69 J70 A) (C := (True ∧ True)) rfl ⟨trivial, trivial⟩ ?_
            refine gv_pick [2, 3, 1, 0] rfl ?_
            exact ih11 I69 J70 (v2_8 + 1) z68 (by exact gz_m 38 (by omega)) hI69 FI69 FJ70 KLT_I69 KTK_I69 (by exact gz_m 39 (by omega)) q68.2.2.2.2.2.1 (by have h1 := gc_op_fr (I := I6) (I' := I69) (T := a1) (n := Int.toNat v2_8) (fun k hk => ((((g68 a1 k).resolve_left (by exact gz_m 40 (by omega))).trans ((g56 a1 k).resolve_left (by exact gz_m 41 (by omega)))).trans (p50 a1 k (fun h => by have := h.2; exact gz_m 42 (by omega))))) (fun k => ((((g68 12 k).resolve_left (by exact gz_m 43 (by omega))).trans ((g56 12 k).resolve_left (by exact gz_m 44 (by omega)))).trans (p50 12 k (fun h => absurd h.1 (by exact gz_m 45 (by omega)))))); have h2 := gc_ss_fr (I := I6) (I' := I58) (d := Int.toNat v3_8) (fun k hk => (((g56 47 k).resolve_left (by exact gz_m 46 (by omega))).trans (p50 47 k (fun h => absurd h.1 (by exact gz_m 47 (by omega)))))) (fun k hk => (((g56 46 k).resolve_left (by exact gz_m 48 (by omega))).trans (p50 46 k (fun h => absurd h.1 (by exact gz_m 49 (by omega)))))) (fun k => (((g56 12 k).resolve_left (by exact gz_m 50 (by omega))).trans (p50 12 k (fun h => absurd h.1 (by exact gz_m 51 (by omega)))))); have h3 : I69 a1 (Int.toNat v2_8) = v4_23 := (((g68 a1 (Int.toNat v2_8)).resolve_left (by exact gz_m 52 (by omega))).trans ((g56 a1 (Int.toNat v2_8)).resolve_left (by exact gz_m 53 (by omega)))).trans q50; have h7 : I69 12 (Int.toNat v4_23) = I58 12 (Int.toNat v4_23) := ((g68 12 (Int.toNat v4_23)).resolve_left (by exact gz_m 54 (by omega))); have h6 := e1_8; have h8 := q68.2.2.2.2.2.2.2; have h9 := q68.2.2.2.2.2.2.1; rw [show Int.toNat (v2_8 + 1) = Int.toNat v2_8 + 1 from by exact gz_m 55 (by omega)]; show gc_op I69 a1 (Int.toNat v2_8) - 1 + I69 12 (Int.toNat (I69 a1 (Int.toNat v2_8))) = 1 + gc_ss I69 (Int.toNat z68); rw [h3]; exact gz_m 56 (by omega)) (fun k hk => by have h1 := gc_ss_nn (I := I6) (d := Int.toNat v3_8) (fun j hj => e0_8 j (by exact gz_m 57 (by omega))); have h2 := e1_8; exact (if hkk : k = Int.toNat v2_8 then (by rw [hkk, gc_op_fr (I := I6) (I' := I69) (T := a1) (n := Int.toNat v2_8) (fun k hk => ((((g68 a1 k).resolve_left (by exact gz_m 58 (by omega))).trans ((g56 a1 k).resolve_left (by exact gz_m 59 (by omega)))).trans (p50 a1 k (fun h => by have := h.2; exact gz_m 60 (by omega))))) (fun k => ((((g68 12 k).resolve_left (by exact gz_m 61 (by omega))).trans ((g56 12 k).resolve_left (by exact gz_m 62 (by omega)))).trans (p50 12 k (fun h => absurd h.1 (by exact gz_m 63 (by omega))))))]; exact gz_m 64 (by omega)) else (by rw [gc_op_fr (I := I6) (I' := I69) (T := a1) (n := k) (fun k hk => ((((g68 a1 k).resolve_left (by exact gz_m 65 (by omega))).trans ((g56 a1 k).resolve_left (by exact gz_m 66 (by omega)))).trans (p50 a1 k (fun h => by have := h.2; exact gz_m 67 (by omega))))) (fun k => ((((g68 12 k).resolve_left (by exact gz_m 68 (by omega))).trans ((g56 12 k).resolve_left (by exact gz_m 69 (by omega)))).trans (p50 12 k (fun h => absurd h.1 (by exact gz_m 70 (by omega))))))]; exact e2_8 k (by exact gz_m 71 (by omega))))) (gc_rg_fr (gc_rg_fr (gc_rg_push e4_8 (by exact gz_m 72 (by omega)) p50 (by exact gz_m 73 (by omega))) (fun k => (g56 a1 k).resolve_left (by exact gz_m 74 (by omega)))) (fun k => (g68 a1 k).resolve_left (by exact gz_m 75 (by omega))))
          · show gv_X _ _ (174, [(3, .inl z68), (2, .inl (v2_8 + 1)), (0, .inr (.inr (some 39))), (1, .inr (.inr (some a1))), (4, .inl v4_23)], [], sh, gc_h sh I69 J70 A)
            refine gv_run 1 true hD (pc' := 175) (lv' := [(3, .inl z68), (2, .inl (v2_8 + 1)), (0, .inr (.inr (some 39))), (1, .inr (.inr (some a1))), (4, .inl v4_23)]) (st' := [.inl z68]) (h' := gc_h sh I69 J70 A) (C := (True ∧ True)) rfl ⟨trivial, trivial⟩ ?_
            refine gv_if_ne (t := 193) hD rfl rfl ⟨by exact gz_m 76 (by omega), by exact gz_m 77 (by omega)⟩ (fun c78 => ?_) (fun c78 => ?_)
            · show gv_X _ _ (193, [(3, .inl z68), (2, .inl (v2_8 + 1)), (0, .inr (.inr (some 39))), (1, .inr (.inr (some a1))), (4, .inl v4_23)], [], sh, gc_h sh I69 J70 A)
              refine gv_pick [2] rfl ?_
              exact L193 I69 J70 hI69 FI69 FJ70 KLT_I69 KTK_I69 (by exact gz_m 78 (by omega))
            · show gv_X _ _ (178, [(3, .inl z68), (2, .inl (v2_8 + 1)), (0, .inr (.inr (some 39))), (1, .inr (.inr (some a1))), (4, .inl v4_23)], [], sh, gc_h sh I69 J70 A)
              refine gv_run 1 true hD (pc' := 179) (lv' := [(3, .inl z68), (2, .inl (v2_8 + 1)), (0, .inr (.inr (some 39))), (1, .inr (.inr (some a1))), (4, .inl v4_23)]) (st' := [.inr (.inr (some 39))]) (h' := gc_h sh I69 J70 A) (C := (True ∧ True)) rfl ⟨trivial, trivial⟩ ?_
              refine gv_get hD rfl rfl S_39 ⟨by decide, B_39⟩ (gc_hA S_39 rfl A_39_1) ?_
              show gv_X _ _ (182, [(3, .inl z68), (2, .inl (v2_8 + 1)), (0, .inr (.inr (some 39))), (1, .inr (.inr (some a1))), (4, .inl v4_23)], [.inr (.inr (some 23))], sh, gc_h sh I69 J70 A)
              have f79 := (show 0 ≤ I69 23 7 ∧ I69 23 7 ≤ 125 from gc_in hI69 R_23 rfl rfl)
              refine gv_get hD rfl rfl S_23 ⟨by decide, B_23⟩ (gc_hI S_23 rfl) ?_
              show gv_X _ _ (185, [(3, .inl z68), (2, .inl (v2_8 + 1)), (0, .inr (.inr (some 39))), (1, .inr (.inr (some a1))), (4, .inl v4_23)], [.inl (I69 23 7)], sh, gc_h sh I69 J70 A)
              refine gv_run 1 true hD (pc' := 186) (lv' := [(3, .inl z68), (2, .inl (v2_8 + 1)), (0, .inr (.inr (some 39))), (1, .inr (.inr (some a1))), (4, .inl v4_23)]) (st' := [.inl 4, .inl (I69 23 7)]) (h' := gc_h sh I69 J70 A) (C := (True ∧ True)) rfl ⟨trivial, trivial⟩ ?_
              refine gv_icmp_ne (t := 193) hD rfl rfl ⟨⟨by exact gz_m 79 (by omega), by exact gz_m 80 (by omega)⟩, ⟨by exact gz_m 81 (by omega), by exact gz_m 82 (by omega)⟩⟩ (fun c80 => ?_) (fun c80 => ?_)
              · show gv_X _ _ (193, [(3, .inl z68), (2, .inl (v2_8 + 1)), (0, .inr (.inr (some 39))), (1, .inr (.inr (some a1))), (4, .inl v4_23)], [], sh, gc_h sh I69 J70 A)
                refine gv_pick [2] rfl ?_
                exact L193 I69 J70 hI69 FI69 FJ70 KLT_I69 KTK_I69 (by exact gz_m 83 (by omega))
              · show gv_X _ _ (189, [(3, .inl z68), (2, .inl (v2_8 + 1)), (0, .inr (.inr (some 39))), (1, .inr (.inr (some a1))), (4, .inl v4_23)], [], sh, gc_h sh I69 J70 A)
                refine gv_run 2 true hD (pc' := 202) (lv' := [(3, .inl z68), (2, .inl (v2_8 + 1)), (0, .inr (.inr (some 39))), (1, .inr (.inr (some a1))), (4, .inl v4_23)]) (st' := [.inl (v2_8 + 1)]) (h' := gc_h sh I69 J70 A) (C := ((True ∧ True) ∧ True)) rfl ⟨⟨trivial, trivial⟩, trivial⟩ ?_
                refine gv_pick [] rfl ?_
                exact L202 I69 J70 (v2_8 + 1) hI69 FI69 FJ70 KLT_I69 KTK_I69 (by exact gz_m 84 (by omega)) (Or.inr (And.intro (fun k hk => by have h1 := gc_ss_nn (I := I6) (d := Int.toNat v3_8) (fun j hj => e0_8 j (by exact gz_m 85 (by omega))); have h2 := e1_8; exact (if hkk : k = Int.toNat v2_8 then (by rw [hkk, gc_op_fr (I := I6) (I' := I69) (T := a1) (n := Int.toNat v2_8) (fun k hk => ((((g68 a1 k).resolve_left (by exact gz_m 86 (by omega))).trans ((g56 a1 k).resolve_left (by exact gz_m 87 (by omega)))).trans (p50 a1 k (fun h => by have := h.2; exact gz_m 88 (by omega))))) (fun k => ((((g68 12 k).resolve_left (by exact gz_m 89 (by omega))).trans ((g56 12 k).resolve_left (by exact gz_m 90 (by omega)))).trans (p50 12 k (fun h => absurd h.1 (by exact gz_m 91 (by omega))))))]; exact gz_m 92 (by omega)) else (by rw [gc_op_fr (I := I6) (I' := I69) (T := a1) (n := k) (fun k hk => ((((g68 a1 k).resolve_left (by exact gz_m 93 (by omega))).trans ((g56 a1 k).resolve_left (by exact gz_m 94 (by omega)))).trans (p50 a1 k (fun h => by have := h.2; exact gz_m 95 (by omega))))) (fun k => ((((g68 12 k).resolve_left (by exact gz_m 96 (by omega))).trans ((g56 12 k).resolve_left (by exact gz_m 97 (by omega)))).trans (p50 12 k (fun h => absurd h.1 (by exact gz_m 98 (by omega))))))]; exact e2_8 k (by exact gz_m 99 (by omega))))) (by have h1 := gc_op_fr (I := I6) (I' := I69) (T := a1) (n := Int.toNat v2_8) (fun k hk => ((((g68 a1 k).resolve_left (by exact gz_m 100 (by omega))).trans ((g56 a1 k).resolve_left (by exact gz_m 101 (by omega)))).trans (p50 a1 k (fun h => by have := h.2; exact gz_m 102 (by omega))))) (fun k => ((((g68 12 k).resolve_left (by exact gz_m 103 (by omega))).trans ((g56 12 k).resolve_left (by exact gz_m 104 (by omega)))).trans (p50 12 k (fun h => absurd h.1 (by exact gz_m 105 (by omega)))))); have h2 := gc_ss_fr (I := I6) (I' := I58) (d := Int.toNat v3_8) (fun k hk => (((g56 47 k).resolve_left (by exact gz_m 106 (by omega))).trans (p50 47 k (fun h => absurd h.1 (by exact gz_m 107 (by omega)))))) (fun k hk => (((g56 46 k).resolve_left (by exact gz_m 108 (by omega))).trans (p50 46 k (fun h => absurd h.1 (by exact gz_m 109 (by omega)))))) (fun k => (((g56 12 k).resolve_left (by exact gz_m 110 (by omega))).trans (p50 12 k (fun h => absurd h.1 (by exact gz_m 111 (by omega)))))); have h3 : I69 a1 (Int.toNat v2_8) = v4_23 := (((g68 a1 (Int.toNat v2_8)).resolve_left (by exact gz_m 112 (by omega))).trans ((g56 a1 (Int.toNat v2_8)).resolve_left (by exact gz_m 113 (by omega)))).trans q50; have h7 : I69 12 (Int.toNat v4_23) = I58 12 (Int.toNat v4_23) := ((g68 12 (Int.toNat v4_23)).resolve_left (by exact gz_m 114 (by omega))); have h6 := e1_8; have h8 := q68.2.2.2.2.2.2.2; have h9 := q68.2.2.2.2.2.2.1; rw [show Int.toNat (v2_8 + 1) = Int.toNat v2_8 + 1 from by exact gz_m 115 (by omega)]; show gc_op I69 a1 (Int.toNat v2_8) - 1 + I69 12 (Int.toNat (I69 a1 (Int.toNat v2_8))) = 0; rw [h3]; exact gz_m 116 (by omega)))) (Or.inr (gc_rg_fr (gc_rg_fr (gc_rg_push e4_8 (by exact gz_m 117 (by omega)) p50 (by exact gz_m 118 (by omega))) (fun k => (g56 a1 k).resolve_left (by exact gz_m 119 (by omega)))) (fun k => (g68 a1 k).resolve_left (by exact gz_m 120 (by omega)))))
        · show gv_X _ _ (114, [(2, .inl (v2_8 + 1)), (0, .inr (.inr (some 39))), (1, .inr (.inr (some a1))), (3, .inl v3_8), (4, .inl v4_23)], [], sh, gc_h sh I58 J59 A)
          refine gv_run 1 true hD (pc' := 115) (lv' := [(2, .inl (v2_8 + 1)), (0, .inr (.inr (some 39))), (1, .inr (.inr (some a1))), (3, .inl v3_8), (4, .inl v4_23)]) (st' := [.inr (.inr (some 39))]) (h' := gc_h sh I58 J59 A) (C := (True ∧ True)) rfl ⟨trivial, trivial⟩ ?_
          refine gv_get hD rfl rfl S_39 ⟨by decide, B_39⟩ (gc_hA S_39 rfl A_39_1) ?_
          show gv_X _ _ (118, [(2, .inl (v2_8 + 1)), (0, .inr (.inr (some 39))), (1, .inr (.inr (some a1))), (3, .inl v3_8), (4, .inl v4_23)], [.inr (.inr (some 23))], sh, gc_h sh I58 J59 A)
          have f81 := (show 0 ≤ I58 23 7 ∧ I58 23 7 ≤ 125 from gc_in hI58 R_23 rfl rfl)
          refine gv_get hD rfl rfl S_23 ⟨by decide, B_23⟩ (gc_hI S_23 rfl) ?_
          show gv_X _ _ (121, [(2, .inl (v2_8 + 1)), (0, .inr (.inr (some 39))), (1, .inr (.inr (some a1))), (3, .inl v3_8), (4, .inl v4_23)], [.inl (I58 23 7)], sh, gc_h sh I58 J59 A)
          refine gv_run 1 true hD (pc' := 123) (lv' := [(2, .inl (v2_8 + 1)), (0, .inr (.inr (some 39))), (1, .inr (.inr (some a1))), (3, .inl v3_8), (4, .inl v4_23)]) (st' := [.inl 40, .inl (I58 23 7)]) (h' := gc_h sh I58 J59 A) (C := (True ∧ True)) rfl ⟨trivial, trivial⟩ ?_
          refine gv_icmp_eq (t := 136) hD rfl rfl ⟨⟨by exact gz_m 121 (by omega), by exact gz_m 122 (by omega)⟩, ⟨by exact gz_m 123 (by omega), by exact gz_m 124 (by omega)⟩⟩ (fun c82 => ?_) (fun c82 => ?_)
          · show gv_X _ _ (136, [(2, .inl (v2_8 + 1)), (0, .inr (.inr (some 39))), (1, .inr (.inr (some a1))), (3, .inl v3_8), (4, .inl v4_23)], [], sh, gc_h sh I58 J59 A)
            refine gv_run 1 true hD (pc' := 137) (lv' := [(2, .inl (v2_8 + 1)), (0, .inr (.inr (some 39))), (1, .inr (.inr (some a1))), (3, .inl v3_8), (4, .inl v4_23)]) (st' := [.inr (.inr (some 39))]) (h' := gc_h sh I58 J59 A) (C := (True ∧ True)) rfl ⟨trivial, trivial⟩ ?_
            refine gv_get hD rfl rfl S_39 ⟨by decide, B_39⟩ (gc_hA S_39 rfl A_39_17) ?_
            show gv_X _ _ (140, [(2, .inl (v2_8 + 1)), (0, .inr (.inr (some 39))), (1, .inr (.inr (some a1))), (3, .inl v3_8), (4, .inl v4_23)], [.inr (.inr (some 46))], sh, gc_h sh I58 J59 A)
            refine gv_run 2 true hD (pc' := 143) (lv' := [(2, .inl (v2_8 + 1)), (0, .inr (.inr (some 39))), (1, .inr (.inr (some a1))), (3, .inl v3_8), (4, .inl v4_23)]) (st' := [.inl v4_23, .inl v3_8, .inr (.inr (some 46))]) (h' := gc_h sh I58 J59 A) (C := ((True ∧ True) ∧ True)) rfl ⟨⟨trivial, trivial⟩, trivial⟩ ?_
            refine gv_iast hD rfl S_46 ⟨by decide, B_46⟩ ⟨by exact gz_m 125 (by omega), by exact gz_m 126 (by omega)⟩ ?_
            refine gc_st hI58 S_46 rfl R_46 (lo := 0) (hi := 95) rfl rfl (by exact gz_m 127 (by omega)) (by exact gz_m 128 (by omega)) (fun I83 hI83 q84 p84 => ?_)
            have FI83 := gc_frs (W := fun q j => (q = 39 ∧ j = 3) ∨ (q = 39 ∧ j = 4) ∨ (q = 23 ∧ j = 5) ∨ (q = 23 ∧ j = 6) ∨ (q = 23 ∧ j = 7) ∨ (q = 23 ∧ j = 8) ∨ q = a1 ∨ q = 46 ∨ q = 47) FI58 (Or.inr (Or.inr (Or.inr (Or.inr (Or.inr (Or.inr (Or.inr (Or.inl rfl)))))))) p84
            have t85 := p84 23 1 (fun h => absurd h.1 (by decide))
            have t86 := p84 23 5 (fun h => absurd h.1 (by decide))
            have t87 := p84 23 6 (fun h => absurd h.1 (by decide))
            have t88 := p84 23 7 (fun h => absurd h.1 (by decide))
            have t89 := p84 4 1 (fun h => absurd h.1 (by decide))
            have KLT_I83 := gc_LT_fr KLT_I58 (p84 23 5 (fun h => absurd h.1 (by decide))) (p84 23 6 (fun h => absurd h.1 (by decide))) (p84 23 7 (fun h => absurd h.1 (by decide))) (fun k => p84 24 k (fun h => absurd h.1 (by decide)))
            have KTK_I83 := gc_TK_fr KTK_I58 (p84 23 1 (fun h => absurd h.1 (by decide))) (p84 23 5 (fun h => absurd h.1 (by decide))) (p84 23 6 (fun h => absurd h.1 (by decide))) (p84 23 7 (fun h => absurd h.1 (by decide)))
            show gv_X _ _ (144, [(2, .inl (v2_8 + 1)), (0, .inr (.inr (some 39))), (1, .inr (.inr (some a1))), (3, .inl v3_8), (4, .inl v4_23)], [], sh, gc_h sh I83 J59 A)
            refine gv_run 1 true hD (pc' := 145) (lv' := [(2, .inl (v2_8 + 1)), (0, .inr (.inr (some 39))), (1, .inr (.inr (some a1))), (3, .inl v3_8), (4, .inl v4_23)]) (st' := [.inr (.inr (some 39))]) (h' := gc_h sh I83 J59 A) (C := (True ∧ True)) rfl ⟨trivial, trivial⟩ ?_
            refine gv_get hD rfl rfl S_39 ⟨by decide, B_39⟩ (gc_hA S_39 rfl A_39_18) ?_
            show gv_X _ _ (148, [(2, .inl (v2_8 + 1)), (0, .inr (.inr (some 39))), (1, .inr (.inr (some a1))), (3, .inl v3_8), (4, .inl v4_23)], [.inr (.inr (some 47))], sh, gc_h sh I83 J59 A)
            refine gv_run 2 true hD (pc' := 150) (lv' := [(2, .inl (v2_8 + 1)), (0, .inr (.inr (some 39))), (1, .inr (.inr (some a1))), (3, .inl v3_8), (4, .inl v4_23)]) (st' := [.inl 0, .inl v3_8, .inr (.inr (some 47))]) (h' := gc_h sh I83 J59 A) (C := ((True ∧ True) ∧ True)) rfl ⟨⟨trivial, trivial⟩, trivial⟩ ?_
            refine gv_iast hD rfl S_47 ⟨by decide, B_47⟩ ⟨by exact gz_m 129 (by omega), by exact gz_m 130 (by omega)⟩ ?_
            refine gc_st hI83 S_47 rfl R_47 (lo := (-2147483648)) (hi := 2147483647) rfl rfl (by exact gz_m 131 (by omega)) (by exact gz_m 132 (by omega)) (fun I90 hI90 q91 p91 => ?_)
            have FI90 := gc_frs (W := fun q j => (q = 39 ∧ j = 3) ∨ (q = 39 ∧ j = 4) ∨ (q = 23 ∧ j = 5) ∨ (q = 23 ∧ j = 6) ∨ (q = 23 ∧ j = 7) ∨ (q = 23 ∧ j = 8) ∨ q = a1 ∨ q = 46 ∨ q = 47) FI83 (Or.inr (Or.inr (Or.inr (Or.inr (Or.inr (Or.inr (Or.inr (Or.inr rfl)))))))) p91
            have t92 := p91 23 1 (fun h => absurd h.1 (by decide))
            have t93 := p91 23 5 (fun h => absurd h.1 (by decide))
            have t94 := p91 23 6 (fun h => absurd h.1 (by decide))
            have t95 := p91 23 7 (fun h => absurd h.1 (by decide))
            have t96 := p91 4 1 (fun h => absurd h.1 (by decide))
            have KLT_I90 := gc_LT_fr KLT_I83 (p91 23 5 (fun h => absurd h.1 (by decide))) (p91 23 6 (fun h => absurd h.1 (by decide))) (p91 23 7 (fun h => absurd h.1 (by decide))) (fun k => p91 24 k (fun h => absurd h.1 (by decide)))
            have KTK_I90 := gc_TK_fr KTK_I83 (p91 23 1 (fun h => absurd h.1 (by decide))) (p91 23 5 (fun h => absurd h.1 (by decide))) (p91 23 6 (fun h => absurd h.1 (by decide))) (p91 23 7 (fun h => absurd h.1 (by decide)))
            show gv_X _ _ (151, [(2, .inl (v2_8 + 1)), (0, .inr (.inr (some 39))), (1, .inr (.inr (some a1))), (3, .inl v3_8), (4, .inl v4_23)], [], sh, gc_h sh I90 J59 A)
            refine gv_run 2 true hD (pc' := 155) (lv' := [(3, .inl (v3_8 + 1)), (2, .inl (v2_8 + 1)), (0, .inr (.inr (some 39))), (1, .inr (.inr (some a1))), (4, .inl v4_23)]) (st' := [.inr (.inr (some 39))]) (h' := gc_h sh I90 J59 A) (C := ((True ∧ True) ∧ True)) rfl ⟨⟨trivial, trivial⟩, trivial⟩ ?_
            refine gv_get hD rfl rfl S_39 ⟨by decide, B_39⟩ (gc_hA S_39 rfl A_39_1) ?_
            show gv_X _ _ (158, [(3, .inl (v3_8 + 1)), (2, .inl (v2_8 + 1)), (0, .inr (.inr (some 39))), (1, .inr (.inr (some a1))), (4, .inl v4_23)], [.inr (.inr (some 23))], sh, gc_h sh I90 J59 A)
            have t98 := gc_TK_nx KTK_I90 (by exact gz_m 133 (by omega))
            obtain ⟨r97, h97, E97, P97⟩ := d_X9_advance (ws0 := ws0) (tb := tb) hws htb sh ro I90 J59 A hI90 23  (gc_b23 hb)    (by exact gz_m 134 (by omega)) 
            obtain ⟨I99, J100, rfl, hI99, g97, k97, ⟨rfl, V97_0, V97_1, V97_2, V97_3, V97_4, q97⟩⟩ := P97
            have FI99 := gc_frc (W := fun q j => (q = 39 ∧ j = 3) ∨ (q = 39 ∧ j = 4) ∨ (q = 23 ∧ j = 5) ∨ (q = 23 ∧ j = 6) ∨ (q = 23 ∧ j = 7) ∨ (q = 23 ∧ j = 8) ∨ q = a1 ∨ q = 46 ∨ q = 47) (V := fun q j => (q = 23 ∧ j = 5) ∨ (q = 23 ∧ j = 6) ∨ (q = 23 ∧ j = 7) ∨ (q = 23 ∧ j = 8)) FI90 (fun q j h => (h.elim (fun h => (Or.inr (Or.inr (Or.inl h)))) (fun h => (h.elim (fun h => (Or.inr (Or.inr (Or.inr (Or.inl h))))) (fun h => (h.elim (fun h => (Or.inr (Or.inr (Or.inr (Or.inr (Or.inl h)))))) (fun h => (Or.inr (Or.inr (Or.inr (Or.inr (Or.inr (Or.inl h))))))))))))) g97
            have FJ100 := gc_frc (W := fun q j => (q = 23 ∧ j = 9)) (V := fun q j => (q = 23 ∧ j = 9)) FJ59 (fun q j h => h) k97
            have t101 := (g97 23 1).resolve_left (fun h => h.elim (fun h => absurd h.2 (by decide)) (fun h => h.elim (fun h => absurd h.2 (by decide)) (fun h => h.elim (fun h => absurd h.2 (by decide)) (fun h => absurd h.2 (by decide)))))
            have t102 := (g97 4 1).resolve_left (fun h => h.elim (fun h => absurd h.2 (by decide)) (fun h => h.elim (fun h => absurd h.2 (by decide)) (fun h => h.elim (fun h => absurd h.2 (by decide)) (fun h => absurd h.2 (by decide)))))
            have f103 := (show 0 ≤ I99 23 5 ∧ I99 23 5 ≤ 1000 from gc_in hI99 R_23 rfl rfl)
            have f104 := (show 0 ≤ I99 23 6 ∧ I99 23 6 ≤ 1001 from gc_in hI99 R_23 rfl rfl)
            have f105 := (show 0 ≤ I99 23 7 ∧ I99 23 7 ≤ 125 from gc_in hI99 R_23 rfl rfl)
            have KLT_I99 : gc_LT I99 := q97.2.2
            have KTK_I99 : gc_TK I99 := And.intro V97_0 (And.intro V97_1 (And.intro V97_2 (And.intro V97_3 V97_4)))
            have t106 := gc_TK_mo KTK_I99
            clear V97_0 V97_1 V97_2 V97_3 V97_4
            refine gv_callV hD rfl (As := []) (st := []) rfl B_23 S_23 rfl (gc_lV6 hws rfl) (Nat.le_of_ble_eq_true rfl) (gz_Ev_mono (d := 2) (by decide) E97) ?_
            show gv_X _ _ (161, [(3, .inl (v3_8 + 1)), (2, .inl (v2_8 + 1)), (0, .inr (.inr (some 39))), (1, .inr (.inr (some a1))), (4, .inl v4_23)], [], sh, gc_h sh I99 J100 A)
            refine gv_run 1 true hD (pc' := 11) (lv' := [(3, .inl (v3_8 + 1)), (2, .inl (v2_8 + 1)), (0, .inr (.inr (some 39))), (1, .inr (.inr (some a1))), (4, .inl v4_23)]) (st' := []) (h' := gc_h sh I99 J100 A) (C := (True ∧ True)) rfl ⟨trivial, trivial⟩ ?_
            refine gv_pick [2, 3, 1, 0] rfl ?_
            exact ih11 I99 J100 (v2_8 + 1) (v3_8 + 1) (by exact gz_m 135 (by omega)) hI99 FI99 FJ100 KLT_I99 KTK_I99 (by exact gz_m 136 (by omega)) (fun k hk => by have h4 : I99 46 (Int.toNat v3_8) = v4_23 := (((g97 46 (Int.toNat v3_8)).resolve_left (by exact gz_m 137 (by omega))).trans (p91 46 (Int.toNat v3_8) (fun h => absurd h.1 (by exact gz_m 138 (by omega))))).trans q84; have h5 : I99 47 (Int.toNat v3_8) = 0 := ((g97 47 (Int.toNat v3_8)).resolve_left (by exact gz_m 139 (by omega))).trans q91; have h7 : I99 12 (Int.toNat v4_23) = I58 12 (Int.toNat v4_23) := ((((g97 12 (Int.toNat v4_23)).resolve_left (by exact gz_m 140 (by omega))).trans (p91 12 (Int.toNat v4_23) (fun h => absurd h.1 (by exact gz_m 141 (by omega))))).trans (p84 12 (Int.toNat v4_23) (fun h => absurd h.1 (by exact gz_m 142 (by omega))))); exact (if hkk : k = Int.toNat v3_8 then (by rw [hkk, h4, h5]; exact gz_m 143 (by omega)) else (gc_SE_fr (n := v3_8) e0_8 (fun k hk => ((((((g97 47 k).resolve_left (by exact gz_m 144 (by omega))).trans (p91 47 k (fun h => by have := h.2; exact gz_m 145 (by omega)))).trans (p84 47 k (fun h => absurd h.1 (by exact gz_m 146 (by omega))))).trans ((g56 47 k).resolve_left (by exact gz_m 147 (by omega)))).trans (p50 47 k (fun h => absurd h.1 (by exact gz_m 148 (by omega)))))) (fun k hk => ((((((g97 46 k).resolve_left (by exact gz_m 149 (by omega))).trans (p91 46 k (fun h => absurd h.1 (by exact gz_m 150 (by omega))))).trans (p84 46 k (fun h => by have := h.2; exact gz_m 151 (by omega)))).trans ((g56 46 k).resolve_left (by exact gz_m 152 (by omega)))).trans (p50 46 k (fun h => absurd h.1 (by exact gz_m 153 (by omega)))))) (fun k => ((((((g97 12 k).resolve_left (by exact gz_m 154 (by omega))).trans (p91 12 k (fun h => absurd h.1 (by exact gz_m 155 (by omega))))).trans (p84 12 k (fun h => absurd h.1 (by exact gz_m 156 (by omega))))).trans ((g56 12 k).resolve_left (by exact gz_m 157 (by omega)))).trans (p50 12 k (fun h => absurd h.1 (by exact gz_m 158 (by omega)))))) k (by exact gz_m 159 (by omega))))) (by have h1 := gc_op_fr (I := I6) (I' := I99) (T := a1) (n := Int.toNat v2_8) (fun k hk => ((((((g97 a1 k).resolve_left (by exact gz_m 160 (by omega))).trans (p91 a1 k (fun h => absurd h.1 (by exact gz_m 161 (by omega))))).trans (p84 a1 k (fun h => absurd h.1 (by exact gz_m 162 (by omega))))).trans ((g56 a1 k).resolve_left (by exact gz_m 163 (by omega)))).trans (p50 a1 k (fun h => by have := h.2; exact gz_m 164 (by omega))))) (fun k => ((((((g97 12 k).resolve_left (by exact gz_m 165 (by omega))).trans (p91 12 k (fun h => absurd h.1 (by exact gz_m 166 (by omega))))).trans (p84 12 k (fun h => absurd h.1 (by exact gz_m 167 (by omega))))).trans ((g56 12 k).resolve_left (by exact gz_m 168 (by omega)))).trans (p50 12 k (fun h => absurd h.1 (by exact gz_m 169 (by omega)))))); have h2 := gc_ss_fr (I := I6) (I' := I99) (d := Int.toNat v3_8) (fun k hk => ((((((g97 47 k).resolve_left (by exact gz_m 170 (by omega))).trans (p91 47 k (fun h => by have := h.2; exact gz_m 171 (by omega)))).trans (p84 47 k (fun h => absurd h.1 (by exact gz_m 172 (by omega))))).trans ((g56 47 k).resolve_left (by exact gz_m 173 (by omega)))).trans (p50 47 k (fun h => absurd h.1 (by exact gz_m 174 (by omega)))))) (fun k hk => ((((((g97 46 k).resolve_left (by exact gz_m 175 (by omega))).trans (p91 46 k (fun h => absurd h.1 (by exact gz_m 176 (by omega))))).trans (p84 46 k (fun h => by have := h.2; exact gz_m 177 (by omega)))).trans ((g56 46 k).resolve_left (by exact gz_m 178 (by omega)))).trans (p50 46 k (fun h => absurd h.1 (by exact gz_m 179 (by omega)))))) (fun k => ((((((g97 12 k).resolve_left (by exact gz_m 180 (by omega))).trans (p91 12 k (fun h => absurd h.1 (by exact gz_m 181 (by omega))))).trans (p84 12 k (fun h => absurd h.1 (by exact gz_m 182 (by omega))))).trans ((g56 12 k).resolve_left (by exact gz_m 183 (by omega)))).trans (p50 12 k (fun h => absurd h.1 (by exact gz_m 184 (by omega)))))); have h3 : I99 a1 (Int.toNat v2_8) = v4_23 := (((((g97 a1 (Int.toNat v2_8)).resolve_left (by exact gz_m 185 (by omega))).trans (p91 a1 (Int.toNat v2_8) (fun h => absurd h.1 (by exact gz_m 186 (by omega))))).trans (p84 a1 (Int.toNat v2_8) (fun h => absurd h.1 (by exact gz_m 187 (by omega))))).trans ((g56 a1 (Int.toNat v2_8)).resolve_left (by exact gz_m 188 (by omega)))).trans q50; have h4 : I99 46 (Int.toNat v3_8) = v4_23 := (((g97 46 (Int.toNat v3_8)).resolve_left (by exact gz_m 189 (by omega))).trans (p91 46 (Int.toNat v3_8) (fun h => absurd h.1 (by exact gz_m 190 (by omega))))).trans q84; have h5 : I99 47 (Int.toNat v3_8) = 0 := ((g97 47 (Int.toNat v3_8)).resolve_left (by exact gz_m 191 (by omega))).trans q91; have h7 : I99 12 (Int.toNat v4_23) = I58 12 (Int.toNat v4_23) := ((((g97 12 (Int.toNat v4_23)).resolve_left (by exact gz_m 192 (by omega))).trans (p91 12 (Int.toNat v4_23) (fun h => absurd h.1 (by exact gz_m 193 (by omega))))).trans (p84 12 (Int.toNat v4_23) (fun h => absurd h.1 (by exact gz_m 194 (by omega))))); have h6 := e1_8; rw [show Int.toNat (v2_8 + 1) = Int.toNat v2_8 + 1 from by exact gz_m 195 (by omega), show Int.toNat (v3_8 + 1) = Int.toNat v3_8 + 1 from by exact gz_m 196 (by omega)]; show gc_op I99 a1 (Int.toNat v2_8) - 1 + I99 12 (Int.toNat (I99 a1 (Int.toNat v2_8))) = 1 + (gc_ss I99 (Int.toNat v3_8) + (I99 12 (Int.toNat (I99 46 (Int.toNat v3_8))) - I99 47 (Int.toNat v3_8) - 1)); rw [h3, h4]; exact gz_m 197 (by omega)) (fun k hk => by have h1 := gc_ss_nn (I := I6) (d := Int.toNat v3_8) (fun j hj => e0_8 j (by exact gz_m 198 (by omega))); have h2 := e1_8; exact (if hkk : k = Int.toNat v2_8 then (by rw [hkk, gc_op_fr (I := I6) (I' := I99) (T := a1) (n := Int.toNat v2_8) (fun k hk => ((((((g97 a1 k).resolve_left (by exact gz_m 199 (by omega))).trans (p91 a1 k (fun h => absurd h.1 (by exact gz_m 200 (by omega))))).trans (p84 a1 k (fun h => absurd h.1 (by exact gz_m 201 (by omega))))).trans ((g56 a1 k).resolve_left (by exact gz_m 202 (by omega)))).trans (p50 a1 k (fun h => by have := h.2; exact gz_m 203 (by omega))))) (fun k => ((((((g97 12 k).resolve_left (by exact gz_m 204 (by omega))).trans (p91 12 k (fun h => absurd h.1 (by exact gz_m 205 (by omega))))).trans (p84 12 k (fun h => absurd h.1 (by exact gz_m 206 (by omega))))).trans ((g56 12 k).resolve_left (by exact gz_m 207 (by omega)))).trans (p50 12 k (fun h => absurd h.1 (by exact gz_m 208 (by omega))))))]; exact gz_m 209 (by omega)) else (by rw [gc_op_fr (I := I6) (I' := I99) (T := a1) (n := k) (fun k hk => ((((((g97 a1 k).resolve_left (by exact gz_m 210 (by omega))).trans (p91 a1 k (fun h => absurd h.1 (by exact gz_m 211 (by omega))))).trans (p84 a1 k (fun h => absurd h.1 (by exact gz_m 212 (by omega))))).trans ((g56 a1 k).resolve_left (by exact gz_m 213 (by omega)))).trans (p50 a1 k (fun h => by have := h.2; exact gz_m 214 (by omega))))) (fun k => ((((((g97 12 k).resolve_left (by exact gz_m 215 (by omega))).trans (p91 12 k (fun h => absurd h.1 (by exact gz_m 216 (by omega))))).trans (p84 12 k (fun h => absurd h.1 (by exact gz_m 217 (by omega))))).trans ((g56 12 k).resolve_left (by exact gz_m 218 (by omega)))).trans (p50 12 k (fun h => absurd h.1 (by exact gz_m 219 (by omega))))))]; exact e2_8 k (by exact gz_m 220 (by omega))))) (gc_rg_fr (gc_rg_fr (gc_rg_fr (gc_rg_fr (gc_rg_push e4_8 (by exact gz_m 221 (by omega)) p50 (by exact gz_m 222 (by omega))) (fun k => (g56 a1 k).resolve_left (by exact gz_m 223 (by omega)))) (fun k => p84 a1 k (fun h => absurd h.1 (by exact gz_m 224 (by omega))))) (fun k => p91 a1 k (fun h => absurd h.1 (by exact gz_m 225 (by omega))))) (fun k => (g97 a1 k).resolve_left (by exact gz_m 226 (by omega))))
          · show gv_X _ _ (126, [(2, .inl (v2_8 + 1)), (0, .inr (.inr (some 39))), (1, .inr (.inr (some a1))), (3, .inl v3_8), (4, .inl v4_23)], [], sh, gc_h sh I58 J59 A)
            refine gv_run 2 true hD (pc' := 128) (lv' := [(2, .inl (v2_8 + 1)), (0, .inr (.inr (some 39))), (1, .inr (.inr (some a1))), (3, .inl v3_8), (4, .inl v4_23)]) (st' := [.inr (.inr (some 39)), .inl (-1)]) (h' := gc_h sh I58 J59 A) (C := ((True ∧ True) ∧ True)) rfl ⟨⟨trivial, trivial⟩, trivial⟩ ?_
            refine gv_get hD rfl rfl S_39 ⟨by decide, B_39⟩ (gc_hA S_39 rfl A_39_1) ?_
            show gv_X _ _ (131, [(2, .inl (v2_8 + 1)), (0, .inr (.inr (some 39))), (1, .inr (.inr (some a1))), (3, .inl v3_8), (4, .inl v4_23)], [.inr (.inr (some 23)), .inl (-1)], sh, gc_h sh I58 J59 A)
            have f107 := (show 0 ≤ I58 23 5 ∧ I58 23 5 ≤ 1000 from gc_in hI58 R_23 rfl rfl)
            refine gv_get hD rfl rfl S_23 ⟨by decide, B_23⟩ (gc_hI S_23 rfl) ?_
            show gv_X _ _ (134, [(2, .inl (v2_8 + 1)), (0, .inr (.inr (some 39))), (1, .inr (.inr (some a1))), (3, .inl v3_8), (4, .inl v4_23)], [.inl (I58 23 5), .inl (-1)], sh, gc_h sh I58 J59 A)
            refine gv_run 1 true hD (pc' := 135) (lv' := [(2, .inl (v2_8 + 1)), (0, .inr (.inr (some 39))), (1, .inr (.inr (some a1))), (3, .inl v3_8), (4, .inl v4_23)]) (st' := [.inl ((-1) - (I58 23 5))]) (h' := gc_h sh I58 J59 A) (C := (True ∧ True)) rfl ⟨trivial, trivial⟩ ?_
            exact gv_iret hD rfl ⟨I58, J59, rfl, hI58, FI58, FJ59, ⟨_, rfl, by exact gz_m 227 (by omega), by exact gz_m 228 (by omega), by exact gz_m 229 (by omega), (Or.inl (by exact gz_m 230 (by omega))), by exact gz_m 231 (by omega), (Or.inl (by exact gz_m 232 (by omega)))⟩⟩
      have L206 : ((I6 23 1 = I 23 1) ∧ (I6 4 1 = I 4 1)) → gv_X (gc_E6 ws0 tb 3 (yX6_readTree, cX6_readTree, 5, (some .int)) kX6_readTree) (gv_Q cX6_readTree (some .int) sh (fun r h' => (∃ (I' : gr_I) (J' : gr_J), h' = gc_h sh I' J' A ∧ gc_Inv ro I' ∧ (∀ q j : Nat, ((q = 39 ∧ j = 3) ∨ (q = 39 ∧ j = 4) ∨ (q = 23 ∧ j = 5) ∨ (q = 23 ∧ j = 6) ∨ (q = 23 ∧ j = 7) ∨ (q = 23 ∧ j = 8) ∨ q = a1 ∨ q = 46 ∨ q = 47) ∨ I' q j = I q j) ∧ (∀ q j : Nat, ((q = 23 ∧ j = 9)) ∨ J' q j = J q j) ∧ (∃ z : Int, r = some (.inl z) ∧ (-1001) ≤ z ∧ z ≤ 60 ∧ (I' 23 1 = I 23 1) ∧ (z ≤ 0 ∨ gc_wtr I' a1 z) ∧ (z ≤ 60) ∧ (z ≤ 0 ∨ gc_rg a1 I' z 0 (I 4 1 - 1)))))) (206, [(0, .inr (.inr (some 39)))], [], sh, gc_h sh I6 J7 A) := by
        intro m_108
        obtain ⟨e0_108, e1_108⟩ := m_108
        have t109 := gc_TK_mo KTK_I6
        have f110 := (show 0 ≤ I6 23 1 ∧ I6 23 1 ≤ 1000 from gc_in hI6 R_23 rfl rfl)
        have f111 := (show 0 ≤ I6 23 5 ∧ I6 23 5 ≤ 1000 from gc_in hI6 R_23 rfl rfl)
        have f112 := (show 0 ≤ I6 23 6 ∧ I6 23 6 ≤ 1001 from gc_in hI6 R_23 rfl rfl)
        have f113 := (show 0 ≤ I6 23 7 ∧ I6 23 7 ≤ 125 from gc_in hI6 R_23 rfl rfl)
        have f114 := (show 0 ≤ I6 4 1 ∧ I6 4 1 ≤ 96 from gc_in hI6 R_4 rfl rfl)
        refine gv_run 2 true hD (pc' := 208) (lv' := [(0, .inr (.inr (some 39)))]) (st' := [.inr (.inr (some 39)), .inl (-1)]) (h' := gc_h sh I6 J7 A) (C := ((True ∧ True) ∧ True)) rfl ⟨⟨trivial, trivial⟩, trivial⟩ ?_
        refine gv_get hD rfl rfl S_39 ⟨by decide, B_39⟩ (gc_hA S_39 rfl A_39_1) ?_
        show gv_X _ _ (211, [(0, .inr (.inr (some 39)))], [.inr (.inr (some 23)), .inl (-1)], sh, gc_h sh I6 J7 A)
        have f115 := (show 0 ≤ I6 23 5 ∧ I6 23 5 ≤ 1000 from gc_in hI6 R_23 rfl rfl)
        refine gv_get hD rfl rfl S_23 ⟨by decide, B_23⟩ (gc_hI S_23 rfl) ?_
        show gv_X _ _ (214, [(0, .inr (.inr (some 39)))], [.inl (I6 23 5), .inl (-1)], sh, gc_h sh I6 J7 A)
        refine gv_run 1 true hD (pc' := 215) (lv' := [(0, .inr (.inr (some 39)))]) (st' := [.inl ((-1) - (I6 23 5))]) (h' := gc_h sh I6 J7 A) (C := (True ∧ True)) rfl ⟨trivial, trivial⟩ ?_
        exact gv_iret hD rfl ⟨I6, J7, rfl, hI6, FI6, FJ7, ⟨_, rfl, by exact gz_m 233 (by omega), by exact gz_m 234 (by omega), by exact gz_m 235 (by omega), (Or.inl (by exact gz_m 236 (by omega))), by exact gz_m 237 (by omega), (Or.inl (by exact gz_m 238 (by omega)))⟩⟩
      refine gv_run 2 true hD (pc' := 14) (lv' := [(0, .inr (.inr (some 39))), (1, .inr (.inr (some a1))), (2, .inl v2_8), (3, .inl v3_8)]) (st' := [.inl 60, .inl v2_8]) (h' := gc_h sh I6 J7 A) (C := ((True ∧ True) ∧ True)) rfl ⟨⟨trivial, trivial⟩, trivial⟩ ?_
      refine gv_icmp_ge (t := 206) hD rfl rfl ⟨⟨by exact gz_m 239 (by omega), by exact gz_m 240 (by omega)⟩, ⟨by exact gz_m 241 (by omega), by exact gz_m 242 (by omega)⟩⟩ (fun c116 => ?_) (fun c116 => ?_)
      · show gv_X _ _ (206, [(0, .inr (.inr (some 39))), (1, .inr (.inr (some a1))), (2, .inl v2_8), (3, .inl v3_8)], [], sh, gc_h sh I6 J7 A)
        refine gv_pick [0] rfl ?_
        exact L206 (by exact gz_m 243 (by omega))
      · show gv_X _ _ (17, [(0, .inr (.inr (some 39))), (1, .inr (.inr (some a1))), (2, .inl v2_8), (3, .inl v3_8)], [], sh, gc_h sh I6 J7 A)
        refine gv_run 1 true hD (pc' := 18) (lv' := [(0, .inr (.inr (some 39))), (1, .inr (.inr (some a1))), (2, .inl v2_8), (3, .inl v3_8)]) (st' := [.inr (.inr (some 39))]) (h' := gc_h sh I6 J7 A) (C := (True ∧ True)) rfl ⟨trivial, trivial⟩ ?_
        refine gv_get hD rfl rfl S_39 ⟨by decide, B_39⟩ (gc_hA S_39 rfl A_39_1) ?_
        show gv_X _ _ (21, [(0, .inr (.inr (some 39))), (1, .inr (.inr (some a1))), (2, .inl v2_8), (3, .inl v3_8)], [.inr (.inr (some 23))], sh, gc_h sh I6 J7 A)
        have f117 := (show 0 ≤ I6 23 7 ∧ I6 23 7 ≤ 125 from gc_in hI6 R_23 rfl rfl)
        refine gv_get hD rfl rfl S_23 ⟨by decide, B_23⟩ (gc_hI S_23 rfl) ?_
        show gv_X _ _ (24, [(0, .inr (.inr (some 39))), (1, .inr (.inr (some a1))), (2, .inl v2_8), (3, .inl v3_8)], [.inl (I6 23 7)], sh, gc_h sh I6 J7 A)
        refine gv_run 1 true hD (pc' := 25) (lv' := [(0, .inr (.inr (some 39))), (1, .inr (.inr (some a1))), (2, .inl v2_8), (3, .inl v3_8)]) (st' := [.inl 1, .inl (I6 23 7)]) (h' := gc_h sh I6 J7 A) (C := (True ∧ True)) rfl ⟨trivial, trivial⟩ ?_
        refine gv_icmp_ne (t := 206) hD rfl rfl ⟨⟨by exact gz_m 244 (by omega), by exact gz_m 245 (by omega)⟩, ⟨by exact gz_m 246 (by omega), by exact gz_m 247 (by omega)⟩⟩ (fun c118 => ?_) (fun c118 => ?_)
        · show gv_X _ _ (206, [(0, .inr (.inr (some 39))), (1, .inr (.inr (some a1))), (2, .inl v2_8), (3, .inl v3_8)], [], sh, gc_h sh I6 J7 A)
          refine gv_pick [0] rfl ?_
          exact L206 (by exact gz_m 248 (by omega))
        · show gv_X _ _ (28, [(0, .inr (.inr (some 39))), (1, .inr (.inr (some a1))), (2, .inl v2_8), (3, .inl v3_8)], [], sh, gc_h sh I6 J7 A)
          refine gv_run 1 true hD (pc' := 29) (lv' := [(0, .inr (.inr (some 39))), (1, .inr (.inr (some a1))), (2, .inl v2_8), (3, .inl v3_8)]) (st' := [.inr (.inr (some 39))]) (h' := gc_h sh I6 J7 A) (C := (True ∧ True)) rfl ⟨trivial, trivial⟩ ?_
          refine gv_get hD rfl rfl S_39 ⟨by decide, B_39⟩ (gc_hA S_39 rfl A_39_0) ?_
          show gv_X _ _ (32, [(0, .inr (.inr (some 39))), (1, .inr (.inr (some a1))), (2, .inl v2_8), (3, .inl v3_8)], [.inr (.inr (some 1))], sh, gc_h sh I6 J7 A)
          refine gv_get hD rfl rfl S_1 ⟨by decide, B_1⟩ (gc_hA S_1 rfl A_1_1) ?_
          show gv_X _ _ (35, [(0, .inr (.inr (some 39))), (1, .inr (.inr (some a1))), (2, .inl v2_8), (3, .inl v3_8)], [.inr (.inr (some 4))], sh, gc_h sh I6 J7 A)
          refine gv_run 1 true hD (pc' := 36) (lv' := [(0, .inr (.inr (some 39))), (1, .inr (.inr (some a1))), (2, .inl v2_8), (3, .inl v3_8)]) (st' := [.inr (.inr (some 39)), .inr (.inr (some 4))]) (h' := gc_h sh I6 J7 A) (C := (True ∧ True)) rfl ⟨trivial, trivial⟩ ?_
          refine gv_get hD rfl rfl S_39 ⟨by decide, B_39⟩ (gc_hA S_39 rfl A_39_1) ?_
          show gv_X _ _ (39, [(0, .inr (.inr (some 39))), (1, .inr (.inr (some a1))), (2, .inl v2_8), (3, .inl v3_8)], [.inr (.inr (some 23)), .inr (.inr (some 4))], sh, gc_h sh I6 J7 A)
          refine gv_get hD rfl rfl S_23 ⟨by decide, B_23⟩ (gc_hJ S_23 rfl) ?_
          show gv_X _ _ (42, [(0, .inr (.inr (some 39))), (1, .inr (.inr (some a1))), (2, .inl v2_8), (3, .inl v3_8)], [.inr (.inl (J7 23 9)), .inr (.inr (some 4))], sh, gc_h sh I6 J7 A)
          obtain ⟨r119, h119, E119, P119⟩ := d_X4_find (ws0 := ws0) (tb := tb) hws htb sh ro I6 J7 A hI6 4 96 11 (J7 23 9) (gc_b4 hb)     
          obtain ⟨rfl, ⟨z119, rfl, q119⟩⟩ := P119
          refine gv_callV hD rfl (As := [.inr (.inl (J7 23 9))]) (st := []) rfl B_4 S_4 rfl (gc_lV6 hws rfl) (Nat.le_of_ble_eq_true rfl) (gz_Ev_mono (d := 1) (by decide) E119) ?_
          show gv_X _ _ (45, [(0, .inr (.inr (some 39))), (1, .inr (.inr (some a1))), (2, .inl v2_8), (3, .inl v3_8)], [.inl z119], sh, gc_h sh I6 J7 A)
          refine gv_run 2 true hD (pc' := 49) (lv' := [(4, .inl z119), (0, .inr (.inr (some 39))), (1, .inr (.inr (some a1))), (2, .inl v2_8), (3, .inl v3_8)]) (st' := [.inl z119]) (h' := gc_h sh I6 J7 A) (C := ((True ∧ True) ∧ True)) rfl ⟨⟨trivial, trivial⟩, trivial⟩ ?_
          refine gv_if_lt (t := 76) hD rfl rfl ⟨by exact gz_m 249 (by omega), by exact gz_m 250 (by omega)⟩ (fun c120 => ?_) (fun c120 => ?_)
          · show gv_X _ _ (76, [(4, .inl z119), (0, .inr (.inr (some 39))), (1, .inr (.inr (some a1))), (2, .inl v2_8), (3, .inl v3_8)], [], sh, gc_h sh I6 J7 A)
            refine gv_pick [1] rfl ?_
            exact L76 (by exact gz_m 251 (by omega))
          · show gv_X _ _ (52, [(4, .inl z119), (0, .inr (.inr (some 39))), (1, .inr (.inr (some a1))), (2, .inl v2_8), (3, .inl v3_8)], [], sh, gc_h sh I6 J7 A)
            refine gv_run 1 true hD (pc' := 53) (lv' := [(4, .inl z119), (0, .inr (.inr (some 39))), (1, .inr (.inr (some a1))), (2, .inl v2_8), (3, .inl v3_8)]) (st' := [.inl v3_8]) (h' := gc_h sh I6 J7 A) (C := (True ∧ True)) rfl ⟨trivial, trivial⟩ ?_
            refine gv_if_le (t := 86) hD rfl rfl ⟨by exact gz_m 252 (by omega), by exact gz_m 253 (by omega)⟩ (fun c121 => ?_) (fun c121 => ?_)
            · show gv_X _ _ (86, [(4, .inl z119), (0, .inr (.inr (some 39))), (1, .inr (.inr (some a1))), (2, .inl v2_8), (3, .inl v3_8)], [], sh, gc_h sh I6 J7 A)
              refine gv_pick [1, 2, 3, 4, 0] rfl ?_
              exact L86 z119 (by exact gz_m 254 (by omega))
            · show gv_X _ _ (56, [(4, .inl z119), (0, .inr (.inr (some 39))), (1, .inr (.inr (some a1))), (2, .inl v2_8), (3, .inl v3_8)], [], sh, gc_h sh I6 J7 A)
              refine gv_run 1 true hD (pc' := 57) (lv' := [(4, .inl z119), (0, .inr (.inr (some 39))), (1, .inr (.inr (some a1))), (2, .inl v2_8), (3, .inl v3_8)]) (st' := [.inr (.inr (some 39))]) (h' := gc_h sh I6 J7 A) (C := (True ∧ True)) rfl ⟨trivial, trivial⟩ ?_
              refine gv_get hD rfl rfl S_39 ⟨by decide, B_39⟩ (gc_hA S_39 rfl A_39_0) ?_
              show gv_X _ _ (60, [(4, .inl z119), (0, .inr (.inr (some 39))), (1, .inr (.inr (some a1))), (2, .inl v2_8), (3, .inl v3_8)], [.inr (.inr (some 1))], sh, gc_h sh I6 J7 A)
              refine gv_get hD rfl rfl S_1 ⟨by decide, B_1⟩ (gc_hA S_1 rfl A_1_6) ?_
              show gv_X _ _ (63, [(4, .inl z119), (0, .inr (.inr (some 39))), (1, .inr (.inr (some a1))), (2, .inl v2_8), (3, .inl v3_8)], [.inr (.inr (some 11))], sh, gc_h sh I6 J7 A)
              refine gv_run 1 true hD (pc' := 65) (lv' := [(4, .inl z119), (0, .inr (.inr (some 39))), (1, .inr (.inr (some a1))), (2, .inl v2_8), (3, .inl v3_8)]) (st' := [.inl z119, .inr (.inr (some 11))]) (h' := gc_h sh I6 J7 A) (C := (True ∧ True)) rfl ⟨trivial, trivial⟩ ?_
              have f122 := (show 0 ≤ I6 11 (Int.toNat z119) ∧ I6 11 (Int.toNat z119) ≤ 31 from gc_in hI6 R_11 rfl rfl)
              refine gv_iald hD rfl S_11 rfl ⟨by decide, B_11⟩ ⟨by exact gz_m 255 (by omega), by exact gz_m 256 (by omega)⟩ (gc_iI S_11 rfl) ?_
              show gv_X _ _ (66, [(4, .inl z119), (0, .inr (.inr (some 39))), (1, .inr (.inr (some a1))), (2, .inl v2_8), (3, .inl v3_8)], [.inl (I6 11 (Int.toNat z119))], sh, gc_h sh I6 J7 A)
              have t123 := e0_8 (Int.toNat (v3_8 - 1)) (by exact gz_m 257 (by omega))
              have t124 := (show 0 ≤ I6 12 (Int.toNat (I6 46 (Int.toNat (v3_8 - 1)))) ∧ I6 12 (Int.toNat (I6 46 (Int.toNat (v3_8 - 1)))) ≤ 4 from gc_in hI6 R_12 rfl rfl)
              refine gv_run 4 true hD (pc' := 70) (lv' := [(4, .inl z119), (0, .inr (.inr (some 39))), (1, .inr (.inr (some a1))), (2, .inl v2_8), (3, .inl v3_8)]) (st' := [.inl (v3_8 - 1), .inr (.inr (some 39)), .inl (I6 11 (Int.toNat z119))]) (h' := gc_h sh I6 J7 A) (C := ((((True ∧ True) ∧ True) ∧ True) ∧ True)) rfl ⟨⟨⟨⟨trivial, trivial⟩, trivial⟩, trivial⟩, trivial⟩ ?_
              obtain ⟨r125, h125, E125, P125⟩ := d_X6_kindWanted (ws0 := ws0) (tb := tb) hws htb sh ro I6 J7 A hI6  (v3_8 - 1) hb   ⟨by exact gz_m 258 (by omega), by exact gz_m 259 (by omega)⟩ (by exact gz_m 260 (by omega)) 
              obtain ⟨rfl, ⟨z125, rfl, q125⟩⟩ := P125
              refine gv_callV hD rfl (As := [.inl (v3_8 - 1)]) (st := [.inl (I6 11 (Int.toNat z119))]) rfl B_39 S_39 rfl (gc_lV6 hws rfl) (Nat.le_of_ble_eq_true rfl) (gz_Ev_mono (d := 1) (by decide) E125) ?_
              show gv_X _ _ (73, [(4, .inl z119), (0, .inr (.inr (some 39))), (1, .inr (.inr (some a1))), (2, .inl v2_8), (3, .inl v3_8)], [.inl z125, .inl (I6 11 (Int.toNat z119))], sh, gc_h sh I6 J7 A)
              refine gv_icmp_eq (t := 86) hD rfl rfl ⟨⟨by exact gz_m 261 (by omega), by exact gz_m 262 (by omega)⟩, ⟨by exact gz_m 263 (by omega), by exact gz_m 264 (by omega)⟩⟩ (fun c126 => ?_) (fun c126 => ?_)
              · show gv_X _ _ (86, [(4, .inl z119), (0, .inr (.inr (some 39))), (1, .inr (.inr (some a1))), (2, .inl v2_8), (3, .inl v3_8)], [], sh, gc_h sh I6 J7 A)
                refine gv_pick [1, 2, 3, 4, 0] rfl ?_
                exact L86 z119 (by exact gz_m 265 (by omega))
              · show gv_X _ _ (76, [(4, .inl z119), (0, .inr (.inr (some 39))), (1, .inr (.inr (some a1))), (2, .inl v2_8), (3, .inl v3_8)], [], sh, gc_h sh I6 J7 A)
                refine gv_pick [1] rfl ?_
                exact L76 (by exact gz_m 266 (by omega))
  refine gv_run 1 true hD (pc' := 1) (lv' := [(0, .inr (.inr (some 39))), (1, .inr (.inr (some a1)))]) (st' := [.inr (.inr (some 39))]) (h' := gc_h sh I J A) (C := (True ∧ True)) rfl ⟨trivial, trivial⟩ ?_
  refine gv_get hD rfl rfl S_39 ⟨by decide, B_39⟩ (gc_hA S_39 rfl A_39_1) ?_
  show gv_X _ _ (4, [(0, .inr (.inr (some 39))), (1, .inr (.inr (some a1)))], [.inr (.inr (some 23))], sh, gc_h sh I J A)
  obtain ⟨r127, h127, E127, P127⟩ := d_X9_rewind (ws0 := ws0) (tb := tb) hws htb sh ro I J A hI 23  (gc_b23 hb)     
  obtain ⟨I128, J129, rfl, hI128, g127, k127, ⟨rfl, V127_0, V127_1, V127_2, V127_3, V127_4, q127⟩⟩ := P127
  have FI128 := gc_frc (W := fun q j => (q = 39 ∧ j = 3) ∨ (q = 39 ∧ j = 4) ∨ (q = 23 ∧ j = 5) ∨ (q = 23 ∧ j = 6) ∨ (q = 23 ∧ j = 7) ∨ (q = 23 ∧ j = 8) ∨ q = a1 ∨ q = 46 ∨ q = 47) (V := fun q j => (q = 23 ∧ j = 5) ∨ (q = 23 ∧ j = 6) ∨ (q = 23 ∧ j = 7) ∨ (q = 23 ∧ j = 8)) FI (fun q j h => (h.elim (fun h => (Or.inr (Or.inr (Or.inl h)))) (fun h => (h.elim (fun h => (Or.inr (Or.inr (Or.inr (Or.inl h))))) (fun h => (h.elim (fun h => (Or.inr (Or.inr (Or.inr (Or.inr (Or.inl h)))))) (fun h => (Or.inr (Or.inr (Or.inr (Or.inr (Or.inr (Or.inl h))))))))))))) g127
  have FJ129 := gc_frc (W := fun q j => (q = 23 ∧ j = 9)) (V := fun q j => (q = 23 ∧ j = 9)) FJ (fun q j h => h) k127
  have t130 := (g127 23 1).resolve_left (fun h => h.elim (fun h => absurd h.2 (by decide)) (fun h => h.elim (fun h => absurd h.2 (by decide)) (fun h => h.elim (fun h => absurd h.2 (by decide)) (fun h => absurd h.2 (by decide)))))
  have t131 := (g127 4 1).resolve_left (fun h => h.elim (fun h => absurd h.2 (by decide)) (fun h => h.elim (fun h => absurd h.2 (by decide)) (fun h => h.elim (fun h => absurd h.2 (by decide)) (fun h => absurd h.2 (by decide)))))
  have f132 := (show 0 ≤ I128 23 5 ∧ I128 23 5 ≤ 1000 from gc_in hI128 R_23 rfl rfl)
  have f133 := (show 0 ≤ I128 23 6 ∧ I128 23 6 ≤ 1001 from gc_in hI128 R_23 rfl rfl)
  have f134 := (show 0 ≤ I128 23 7 ∧ I128 23 7 ≤ 125 from gc_in hI128 R_23 rfl rfl)
  have KLT_I128 : gc_LT I128 := q127.2
  have KTK_I128 : gc_TK I128 := And.intro V127_0 (And.intro V127_1 (And.intro V127_2 (And.intro V127_3 V127_4)))
  have t135 := gc_TK_mo KTK_I128
  clear V127_0 V127_1 V127_2 V127_3 V127_4
  refine gv_callV hD rfl (As := []) (st := []) rfl B_23 S_23 rfl (gc_lV6 hws rfl) (Nat.le_of_ble_eq_true rfl) (gz_Ev_mono (d := 3) (by decide) E127) ?_
  show gv_X _ _ (7, [(0, .inr (.inr (some 39))), (1, .inr (.inr (some a1)))], [], sh, gc_h sh I128 J129 A)
  refine gv_run 4 true hD (pc' := 11) (lv' := [(3, .inl 0), (2, .inl 0), (0, .inr (.inr (some 39))), (1, .inr (.inr (some a1)))]) (st' := []) (h' := gc_h sh I128 J129 A) (C := ((((True ∧ True) ∧ True) ∧ True) ∧ True)) rfl ⟨⟨⟨⟨trivial, trivial⟩, trivial⟩, trivial⟩, trivial⟩ ?_
  refine gv_pick [2, 3, 1, 0] rfl ?_
  exact L11 _ I128 J129 0 0 (Nat.lt_succ_self _) hI128 FI128 FJ129 KLT_I128 KTK_I128 (by exact gz_m 267 (by omega)) (fun k hk => by exact gz_m 268 (by omega)) (show (1 : Int) = 1 + 0 from rfl) (fun k hk => by exact gz_m 269 (by omega)) (fun k a b => by exact gz_m 270 (by omega))
