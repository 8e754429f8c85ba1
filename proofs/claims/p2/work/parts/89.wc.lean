set_option maxHeartbeats 4000000 in
set_option maxRecDepth 100000 in
theorem d_X6_readFun_a {ws0 : List Cond} {tb : String → gz_T} (hws : gc_Ws ws0) (htb : gc_tbs tb) (sh : gz_Sh) (ro : Nat → Nat) (I : gr_I) (J : gr_J) (A : gc_A) (hI : gc_Inv ro I)  (hb : gc_Base sh ro A)  (KLT_I : gc_LT I) (KTK_I : gc_TK I) : ∃ r h', gz_Ev ws0 tb 5 (yX6_readFun, cX6_readFun, 7, (some .boolean)) [.inr (.inr (some 39))] sh (gc_h sh I J A) r sh h' 0 0 ∧ (∃ (I' : gr_I) (J' : gr_J), h' = gc_h sh I' J' A ∧ gc_Inv ro I' ∧ (∀ q j : Nat, ((q = 39 ∧ j = 3) ∨ (q = 39 ∧ j = 4) ∨ (q = 23 ∧ j = 5) ∨ (q = 23 ∧ j = 6) ∨ (q = 23 ∧ j = 7) ∨ (q = 23 ∧ j = 8) ∨ (q = 39 ∧ j = 7) ∨ q = 41 ∨ (q = 4 ∧ j = 1) ∨ (q = 11 ∧ (I 4 1 ≤ (j : Int))) ∨ (q = 12 ∧ (I 4 1 ≤ (j : Int))) ∨ (q = 13 ∧ (4 * I 4 1 ≤ (j : Int))) ∨ q = 14) ∨ I' q j = I q j) ∧ (∀ q j : Nat, ((q = 23 ∧ j = 9) ∨ q = 5) ∨ J' q j = J q j) ∧ gc_LT I' ∧ gc_TK I' ∧ (∃ z : Int, r = some (.inl z) ∧ 0 ≤ z ∧ z ≤ 1 ∧ (I' 23 1 = I 23 1) ∧ (I 23 5 ≤ I' 23 5) ∧ (I 4 1 ≤ I' 4 1) ∧ (z = 1 ∨ I' 4 1 = I 4 1))) := by
  have FI : ∀ q j : Nat, ((q = 39 ∧ j = 3) ∨ (q = 39 ∧ j = 4) ∨ (q = 23 ∧ j = 5) ∨ (q = 23 ∧ j = 6) ∨ (q = 23 ∧ j = 7) ∨ (q = 23 ∧ j = 8) ∨ (q = 39 ∧ j = 7) ∨ q = 41 ∨ (q = 4 ∧ j = 1) ∨ (q = 11 ∧ (I 4 1 ≤ (j : Int))) ∨ (q = 12 ∧ (I 4 1 ≤ (j : Int))) ∨ (q = 13 ∧ (4 * I 4 1 ≤ (j : Int))) ∨ q = 14) ∨ I q j = I q j := fun _ _ => Or.inr rfl
  have FJ : ∀ q j : Nat, ((q = 23 ∧ j = 9) ∨ q = 5) ∨ J q j = J q j := fun _ _ => Or.inr rfl
  have A_1_0 : A 1 0 = some 2 := gc_bA hb rfl
  have A_1_1 : A 1 1 = some 4 := gc_bA hb rfl
  have A_1_6 : A 1 6 = some 11 := gc_bA hb rfl
  have A_1_7 : A 1 7 = some 12 := gc_bA hb rfl
  have A_1_8 : A 1 8 = some 13 := gc_bA hb rfl
  have A_1_9 : A 1 9 = some 14 := gc_bA hb rfl
  have A_39_0 : A 39 0 = some 1 := gc_bA hb rfl
  have A_39_1 : A 39 1 = some 23 := gc_bA hb rfl
  have A_39_10 : A 39 10 = some 41 := gc_bA hb rfl
  have B_1 : 1 < 1000000 := by decide
  have B_11 : 11 < 1000000 := by decide
  have B_12 : 12 < 1000000 := by decide
  have B_13 : 13 < 1000000 := by decide
  have B_14 : 14 < 1000000 := by decide
  have B_2 : 2 < 1000000 := by decide
  have B_23 : 23 < 1000000 := by decide
  have B_39 : 39 < 1000000 := by decide
  have B_4 : 4 < 1000000 := by decide
  have B_41 : 41 < 1000000 := by decide
  have R_11 : ro 11 = 25 := gc_bR hb (by decide) rfl
  have R_12 : ro 12 = 26 := gc_bR hb (by decide) rfl
  have R_13 : ro 13 = 25 := gc_bR hb (by decide) rfl
  have R_14 : ro 14 = 27 := gc_bR hb (by decide) rfl
  have R_2 : ro 2 = 9 := gc_bR hb (by decide) rfl
  have R_23 : ro 23 = 3 := gc_bR hb (by decide) rfl
  have R_39 : ro 39 = 42 := gc_bR hb (by decide) rfl
  have R_4 : ro 4 = 11 := gc_bR hb (by decide) rfl
  have R_41 : ro 41 = 0 := gc_bR hb (by decide) rfl
  have S_1 : sh[1]? = some (false, 8, 21) := gc_bS hb rfl
  have S_11 : sh[11]? = some (true, 1, 96) := gc_bS hb rfl
  have S_12 : sh[12]? = some (true, 1, 96) := gc_bS hb rfl
  have S_13 : sh[13]? = some (true, 1, 384) := gc_bS hb rfl
  have S_14 : sh[14]? = some (true, 1, 96) := gc_bS hb rfl
  have S_2 : sh[2]? = some (false, 4, 2) := gc_bS hb rfl
  have S_23 : sh[23]? = some (false, 9, 10) := gc_bS hb rfl
  have S_39 : sh[39]? = some (false, 6, 19) := gc_bS hb rfl
  have S_4 : sh[4]? = some (false, 4, 2) := gc_bS hb rfl
  have S_41 : sh[41]? = some (true, 1, 25) := gc_bS hb rfl
  have hD : gv_D (gc_E6 ws0 tb 4 (yX6_readFun, cX6_readFun, 7, (some .boolean)) kX6_readFun) := gq_ok oX6_readFun
  refine gc_ev6 (d := 4) (l := kX6_readFun) (Po := fun r h' => (∃ (I' : gr_I) (J' : gr_J), h' = gc_h sh I' J' A ∧ gc_Inv ro I' ∧ (∀ q j : Nat, ((q = 39 ∧ j = 3) ∨ (q = 39 ∧ j = 4) ∨ (q = 23 ∧ j = 5) ∨ (q = 23 ∧ j = 6) ∨ (q = 23 ∧ j = 7) ∨ (q = 23 ∧ j = 8) ∨ (q = 39 ∧ j = 7) ∨ q = 41 ∨ (q = 4 ∧ j = 1) ∨ (q = 11 ∧ (I 4 1 ≤ (j : Int))) ∨ (q = 12 ∧ (I 4 1 ≤ (j : Int))) ∨ (q = 13 ∧ (4 * I 4 1 ≤ (j : Int))) ∨ q = 14) ∨ I' q j = I q j) ∧ (∀ q j : Nat, ((q = 23 ∧ j = 9) ∨ q = 5) ∨ J' q j = J q j) ∧ gc_LT I' ∧ gc_TK I' ∧ (∃ z : Int, r = some (.inl z) ∧ 0 ≤ z ∧ z ≤ 1 ∧ (I' 23 1 = I 23 1) ∧ (I 23 5 ≤ I' 23 5) ∧ (I 4 1 ≤ I' 4 1) ∧ (z = 1 ∨ I' 4 1 = I 4 1)))) htb rfl (Nat.le_of_ble_eq_true rfl) ?_
  have t1 := gc_TK_mo KTK_I
  have f2 := (show 0 ≤ I 23 1 ∧ I 23 1 ≤ 1000 from gc_in hI R_23 rfl rfl)
  have f3 := (show 0 ≤ I 23 5 ∧ I 23 5 ≤ 1000 from gc_in hI R_23 rfl rfl)
  have f4 := (show 0 ≤ I 23 6 ∧ I 23 6 ≤ 1001 from gc_in hI R_23 rfl rfl)
  have f5 := (show 0 ≤ I 23 7 ∧ I 23 7 ≤ 125 from gc_in hI R_23 rfl rfl)
  have f6 := (show 0 ≤ I 4 1 ∧ I 4 1 ≤ 96 from gc_in hI R_4 rfl rfl)
  have f7 := (show 0 ≤ I 2 1 ∧ I 2 1 ≤ 32 from gc_in hI R_2 rfl rfl)
  have L53 : ∀ (n9 : Nat) (I8 : gr_I) (J9 : gr_J) (v1_10 : Int64) (v3_10 : Int) (v5_10 : Int), (5 - v3_10).toNat < n9 → gc_Inv ro I8 → (∀ q j : Nat, ((q = 39 ∧ j = 3) ∨ (q = 39 ∧ j = 4) ∨ (q = 23 ∧ j = 5) ∨ (q = 23 ∧ j = 6) ∨ (q = 23 ∧ j = 7) ∨ (q = 23 ∧ j = 8) ∨ (q = 39 ∧ j = 7) ∨ q = 41 ∨ (q = 4 ∧ j = 1) ∨ (q = 11 ∧ (I 4 1 ≤ (j : Int))) ∨ (q = 12 ∧ (I 4 1 ≤ (j : Int))) ∨ (q = 13 ∧ (4 * I 4 1 ≤ (j : Int))) ∨ q = 14) ∨ I8 q j = I q j) → (∀ q j : Nat, ((q = 23 ∧ j = 9) ∨ q = 5) ∨ J9 q j = J q j) → gc_LT I8 → gc_TK I8 → ((0 ≤ v3_10 ∧ v3_10 ≤ 4) ∧ (0 ≤ v5_10 ∧ v5_10 ≤ 5) ∧ (I8 23 1 = I 23 1) ∧ (I 23 5 ≤ I8 23 5) ∧ (I8 4 1 = I 4 1)) → (gc_rg 41 I8 v3_10 0 31) → gv_X (gc_E6 ws0 tb 4 (yX6_readFun, cX6_readFun, 7, (some .boolean)) kX6_readFun) (gv_Q cX6_readFun (some .boolean) sh (fun r h' => (∃ (I' : gr_I) (J' : gr_J), h' = gc_h sh I' J' A ∧ gc_Inv ro I' ∧ (∀ q j : Nat, ((q = 39 ∧ j = 3) ∨ (q = 39 ∧ j = 4) ∨ (q = 23 ∧ j = 5) ∨ (q = 23 ∧ j = 6) ∨ (q = 23 ∧ j = 7) ∨ (q = 23 ∧ j = 8) ∨ (q = 39 ∧ j = 7) ∨ q = 41 ∨ (q = 4 ∧ j = 1) ∨ (q = 11 ∧ (I 4 1 ≤ (j : Int))) ∨ (q = 12 ∧ (I 4 1 ≤ (j : Int))) ∨ (q = 13 ∧ (4 * I 4 1 ≤ (j : Int))) ∨ q = 14) ∨ I' q j = I q j) ∧ (∀ q j : Nat, ((q = 23 ∧ j = 9) ∨ q = 5) ∨ J' q j = J q j) ∧ gc_LT I' ∧ gc_TK I' ∧ (∃ z : Int, r = some (.inl z) ∧ 0 ≤ z ∧ z ≤ 1 ∧ (I' 23 1 = I 23 1) ∧ (I 23 5 ≤ I' 23 5) ∧ (I 4 1 ≤ I' 4 1) ∧ (z = 1 ∨ I' 4 1 = I 4 1))))) (53, [(0, .inr (.inr (some 39))), (1, .inr (.inl v1_10)), (3, .inl v3_10), (4, .inr (.inr (some 41))), (5, .inl v5_10)], [], sh, gc_h sh I8 J9 A) := by
    intro n9
    induction n9 with
    | zero => intro I8 J9 v1_10 v3_10 v5_10 hn; omega
    | succ n9 ih53 =>
      intro I8 J9 v1_10 v3_10 v5_10 hn hI8 FI8 FJ9 KLT_I8 KTK_I8 m_10 e0_10
      obtain ⟨hv3_10, hv5_10, e1_10, e2_10, e3_10⟩ := m_10
      have t11 := gc_TK_mo KTK_I8
      have f12 := (show 0 ≤ I8 23 1 ∧ I8 23 1 ≤ 1000 from gc_in hI8 R_23 rfl rfl)
      have f13 := (show 0 ≤ I8 23 5 ∧ I8 23 5 ≤ 1000 from gc_in hI8 R_23 rfl rfl)
      have f14 := (show 0 ≤ I8 23 6 ∧ I8 23 6 ≤ 1001 from gc_in hI8 R_23 rfl rfl)
      have f15 := (show 0 ≤ I8 23 7 ∧ I8 23 7 ≤ 125 from gc_in hI8 R_23 rfl rfl)
      have f16 := (show 0 ≤ I8 4 1 ∧ I8 4 1 ≤ 96 from gc_in hI8 R_4 rfl rfl)
      have f17 := (show 0 ≤ I8 2 1 ∧ I8 2 1 ≤ 32 from gc_in hI8 R_2 rfl rfl)
      have L141 : ((0 ≤ v3_10 ∧ v3_10 ≤ 4) ∧ (I8 23 1 = I 23 1) ∧ (I 23 5 ≤ I8 23 5) ∧ (I8 4 1 = I 4 1)) → (gc_rg 41 I8 v3_10 0 31) → gv_X (gc_E6 ws0 tb 4 (yX6_readFun, cX6_readFun, 7, (some .boolean)) kX6_readFun) (gv_Q cX6_readFun (some .boolean) sh (fun r h' => (∃ (I' : gr_I) (J' : gr_J), h' = gc_h sh I' J' A ∧ gc_Inv ro I' ∧ (∀ q j : Nat, ((q = 39 ∧ j = 3) ∨ (q = 39 ∧ j = 4) ∨ (q = 23 ∧ j = 5) ∨ (q = 23 ∧ j = 6) ∨ (q = 23 ∧ j = 7) ∨ (q = 23 ∧ j = 8) ∨ (q = 39 ∧ j = 7) ∨ q = 41 ∨ (q = 4 ∧ j = 1) ∨ (q = 11 ∧ (I 4 1 ≤ (j : Int))) ∨ (q = 12 ∧ (I 4 1 ≤ (j : Int))) ∨ (q = 13 ∧ (4 * I 4 1 ≤ (j : Int))) ∨ q = 14) ∨ I' q j = I q j) ∧ (∀ q j : Nat, ((q = 23 ∧ j = 9) ∨ q = 5) ∨ J' q j = J q j) ∧ gc_LT I' ∧ gc_TK I' ∧ (∃ z : Int, r = some (.inl z) ∧ 0 ≤ z ∧ z ≤ 1 ∧ (I' 23 1 = I 23 1) ∧ (I 23 5 ≤ I' 23 5) ∧ (I 4 1 ≤ I' 4 1) ∧ (z = 1 ∨ I' 4 1 = I 4 1))))) (141, [(0, .inr (.inr (some 39))), (1, .inr (.inl v1_10)), (3, .inl v3_10), (4, .inr (.inr (some 41)))], [], sh, gc_h sh I8 J9 A) := by
        intro m_18 e0_18
        obtain ⟨hv3_10_18, e1_18, e2_18, e3_18⟩ := m_18
        have t19 := gc_TK_mo KTK_I8
        have f20 := (show 0 ≤ I8 23 1 ∧ I8 23 1 ≤ 1000 from gc_in hI8 R_23 rfl rfl)
        have f21 := (show 0 ≤ I8 23 5 ∧ I8 23 5 ≤ 1000 from gc_in hI8 R_23 rfl rfl)
        have f22 := (show 0 ≤ I8 23 6 ∧ I8 23 6 ≤ 1001 from gc_in hI8 R_23 rfl rfl)
        have f23 := (show 0 ≤ I8 23 7 ∧ I8 23 7 ≤ 125 from gc_in hI8 R_23 rfl rfl)
        have f24 := (show 0 ≤ I8 4 1 ∧ I8 4 1 ≤ 96 from gc_in hI8 R_4 rfl rfl)
        have f25 := (show 0 ≤ I8 2 1 ∧ I8 2 1 ≤ 32 from gc_in hI8 R_2 rfl rfl)
        have L164 : ∀ (I26 : gr_I) (J27 : gr_J) , gc_Inv ro I26 → (∀ q j : Nat, ((q = 39 ∧ j = 3) ∨ (q = 39 ∧ j = 4) ∨ (q = 23 ∧ j = 5) ∨ (q = 23 ∧ j = 6) ∨ (q = 23 ∧ j = 7) ∨ (q = 23 ∧ j = 8) ∨ (q = 39 ∧ j = 7) ∨ q = 41 ∨ (q = 4 ∧ j = 1) ∨ (q = 11 ∧ (I 4 1 ≤ (j : Int))) ∨ (q = 12 ∧ (I 4 1 ≤ (j : Int))) ∨ (q = 13 ∧ (4 * I 4 1 ≤ (j : Int))) ∨ q = 14) ∨ I26 q j = I q j) → (∀ q j : Nat, ((q = 23 ∧ j = 9) ∨ q = 5) ∨ J27 q j = J q j) → gc_LT I26 → gc_TK I26 → ((I26 23 1 = I 23 1) ∧ (I 23 5 ≤ I26 23 5) ∧ (I26 4 1 = I 4 1)) → gv_X (gc_E6 ws0 tb 4 (yX6_readFun, cX6_readFun, 7, (some .boolean)) kX6_readFun) (gv_Q cX6_readFun (some .boolean) sh (fun r h' => (∃ (I' : gr_I) (J' : gr_J), h' = gc_h sh I' J' A ∧ gc_Inv ro I' ∧ (∀ q j : Nat, ((q = 39 ∧ j = 3) ∨ (q = 39 ∧ j = 4) ∨ (q = 23 ∧ j = 5) ∨ (q = 23 ∧ j = 6) ∨ (q = 23 ∧ j = 7) ∨ (q = 23 ∧ j = 8) ∨ (q = 39 ∧ j = 7) ∨ q = 41 ∨ (q = 4 ∧ j = 1) ∨ (q = 11 ∧ (I 4 1 ≤ (j : Int))) ∨ (q = 12 ∧ (I 4 1 ≤ (j : Int))) ∨ (q = 13 ∧ (4 * I 4 1 ≤ (j : Int))) ∨ q = 14) ∨ I' q j = I q j) ∧ (∀ q j : Nat, ((q = 23 ∧ j = 9) ∨ q = 5) ∨ J' q j = J q j) ∧ gc_LT I' ∧ gc_TK I' ∧ (∃ z : Int, r = some (.inl z) ∧ 0 ≤ z ∧ z ≤ 1 ∧ (I' 23 1 = I 23 1) ∧ (I 23 5 ≤ I' 23 5) ∧ (I 4 1 ≤ I' 4 1) ∧ (z = 1 ∨ I' 4 1 = I 4 1))))) (164, [], [], sh, gc_h sh I26 J27 A) := by
          intro I26 J27 hI26 FI26 FJ27 KLT_I26 KTK_I26 m_28
          clear hv3_10_18 e1_18 e2_18 e3_18 t19 f20 f21 f22 f23 f24 f25 hv3_10 hv5_10 e1_10 e2_10 e3_10 t11 f12 f13 f14 f15 f16 f17
          obtain ⟨e0_28, e1_28, e2_28⟩ := m_28
          have t29 := gc_TK_mo KTK_I26
          have f30 := (show 0 ≤ I26 23 1 ∧ I26 23 1 ≤ 1000 from gc_in hI26 R_23 rfl rfl)
          have f31 := (show 0 ≤ I26 23 5 ∧ I26 23 5 ≤ 1000 from gc_in hI26 R_23 rfl rfl)
          have f32 := (show 0 ≤ I26 23 6 ∧ I26 23 6 ≤ 1001 from gc_in hI26 R_23 rfl rfl)
          have f33 := (show 0 ≤ I26 23 7 ∧ I26 23 7 ≤ 125 from gc_in hI26 R_23 rfl rfl)
          have f34 := (show 0 ≤ I26 4 1 ∧ I26 4 1 ≤ 96 from gc_in hI26 R_4 rfl rfl)
          have f35 := (show 0 ≤ I26 2 1 ∧ I26 2 1 ≤ 32 from gc_in hI26 R_2 rfl rfl)
          refine gv_run 1 true hD (pc' := 165) (lv' := []) (st' := [.inl 0]) (h' := gc_h sh I26 J27 A) (C := (True ∧ True)) rfl ⟨trivial, trivial⟩ ?_
          exact gv_zret hD rfl (by omega) ⟨I26, J27, rfl, hI26, FI26, FJ27, KLT_I26, KTK_I26, ⟨_, rfl, by omega⟩⟩
        have L216 : ∀ (I36 : gr_I) (J37 : gr_J) , gc_Inv ro I36 → (∀ q j : Nat, ((q = 39 ∧ j = 3) ∨ (q = 39 ∧ j = 4) ∨ (q = 23 ∧ j = 5) ∨ (q = 23 ∧ j = 6) ∨ (q = 23 ∧ j = 7) ∨ (q = 23 ∧ j = 8) ∨ (q = 39 ∧ j = 7) ∨ q = 41 ∨ (q = 4 ∧ j = 1) ∨ (q = 11 ∧ (I 4 1 ≤ (j : Int))) ∨ (q = 12 ∧ (I 4 1 ≤ (j : Int))) ∨ (q = 13 ∧ (4 * I 4 1 ≤ (j : Int))) ∨ q = 14) ∨ I36 q j = I q j) → (∀ q j : Nat, ((q = 23 ∧ j = 9) ∨ q = 5) ∨ J37 q j = J q j) → gc_LT I36 → gc_TK I36 → ((I36 23 1 = I 23 1) ∧ (I 23 5 ≤ I36 23 5) ∧ (I36 4 1 = I 4 1)) → gv_X (gc_E6 ws0 tb 4 (yX6_readFun, cX6_readFun, 7, (some .boolean)) kX6_readFun) (gv_Q cX6_readFun (some .boolean) sh (fun r h' => (∃ (I' : gr_I) (J' : gr_J), h' = gc_h sh I' J' A ∧ gc_Inv ro I' ∧ (∀ q j : Nat, ((q = 39 ∧ j = 3) ∨ (q = 39 ∧ j = 4) ∨ (q = 23 ∧ j = 5) ∨ (q = 23 ∧ j = 6) ∨ (q = 23 ∧ j = 7) ∨ (q = 23 ∧ j = 8) ∨ (q = 39 ∧ j = 7) ∨ q = 41 ∨ (q = 4 ∧ j = 1) ∨ (q = 11 ∧ (I 4 1 ≤ (j : Int))) ∨ (q = 12 ∧ (I 4 1 ≤ (j : Int))) ∨ (q = 13 ∧ (4 * I 4 1 ≤ (j : Int))) ∨ q = 14) ∨ I' q j = I q j) ∧ (∀ q j : Nat, ((q = 23 ∧ j = 9) ∨ q = 5) ∨ J' q j = J q j) ∧ gc_LT I' ∧ gc_TK I' ∧ (∃ z : Int, r = some (.inl z) ∧ 0 ≤ z ∧ z ≤ 1 ∧ (I' 23 1 = I 23 1) ∧ (I 23 5 ≤ I' 23 5) ∧ (I 4 1 ≤ I' 4 1) ∧ (z = 1 ∨ I' 4 1 = I 4 1))))) (216, [], [], sh, gc_h sh I36 J37 A) := by
          intro I36 J37 hI36 FI36 FJ37 KLT_I36 KTK_I36 m_38
          clear hv3_10_18 e1_18 e2_18 e3_18 t19 f20 f21 f22 f23 f24 f25 hv3_10 hv5_10 e1_10 e2_10 e3_10 t11 f12 f13 f14 f15 f16 f17
          obtain ⟨e0_38, e1_38, e2_38⟩ := m_38
          have t39 := gc_TK_mo KTK_I36
          have f40 := (show 0 ≤ I36 23 1 ∧ I36 23 1 ≤ 1000 from gc_in hI36 R_23 rfl rfl)
          have f41 := (show 0 ≤ I36 23 5 ∧ I36 23 5 ≤ 1000 from gc_in hI36 R_23 rfl rfl)
          have f42 := (show 0 ≤ I36 23 6 ∧ I36 23 6 ≤ 1001 from gc_in hI36 R_23 rfl rfl)
          have f43 := (show 0 ≤ I36 23 7 ∧ I36 23 7 ≤ 125 from gc_in hI36 R_23 rfl rfl)
          have f44 := (show 0 ≤ I36 4 1 ∧ I36 4 1 ≤ 96 from gc_in hI36 R_4 rfl rfl)
          have f45 := (show 0 ≤ I36 2 1 ∧ I36 2 1 ≤ 32 from gc_in hI36 R_2 rfl rfl)
          refine gv_run 1 true hD (pc' := 217) (lv' := []) (st' := [.inl 0]) (h' := gc_h sh I36 J37 A) (C := (True ∧ True)) rfl ⟨trivial, trivial⟩ ?_
          exact gv_zret hD rfl (by omega) ⟨I36, J37, rfl, hI36, FI36, FJ37, KLT_I36, KTK_I36, ⟨_, rfl, by omega⟩⟩
        refine gv_run 2 true hD (pc' := 144) (lv' := [(0, .inr (.inr (some 39))), (1, .inr (.inl v1_10)), (3, .inl v3_10), (4, .inr (.inr (some 41)))]) (st' := [.inl 62, .inr (.inr (some 39))]) (h' := gc_h sh I8 J9 A) (C := ((True ∧ True) ∧ True)) rfl ⟨⟨trivial, trivial⟩, trivial⟩ ?_
        obtain ⟨r46, h46, E46, P46⟩ := d_X6_take (ws0 := ws0) (tb := tb) hws htb sh ro I8 J9 A hI8  62 hb   ⟨by omega, by omega⟩ (by omega) KLT_I8 KTK_I8
        obtain ⟨I47, J48, rfl, hI47, g46, k46, KLT_I47, KTK_I47, ⟨z46, rfl, q46⟩⟩ := P46
        have FI47 := gc_frc (W := fun q j => (q = 39 ∧ j = 3) ∨ (q = 39 ∧ j = 4) ∨ (q = 23 ∧ j = 5) ∨ (q = 23 ∧ j = 6) ∨ (q = 23 ∧ j = 7) ∨ (q = 23 ∧ j = 8) ∨ (q = 39 ∧ j = 7) ∨ q = 41 ∨ (q = 4 ∧ j = 1) ∨ (q = 11 ∧ (I 4 1 ≤ (j : Int))) ∨ (q = 12 ∧ (I 4 1 ≤ (j : Int))) ∨ (q = 13 ∧ (4 * I 4 1 ≤ (j : Int))) ∨ q = 14) (V := fun q j => (q = 39 ∧ j = 3) ∨ (q = 39 ∧ j = 4) ∨ (q = 23 ∧ j = 5) ∨ (q = 23 ∧ j = 6) ∨ (q = 23 ∧ j = 7) ∨ (q = 23 ∧ j = 8)) FI8 (fun q j h => (h.elim (fun h => (Or.inl h)) (fun h => (h.elim (fun h => (Or.inr (Or.inl h))) (fun h => (h.elim (fun h => (Or.inr (Or.inr (Or.inl h)))) (fun h => (h.elim (fun h => (Or.inr (Or.inr (Or.inr (Or.inl h))))) (fun h => (h.elim (fun h => (Or.inr (Or.inr (Or.inr (Or.inr (Or.inl h)))))) (fun h => (Or.inr (Or.inr (Or.inr (Or.inr (Or.inr (Or.inl h))))))))))))))))) g46
        have FJ48 := gc_frc (W := fun q j => (q = 23 ∧ j = 9) ∨ q = 5) (V := fun q j => (q = 23 ∧ j = 9)) FJ9 (fun q j h => (Or.inl h)) k46
        have t49 := (g46 23 1).resolve_left (fun h => h.elim (fun h => absurd h.2 (by decide)) (fun h => h.elim (fun h => absurd h.2 (by decide)) (fun h => h.elim (fun h => absurd h.2 (by decide)) (fun h => h.elim (fun h => absurd h.2 (by decide)) (fun h => h.elim (fun h => absurd h.2 (by decide)) (fun h => absurd h.2 (by decide)))))))
        have t50 := (g46 4 1).resolve_left (fun h => h.elim (fun h => absurd h.2 (by decide)) (fun h => h.elim (fun h => absurd h.2 (by decide)) (fun h => h.elim (fun h => absurd h.2 (by decide)) (fun h => h.elim (fun h => absurd h.2 (by decide)) (fun h => h.elim (fun h => absurd h.2 (by decide)) (fun h => absurd h.2 (by decide)))))))
        have t51 := (g46 2 1).resolve_left (fun h => h.elim (fun h => absurd h.2 (by decide)) (fun h => h.elim (fun h => absurd h.2 (by decide)) (fun h => h.elim (fun h => absurd h.2 (by decide)) (fun h => h.elim (fun h => absurd h.2 (by decide)) (fun h => h.elim (fun h => absurd h.2 (by decide)) (fun h => absurd h.2 (by decide)))))))
        have f52 := (show 0 ≤ I47 23 5 ∧ I47 23 5 ≤ 1000 from gc_in hI47 R_23 rfl rfl)
        have f53 := (show 0 ≤ I47 23 6 ∧ I47 23 6 ≤ 1001 from gc_in hI47 R_23 rfl rfl)
        have f54 := (show 0 ≤ I47 23 7 ∧ I47 23 7 ≤ 125 from gc_in hI47 R_23 rfl rfl)
        have t55 := gc_TK_mo KTK_I47
        refine gv_callV hD rfl (As := [.inl 62]) (st := []) rfl B_39 S_39 rfl (gc_lV6 hws rfl) (Nat.le_of_ble_eq_true rfl) (gz_Ev_mono (d := 3) (by decide) E46) ?_
        show gv_X _ _ (147, [(0, .inr (.inr (some 39))), (1, .inr (.inl v1_10)), (3, .inl v3_10), (4, .inr (.inr (some 41)))], [.inl z46], sh, gc_h sh I47 J48 A)
        refine gv_if_eq (t := 164) hD rfl rfl ⟨by omega, by omega⟩ (fun c56 => ?_) (fun c56 => ?_)
        · show gv_X _ _ (164, [(0, .inr (.inr (some 39))), (1, .inr (.inl v1_10)), (3, .inl v3_10), (4, .inr (.inr (some 41)))], [], sh, gc_h sh I47 J48 A)
          refine gv_pick [] rfl ?_
          exact L164 I47 J48 hI47 FI47 FJ48 KLT_I47 KTK_I47 (by omega)
        · show gv_X _ _ (150, [(0, .inr (.inr (some 39))), (1, .inr (.inl v1_10)), (3, .inl v3_10), (4, .inr (.inr (some 41)))], [], sh, gc_h sh I47 J48 A)
          refine gv_run 2 true hD (pc' := 152) (lv' := [(0, .inr (.inr (some 39))), (1, .inr (.inl v1_10)), (3, .inl v3_10), (4, .inr (.inr (some 41)))]) (st' := [.inr (.inr (some 39)), .inr (.inr (some 39))]) (h' := gc_h sh I47 J48 A) (C := ((True ∧ True) ∧ True)) rfl ⟨⟨trivial, trivial⟩, trivial⟩ ?_
          refine gv_get hD rfl rfl S_39 ⟨by decide, B_39⟩ (gc_hA S_39 rfl A_39_0) ?_
          show gv_X _ _ (155, [(0, .inr (.inr (some 39))), (1, .inr (.inl v1_10)), (3, .inl v3_10), (4, .inr (.inr (some 41)))], [.inr (.inr (some 1)), .inr (.inr (some 39))], sh, gc_h sh I47 J48 A)
          refine gv_get hD rfl rfl S_1 ⟨by decide, B_1⟩ (gc_hA S_1 rfl A_1_0) ?_
          show gv_X _ _ (158, [(0, .inr (.inr (some 39))), (1, .inr (.inl v1_10)), (3, .inl v3_10), (4, .inr (.inr (some 41)))], [.inr (.inr (some 2)), .inr (.inr (some 39))], sh, gc_h sh I47 J48 A)
          obtain ⟨r57, h57, E57, P57⟩ := d_X6_needKnown (ws0 := ws0) (tb := tb) hws htb sh ro I47 J48 A hI47  32 9 2 hb (gc_b2 hb)    
          obtain ⟨I58, J59, rfl, hI58, g57, k57, ⟨z57, rfl, q57⟩⟩ := P57
          have FI58 := gc_frc (W := fun q j => (q = 39 ∧ j = 3) ∨ (q = 39 ∧ j = 4) ∨ (q = 23 ∧ j = 5) ∨ (q = 23 ∧ j = 6) ∨ (q = 23 ∧ j = 7) ∨ (q = 23 ∧ j = 8) ∨ (q = 39 ∧ j = 7) ∨ q = 41 ∨ (q = 4 ∧ j = 1) ∨ (q = 11 ∧ (I 4 1 ≤ (j : Int))) ∨ (q = 12 ∧ (I 4 1 ≤ (j : Int))) ∨ (q = 13 ∧ (4 * I 4 1 ≤ (j : Int))) ∨ q = 14) (V := fun q j => (q = 39 ∧ j = 3) ∨ (q = 39 ∧ j = 4)) FI47 (fun q j h => (h.elim (fun h => (Or.inl h)) (fun h => (Or.inr (Or.inl h))))) g57
          have t60 := (g57 23 1).resolve_left (fun h => h.elim (fun h => absurd h.2 (by decide)) (fun h => absurd h.2 (by decide)))
          have t61 := (g57 23 5).resolve_left (fun h => h.elim (fun h => absurd h.2 (by decide)) (fun h => absurd h.2 (by decide)))
          have t62 := (g57 23 6).resolve_left (fun h => h.elim (fun h => absurd h.2 (by decide)) (fun h => absurd h.2 (by decide)))
          have t63 := (g57 23 7).resolve_left (fun h => h.elim (fun h => absurd h.2 (by decide)) (fun h => absurd h.2 (by decide)))
          have t64 := (g57 4 1).resolve_left (fun h => h.elim (fun h => absurd h.2 (by decide)) (fun h => absurd h.2 (by decide)))
          have t65 := (g57 2 1).resolve_left (fun h => h.elim (fun h => absurd h.2 (by decide)) (fun h => absurd h.2 (by decide)))
          obtain rfl : J48 = J59 := funext fun q => funext fun j => ((k57 q j).resolve_left id).symm
          have KLT_I58 := gc_LT_fr KLT_I47 ((g57 23 5).resolve_left (fun h => h.elim (fun h => absurd h.2 (by decide)) (fun h => absurd h.2 (by decide)))) ((g57 23 6).resolve_left (fun h => h.elim (fun h => absurd h.2 (by decide)) (fun h => absurd h.2 (by decide)))) ((g57 23 7).resolve_left (fun h => h.elim (fun h => absurd h.2 (by decide)) (fun h => absurd h.2 (by decide)))) (fun k => (g57 24 k).resolve_left (fun h => h.elim (fun h => absurd h.1 (by decide)) (fun h => absurd h.1 (by decide))))
          have KTK_I58 := gc_TK_fr KTK_I47 ((g57 23 1).resolve_left (fun h => h.elim (fun h => absurd h.2 (by decide)) (fun h => absurd h.2 (by decide)))) ((g57 23 5).resolve_left (fun h => h.elim (fun h => absurd h.2 (by decide)) (fun h => absurd h.2 (by decide)))) ((g57 23 6).resolve_left (fun h => h.elim (fun h => absurd h.2 (by decide)) (fun h => absurd h.2 (by decide)))) ((g57 23 7).resolve_left (fun h => h.elim (fun h => absurd h.2 (by decide)) (fun h => absurd h.2 (by decide))))
          refine gv_callV hD rfl (As := [.inr (.inr (some 2))]) (st := []) rfl B_39 S_39 rfl (gc_lV6 hws rfl) (Nat.le_of_ble_eq_true rfl) (gz_Ev_mono (d := 3) (by decide) E57) ?_
          show gv_X _ _ (161, [(0, .inr (.inr (some 39))), (1, .inr (.inl v1_10)), (3, .inl v3_10), (4, .inr (.inr (some 41)))], [.inl z57], sh, gc_h sh I58 J48 A)
          refine gv_if_ne (t := 166) hD rfl rfl ⟨by omega, by omega⟩ (fun c66 => ?_) (fun c66 => ?_)
          · show gv_X _ _ (166, [(0, .inr (.inr (some 39))), (1, .inr (.inl v1_10)), (3, .inl v3_10), (4, .inr (.inr (some 41)))], [], sh, gc_h sh I58 J48 A)
            refine gv_run 1 true hD (pc' := 167) (lv' := [(0, .inr (.inr (some 39))), (1, .inr (.inl v1_10)), (3, .inl v3_10), (4, .inr (.inr (some 41)))]) (st' := [.inr (.inr (some 39))]) (h' := gc_h sh I58 J48 A) (C := (True ∧ True)) rfl ⟨trivial, trivial⟩ ?_
            refine gv_get hD rfl rfl S_39 ⟨by decide, B_39⟩ (gc_hA S_39 rfl A_39_0) ?_
            show gv_X _ _ (170, [(0, .inr (.inr (some 39))), (1, .inr (.inl v1_10)), (3, .inl v3_10), (4, .inr (.inr (some 41)))], [.inr (.inr (some 1))], sh, gc_h sh I58 J48 A)
            refine gv_get hD rfl rfl S_1 ⟨by decide, B_1⟩ (gc_hA S_1 rfl A_1_0) ?_
            show gv_X _ _ (173, [(0, .inr (.inr (some 39))), (1, .inr (.inl v1_10)), (3, .inl v3_10), (4, .inr (.inr (some 41)))], [.inr (.inr (some 2))], sh, gc_h sh I58 J48 A)
            refine gv_run 1 true hD (pc' := 174) (lv' := [(0, .inr (.inr (some 39))), (1, .inr (.inl v1_10)), (3, .inl v3_10), (4, .inr (.inr (some 41)))]) (st' := [.inr (.inr (some 39)), .inr (.inr (some 2))]) (h' := gc_h sh I58 J48 A) (C := (True ∧ True)) rfl ⟨trivial, trivial⟩ ?_
            refine gv_get hD rfl rfl S_39 ⟨by decide, B_39⟩ (gc_hA S_39 rfl A_39_1) ?_
            show gv_X _ _ (177, [(0, .inr (.inr (some 39))), (1, .inr (.inl v1_10)), (3, .inl v3_10), (4, .inr (.inr (some 41)))], [.inr (.inr (some 23)), .inr (.inr (some 2))], sh, gc_h sh I58 J48 A)
            refine gv_get hD rfl rfl S_23 ⟨by decide, B_23⟩ (gc_hJ S_23 rfl) ?_
            show gv_X _ _ (180, [(0, .inr (.inr (some 39))), (1, .inr (.inl v1_10)), (3, .inl v3_10), (4, .inr (.inr (some 41)))], [.inr (.inl (J48 23 9)), .inr (.inr (some 2))], sh, gc_h sh I58 J48 A)
            obtain ⟨r67, h67, E67, P67⟩ := d_X4_find (ws0 := ws0) (tb := tb) hws htb sh ro I58 J48 A hI58 2 32 9 (J48 23 9) (gc_b2 hb)     
            obtain ⟨rfl, ⟨z67, rfl, q67⟩⟩ := P67
            refine gv_callV hD rfl (As := [.inr (.inl (J48 23 9))]) (st := []) rfl B_2 S_2 rfl (gc_lV6 hws rfl) (Nat.le_of_ble_eq_true rfl) (gz_Ev_mono (d := 1) (by decide) E67) ?_
            show gv_X _ _ (183, [(0, .inr (.inr (some 39))), (1, .inr (.inl v1_10)), (3, .inl v3_10), (4, .inr (.inr (some 41)))], [.inl z67], sh, gc_h sh I58 J48 A)
            refine gv_run 2 true hD (pc' := 186) (lv' := [(5, .inl z67), (0, .inr (.inr (some 39))), (1, .inr (.inl v1_10)), (3, .inl v3_10), (4, .inr (.inr (some 41)))]) (st' := [.inr (.inr (some 39))]) (h' := gc_h sh I58 J48 A) (C := ((True ∧ True) ∧ True)) rfl ⟨⟨trivial, trivial⟩, trivial⟩ ?_
            refine gv_get hD rfl rfl S_39 ⟨by decide, B_39⟩ (gc_hA S_39 rfl A_39_1) ?_
            show gv_X _ _ (189, [(5, .inl z67), (0, .inr (.inr (some 39))), (1, .inr (.inl v1_10)), (3, .inl v3_10), (4, .inr (.inr (some 41)))], [.inr (.inr (some 23))], sh, gc_h sh I58 J48 A)
            have t69 := gc_TK_nx KTK_I58 (by omega)
            obtain ⟨r68, h68, E68, P68⟩ := d_X9_advance (ws0 := ws0) (tb := tb) hws htb sh ro I58 J48 A hI58 23  (gc_b23 hb)    (by omega) 
            obtain ⟨I70, J71, rfl, hI70, g68, k68, ⟨rfl, V68_0, V68_1, V68_2, V68_3, V68_4, q68⟩⟩ := P68
            have FI70 := gc_frc (W := fun q j => (q = 39 ∧ j = 3) ∨ (q = 39 ∧ j = 4) ∨ (q = 23 ∧ j = 5) ∨ (q = 23 ∧ j = 6) ∨ (q = 23 ∧ j = 7) ∨ (q = 23 ∧ j = 8) ∨ (q = 39 ∧ j = 7) ∨ q = 41 ∨ (q = 4 ∧ j = 1) ∨ (q = 11 ∧ (I 4 1 ≤ (j : Int))) ∨ (q = 12 ∧ (I 4 1 ≤ (j : Int))) ∨ (q = 13 ∧ (4 * I 4 1 ≤ (j : Int))) ∨ q = 14) (V := fun q j => (q = 23 ∧ j = 5) ∨ (q = 23 ∧ j = 6) ∨ (q = 23 ∧ j = 7) ∨ (q = 23 ∧ j = 8)) FI58 (fun q j h => (h.elim (fun h => (Or.inr (Or.inr (Or.inl h)))) (fun h => (h.elim (fun h => (Or.inr (Or.inr (Or.inr (Or.inl h))))) (fun h => (h.elim (fun h => (Or.inr (Or.inr (Or.inr (Or.inr (Or.inl h)))))) (fun h => (Or.inr (Or.inr (Or.inr (Or.inr (Or.inr (Or.inl h))))))))))))) g68
            have FJ71 := gc_frc (W := fun q j => (q = 23 ∧ j = 9) ∨ q = 5) (V := fun q j => (q = 23 ∧ j = 9)) FJ48 (fun q j h => (Or.inl h)) k68
            have t72 := (g68 23 1).resolve_left (fun h => h.elim (fun h => absurd h.2 (by decide)) (fun h => h.elim (fun h => absurd h.2 (by decide)) (fun h => h.elim (fun h => absurd h.2 (by decide)) (fun h => absurd h.2 (by decide)))))
            have t73 := (g68 4 1).resolve_left (fun h => h.elim (fun h => absurd h.2 (by decide)) (fun h => h.elim (fun h => absurd h.2 (by decide)) (fun h => h.elim (fun h => absurd h.2 (by decide)) (fun h => absurd h.2 (by decide)))))
            have t74 := (g68 2 1).resolve_left (fun h => h.elim (fun h => absurd h.2 (by decide)) (fun h => h.elim (fun h => absurd h.2 (by decide)) (fun h => h.elim (fun h => absurd h.2 (by decide)) (fun h => absurd h.2 (by decide)))))
            have f75 := (show 0 ≤ I70 23 5 ∧ I70 23 5 ≤ 1000 from gc_in hI70 R_23 rfl rfl)
            have f76 := (show 0 ≤ I70 23 6 ∧ I70 23 6 ≤ 1001 from gc_in hI70 R_23 rfl rfl)
            have f77 := (show 0 ≤ I70 23 7 ∧ I70 23 7 ≤ 125 from gc_in hI70 R_23 rfl rfl)
            have KLT_I70 : gc_LT I70 := q68.2.2
            have KTK_I70 : gc_TK I70 := And.intro V68_0 (And.intro V68_1 (And.intro V68_2 (And.intro V68_3 V68_4)))
            have t78 := gc_TK_mo KTK_I70
            clear V68_0 V68_1 V68_2 V68_3 V68_4
            refine gv_callV hD rfl (As := []) (st := []) rfl B_23 S_23 rfl (gc_lV6 hws rfl) (Nat.le_of_ble_eq_true rfl) (gz_Ev_mono (d := 2) (by decide) E68) ?_
            show gv_X _ _ (192, [(5, .inl z67), (0, .inr (.inr (some 39))), (1, .inr (.inl v1_10)), (3, .inl v3_10), (4, .inr (.inr (some 41)))], [], sh, gc_h sh I70 J71 A)
            refine gv_run 1 true hD (pc' := 193) (lv' := [(5, .inl z67), (0, .inr (.inr (some 39))), (1, .inr (.inl v1_10)), (3, .inl v3_10), (4, .inr (.inr (some 41)))]) (st' := [.inr (.inr (some 39))]) (h' := gc_h sh I70 J71 A) (C := (True ∧ True)) rfl ⟨trivial, trivial⟩ ?_
            obtain ⟨r79, h79, E79, P79⟩ := d_X6_readCost (ws0 := ws0) (tb := tb) hws htb sh ro I70 J71 A hI70   hb     KLT_I70 KTK_I70
            obtain ⟨I80, J81, rfl, hI80, g79, k79, KLT_I80, KTK_I80, ⟨z79, rfl, q79⟩⟩ := P79
            have FI80 := gc_frc (W := fun q j => (q = 39 ∧ j = 3) ∨ (q = 39 ∧ j = 4) ∨ (q = 23 ∧ j = 5) ∨ (q = 23 ∧ j = 6) ∨ (q = 23 ∧ j = 7) ∨ (q = 23 ∧ j = 8) ∨ (q = 39 ∧ j = 7) ∨ q = 41 ∨ (q = 4 ∧ j = 1) ∨ (q = 11 ∧ (I 4 1 ≤ (j : Int))) ∨ (q = 12 ∧ (I 4 1 ≤ (j : Int))) ∨ (q = 13 ∧ (4 * I 4 1 ≤ (j : Int))) ∨ q = 14) (V := fun q j => (q = 39 ∧ j = 3) ∨ (q = 39 ∧ j = 4) ∨ (q = 23 ∧ j = 5) ∨ (q = 23 ∧ j = 6) ∨ (q = 23 ∧ j = 7) ∨ (q = 23 ∧ j = 8) ∨ (q = 39 ∧ j = 7)) FI70 (fun q j h => (h.elim (fun h => (Or.inl h)) (fun h => (h.elim (fun h => (Or.inr (Or.inl h))) (fun h => (h.elim (fun h => (Or.inr (Or.inr (Or.inl h)))) (fun h => (h.elim (fun h => (Or.inr (Or.inr (Or.inr (Or.inl h))))) (fun h => (h.elim (fun h => (Or.inr (Or.inr (Or.inr (Or.inr (Or.inl h)))))) (fun h => (h.elim (fun h => (Or.inr (Or.inr (Or.inr (Or.inr (Or.inr (Or.inl h))))))) (fun h => (Or.inr (Or.inr (Or.inr (Or.inr (Or.inr (Or.inr (Or.inl h)))))))))))))))))))) g79
            have FJ81 := gc_frc (W := fun q j => (q = 23 ∧ j = 9) ∨ q = 5) (V := fun q j => (q = 23 ∧ j = 9)) FJ71 (fun q j h => (Or.inl h)) k79
            have t82 := (g79 23 1).resolve_left (fun h => h.elim (fun h => absurd h.2 (by decide)) (fun h => h.elim (fun h => absurd h.2 (by decide)) (fun h => h.elim (fun h => absurd h.2 (by decide)) (fun h => h.elim (fun h => absurd h.2 (by decide)) (fun h => h.elim (fun h => absurd h.2 (by decide)) (fun h => h.elim (fun h => absurd h.2 (by decide)) (fun h => absurd h.2 (by decide))))))))
            have t83 := (g79 4 1).resolve_left (fun h => h.elim (fun h => absurd h.2 (by decide)) (fun h => h.elim (fun h => absurd h.2 (by decide)) (fun h => h.elim (fun h => absurd h.2 (by decide)) (fun h => h.elim (fun h => absurd h.2 (by decide)) (fun h => h.elim (fun h => absurd h.2 (by decide)) (fun h => h.elim (fun h => absurd h.2 (by decide)) (fun h => absurd h.2 (by decide))))))))
            have t84 := (g79 2 1).resolve_left (fun h => h.elim (fun h => absurd h.2 (by decide)) (fun h => h.elim (fun h => absurd h.2 (by decide)) (fun h => h.elim (fun h => absurd h.2 (by decide)) (fun h => h.elim (fun h => absurd h.2 (by decide)) (fun h => h.elim (fun h => absurd h.2 (by decide)) (fun h => h.elim (fun h => absurd h.2 (by decide)) (fun h => absurd h.2 (by decide))))))))
            have f85 := (show 0 ≤ I80 23 5 ∧ I80 23 5 ≤ 1000 from gc_in hI80 R_23 rfl rfl)
            have f86 := (show 0 ≤ I80 23 6 ∧ I80 23 6 ≤ 1001 from gc_in hI80 R_23 rfl rfl)
            have f87 := (show 0 ≤ I80 23 7 ∧ I80 23 7 ≤ 125 from gc_in hI80 R_23 rfl rfl)
            have t88 := gc_TK_mo KTK_I80
            refine gv_callV hD rfl (As := []) (st := []) rfl B_39 S_39 rfl (gc_lV6 hws rfl) (Nat.le_of_ble_eq_true rfl) (gz_Ev_mono (d := 3) (by decide) E79) ?_
            show gv_X _ _ (196, [(5, .inl z67), (0, .inr (.inr (some 39))), (1, .inr (.inl v1_10)), (3, .inl v3_10), (4, .inr (.inr (some 41)))], [.inl z79], sh, gc_h sh I80 J81 A)
            refine gv_if_eq (t := 216) hD rfl rfl ⟨by omega, by omega⟩ (fun c89 => ?_) (fun c89 => ?_)
            · show gv_X _ _ (216, [(5, .inl z67), (0, .inr (.inr (some 39))), (1, .inr (.inl v1_10)), (3, .inl v3_10), (4, .inr (.inr (some 41)))], [], sh, gc_h sh I80 J81 A)
              refine gv_pick [] rfl ?_
              exact L216 I80 J81 hI80 FI80 FJ81 KLT_I80 KTK_I80 (by omega)
            · show gv_X _ _ (199, [(5, .inl z67), (0, .inr (.inr (some 39))), (1, .inr (.inl v1_10)), (3, .inl v3_10), (4, .inr (.inr (some 41)))], [], sh, gc_h sh I80 J81 A)
              refine gv_run 2 true hD (pc' := 201) (lv' := [(5, .inl z67), (0, .inr (.inr (some 39))), (1, .inr (.inl v1_10)), (3, .inl v3_10), (4, .inr (.inr (some 41)))]) (st' := [.inr (.inr (some 39)), .inr (.inr (some 39))]) (h' := gc_h sh I80 J81 A) (C := ((True ∧ True) ∧ True)) rfl ⟨⟨trivial, trivial⟩, trivial⟩ ?_
              refine gv_get hD rfl rfl S_39 ⟨by decide, B_39⟩ (gc_hA S_39 rfl A_39_0) ?_
              show gv_X _ _ (204, [(5, .inl z67), (0, .inr (.inr (some 39))), (1, .inr (.inl v1_10)), (3, .inl v3_10), (4, .inr (.inr (some 41)))], [.inr (.inr (some 1)), .inr (.inr (some 39))], sh, gc_h sh I80 J81 A)
              refine gv_get hD rfl rfl S_1 ⟨by decide, B_1⟩ (gc_hA S_1 rfl A_1_1) ?_
              show gv_X _ _ (207, [(5, .inl z67), (0, .inr (.inr (some 39))), (1, .inr (.inl v1_10)), (3, .inl v3_10), (4, .inr (.inr (some 41)))], [.inr (.inr (some 4)), .inr (.inr (some 39))], sh, gc_h sh I80 J81 A)
              obtain ⟨r90, h90, E90, P90⟩ := d_X4_isFull (ws0 := ws0) (tb := tb) hws htb sh ro I80 J81 A hI80 4 96 11  (gc_b4 hb)     
              obtain ⟨rfl, ⟨z90, rfl, q90⟩⟩ := P90
              refine gv_callV hD rfl (As := []) (st := [.inr (.inr (some 39))]) rfl B_4 S_4 rfl (gc_lV6 hws rfl) (Nat.le_of_ble_eq_true rfl) (gz_Ev_mono (d := 1) (by decide) E90) ?_
              show gv_X _ _ (210, [(5, .inl z67), (0, .inr (.inr (some 39))), (1, .inr (.inl v1_10)), (3, .inl v3_10), (4, .inr (.inr (some 41)))], [.inl z90, .inr (.inr (some 39))], sh, gc_h sh I80 J81 A)
              obtain ⟨r91, h91, E91, P91⟩ := d_X6_closes (ws0 := ws0) (tb := tb) hws htb sh ro I80 J81 A hI80  z90 hb   ⟨by omega, by omega⟩  KLT_I80 KTK_I80
              obtain ⟨I92, J93, rfl, hI92, g91, k91, KLT_I92, KTK_I92, ⟨z91, rfl, q91⟩⟩ := P91
              have FI92 := gc_frc (W := fun q j => (q = 39 ∧ j = 3) ∨ (q = 39 ∧ j = 4) ∨ (q = 23 ∧ j = 5) ∨ (q = 23 ∧ j = 6) ∨ (q = 23 ∧ j = 7) ∨ (q = 23 ∧ j = 8) ∨ (q = 39 ∧ j = 7) ∨ q = 41 ∨ (q = 4 ∧ j = 1) ∨ (q = 11 ∧ (I 4 1 ≤ (j : Int))) ∨ (q = 12 ∧ (I 4 1 ≤ (j : Int))) ∨ (q = 13 ∧ (4 * I 4 1 ≤ (j : Int))) ∨ q = 14) (V := fun q j => (q = 39 ∧ j = 3) ∨ (q = 39 ∧ j = 4) ∨ (q = 23 ∧ j = 5) ∨ (q = 23 ∧ j = 6) ∨ (q = 23 ∧ j = 7) ∨ (q = 23 ∧ j = 8)) FI80 (fun q j h => (h.elim (fun h => (Or.inl h)) (fun h => (h.elim (fun h => (Or.inr (Or.inl h))) (fun h => (h.elim (fun h => (Or.inr (Or.inr (Or.inl h)))) (fun h => (h.elim (fun h => (Or.inr (Or.inr (Or.inr (Or.inl h))))) (fun h => (h.elim (fun h => (Or.inr (Or.inr (Or.inr (Or.inr (Or.inl h)))))) (fun h => (Or.inr (Or.inr (Or.inr (Or.inr (Or.inr (Or.inl h))))))))))))))))) g91
              have FJ93 := gc_frc (W := fun q j => (q = 23 ∧ j = 9) ∨ q = 5) (V := fun q j => (q = 23 ∧ j = 9)) FJ81 (fun q j h => (Or.inl h)) k91
              have t94 := (g91 23 1).resolve_left (fun h => h.elim (fun h => absurd h.2 (by decide)) (fun h => h.elim (fun h => absurd h.2 (by decide)) (fun h => h.elim (fun h => absurd h.2 (by decide)) (fun h => h.elim (fun h => absurd h.2 (by decide)) (fun h => h.elim (fun h => absurd h.2 (by decide)) (fun h => absurd h.2 (by decide)))))))
              have t95 := (g91 4 1).resolve_left (fun h => h.elim (fun h => absurd h.2 (by decide)) (fun h => h.elim (fun h => absurd h.2 (by decide)) (fun h => h.elim (fun h => absurd h.2 (by decide)) (fun h => h.elim (fun h => absurd h.2 (by decide)) (fun h => h.elim (fun h => absurd h.2 (by decide)) (fun h => absurd h.2 (by decide)))))))
              have t96 := (g91 2 1).resolve_left (fun h => h.elim (fun h => absurd h.2 (by decide)) (fun h => h.elim (fun h => absurd h.2 (by decide)) (fun h => h.elim (fun h => absurd h.2 (by decide)) (fun h => h.elim (fun h => absurd h.2 (by decide)) (fun h => h.elim (fun h => absurd h.2 (by decide)) (fun h => absurd h.2 (by decide)))))))
              have f97 := (show 0 ≤ I92 23 5 ∧ I92 23 5 ≤ 1000 from gc_in hI92 R_23 rfl rfl)
              have f98 := (show 0 ≤ I92 23 6 ∧ I92 23 6 ≤ 1001 from gc_in hI92 R_23 rfl rfl)
              have f99 := (show 0 ≤ I92 23 7 ∧ I92 23 7 ≤ 125 from gc_in hI92 R_23 rfl rfl)
              have t100 := gc_TK_mo KTK_I92
              refine gv_callV hD rfl (As := [.inl z90]) (st := []) rfl B_39 S_39 rfl (gc_lV6 hws rfl) (Nat.le_of_ble_eq_true rfl) (gz_Ev_mono (d := 4) (by decide) E91) ?_
              show gv_X _ _ (213, [(5, .inl z67), (0, .inr (.inr (some 39))), (1, .inr (.inl v1_10)), (3, .inl v3_10), (4, .inr (.inr (some 41)))], [.inl z91], sh, gc_h sh I92 J93 A)
              refine gv_if_ne (t := 218) hD rfl rfl ⟨by omega, by omega⟩ (fun c101 => ?_) (fun c101 => ?_)
              · show gv_X _ _ (218, [(5, .inl z67), (0, .inr (.inr (some 39))), (1, .inr (.inl v1_10)), (3, .inl v3_10), (4, .inr (.inr (some 41)))], [], sh, gc_h sh I92 J93 A)
                refine gv_run 1 true hD (pc' := 219) (lv' := [(5, .inl z67), (0, .inr (.inr (some 39))), (1, .inr (.inl v1_10)), (3, .inl v3_10), (4, .inr (.inr (some 41)))]) (st' := [.inr (.inr (some 39))]) (h' := gc_h sh I92 J93 A) (C := (True ∧ True)) rfl ⟨trivial, trivial⟩ ?_
                refine gv_get hD rfl rfl S_39 ⟨by decide, B_39⟩ (gc_hA S_39 rfl A_39_0) ?_
                show gv_X _ _ (222, [(5, .inl z67), (0, .inr (.inr (some 39))), (1, .inr (.inl v1_10)), (3, .inl v3_10), (4, .inr (.inr (some 41)))], [.inr (.inr (some 1))], sh, gc_h sh I92 J93 A)
                refine gv_get hD rfl rfl S_1 ⟨by decide, B_1⟩ (gc_hA S_1 rfl A_1_1) ?_
                show gv_X _ _ (225, [(5, .inl z67), (0, .inr (.inr (some 39))), (1, .inr (.inl v1_10)), (3, .inl v3_10), (4, .inr (.inr (some 41)))], [.inr (.inr (some 4))], sh, gc_h sh I92 J93 A)
                have f102 := (show 0 ≤ I92 4 1 ∧ I92 4 1 ≤ 96 from gc_in hI92 R_4 rfl rfl)
                refine gv_get hD rfl rfl S_4 ⟨by decide, B_4⟩ (gc_hI S_4 rfl) ?_
                show gv_X _ _ (228, [(5, .inl z67), (0, .inr (.inr (some 39))), (1, .inr (.inl v1_10)), (3, .inl v3_10), (4, .inr (.inr (some 41)))], [.inl (I92 4 1)], sh, gc_h sh I92 J93 A)
                refine gv_run 2 true hD (pc' := 231) (lv' := [(6, .inl (I92 4 1)), (5, .inl z67), (0, .inr (.inr (some 39))), (1, .inr (.inl v1_10)), (3, .inl v3_10), (4, .inr (.inr (some 41)))]) (st' := [.inr (.inr (some 39))]) (h' := gc_h sh I92 J93 A) (C := ((True ∧ True) ∧ True)) rfl ⟨⟨trivial, trivial⟩, trivial⟩ ?_
                refine gv_get hD rfl rfl S_39 ⟨by decide, B_39⟩ (gc_hA S_39 rfl A_39_0) ?_
                show gv_X _ _ (234, [(6, .inl (I92 4 1)), (5, .inl z67), (0, .inr (.inr (some 39))), (1, .inr (.inl v1_10)), (3, .inl v3_10), (4, .inr (.inr (some 41)))], [.inr (.inr (some 1))], sh, gc_h sh I92 J93 A)
                refine gv_get hD rfl rfl S_1 ⟨by decide, B_1⟩ (gc_hA S_1 rfl A_1_1) ?_
                show gv_X _ _ (237, [(6, .inl (I92 4 1)), (5, .inl z67), (0, .inr (.inr (some 39))), (1, .inr (.inl v1_10)), (3, .inl v3_10), (4, .inr (.inr (some 41)))], [.inr (.inr (some 4))], sh, gc_h sh I92 J93 A)
                refine gv_run 1 true hD (pc' := 238) (lv' := [(6, .inl (I92 4 1)), (5, .inl z67), (0, .inr (.inr (some 39))), (1, .inr (.inl v1_10)), (3, .inl v3_10), (4, .inr (.inr (some 41)))]) (st' := [.inr (.inl v1_10), .inr (.inr (some 4))]) (h' := gc_h sh I92 J93 A) (C := (True ∧ True)) rfl ⟨trivial, trivial⟩ ?_
                obtain ⟨r103, h103, E103, P103⟩ := d_X4_put (ws0 := ws0) (tb := tb) hws htb sh ro I92 J93 A hI92 4 96 11 v1_10 (gc_b4 hb)     
                obtain ⟨I104, J105, rfl, hI104, g103, k103, ⟨rfl, q103⟩⟩ := P103
                have FI104 := gc_frc (W := fun q j => (q = 39 ∧ j = 3) ∨ (q = 39 ∧ j = 4) ∨ (q = 23 ∧ j = 5) ∨ (q = 23 ∧ j = 6) ∨ (q = 23 ∧ j = 7) ∨ (q = 23 ∧ j = 8) ∨ (q = 39 ∧ j = 7) ∨ q = 41 ∨ (q = 4 ∧ j = 1) ∨ (q = 11 ∧ (I 4 1 ≤ (j : Int))) ∨ (q = 12 ∧ (I 4 1 ≤ (j : Int))) ∨ (q = 13 ∧ (4 * I 4 1 ≤ (j : Int))) ∨ q = 14) (V := fun q j => (q = 4 ∧ j = 1)) FI92 (fun q j h => (Or.inr (Or.inr (Or.inr (Or.inr (Or.inr (Or.inr (Or.inr (Or.inr (Or.inl h)))))))))) g103
                have FJ105 := gc_frc (W := fun q j => (q = 23 ∧ j = 9) ∨ q = 5) (V := fun q j => q = 5) FJ93 (fun q j h => (Or.inr h)) k103
                have t106 := (g103 23 1).resolve_left (fun h => absurd h.1 (by decide))
                have t107 := (g103 23 5).resolve_left (fun h => absurd h.2 (by decide))
                have t108 := (g103 23 6).resolve_left (fun h => absurd h.2 (by decide))
                have t109 := (g103 23 7).resolve_left (fun h => absurd h.2 (by decide))
                have t110 := (g103 2 1).resolve_left (fun h => absurd h.1 (by decide))
                have f111 := (show 0 ≤ I104 4 1 ∧ I104 4 1 ≤ 96 from gc_in hI104 R_4 rfl rfl)
                have KLT_I104 := gc_LT_fr KLT_I92 ((g103 23 5).resolve_left (fun h => absurd h.2 (by decide))) ((g103 23 6).resolve_left (fun h => absurd h.2 (by decide))) ((g103 23 7).resolve_left (fun h => absurd h.2 (by decide))) (fun k => (g103 24 k).resolve_left (fun h => absurd h.1 (by decide)))
                have KTK_I104 := gc_TK_fr KTK_I92 ((g103 23 1).resolve_left (fun h => absurd h.1 (by decide))) ((g103 23 5).resolve_left (fun h => absurd h.2 (by decide))) ((g103 23 6).resolve_left (fun h => absurd h.2 (by decide))) ((g103 23 7).resolve_left (fun h => absurd h.2 (by decide)))
                refine gv_callV hD rfl (As := [.inr (.inl v1_10)]) (st := []) rfl B_4 S_4 rfl (gc_lV6 hws rfl) (Nat.le_of_ble_eq_true rfl) (gz_Ev_mono (d := 1) (by decide) E103) ?_
                show gv_X _ _ (241, [(6, .inl (I92 4 1)), (5, .inl z67), (0, .inr (.inr (some 39))), (1, .inr (.inl v1_10)), (3, .inl v3_10), (4, .inr (.inr (some 41)))], [], sh, gc_h sh I104 J105 A)
                refine gv_run 1 true hD (pc' := 242) (lv' := [(6, .inl (I92 4 1)), (5, .inl z67), (0, .inr (.inr (some 39))), (1, .inr (.inl v1_10)), (3, .inl v3_10), (4, .inr (.inr (some 41)))]) (st' := [.inr (.inr (some 39))]) (h' := gc_h sh I104 J105 A) (C := (True ∧ True)) rfl ⟨trivial, trivial⟩ ?_
                refine gv_get hD rfl rfl S_39 ⟨by decide, B_39⟩ (gc_hA S_39 rfl A_39_0) ?_
                show gv_X _ _ (245, [(6, .inl (I92 4 1)), (5, .inl z67), (0, .inr (.inr (some 39))), (1, .inr (.inl v1_10)), (3, .inl v3_10), (4, .inr (.inr (some 41)))], [.inr (.inr (some 1))], sh, gc_h sh I104 J105 A)
                refine gv_get hD rfl rfl S_1 ⟨by decide, B_1⟩ (gc_hA S_1 rfl A_1_6) ?_
                show gv_X _ _ (248, [(6, .inl (I92 4 1)), (5, .inl z67), (0, .inr (.inr (some 39))), (1, .inr (.inl v1_10)), (3, .inl v3_10), (4, .inr (.inr (some 41)))], [.inr (.inr (some 11))], sh, gc_h sh I104 J105 A)
                refine gv_run 2 true hD (pc' := 252) (lv' := [(6, .inl (I92 4 1)), (5, .inl z67), (0, .inr (.inr (some 39))), (1, .inr (.inl v1_10)), (3, .inl v3_10), (4, .inr (.inr (some 41)))]) (st' := [.inl z67, .inl (I92 4 1), .inr (.inr (some 11))]) (h' := gc_h sh I104 J105 A) (C := ((True ∧ True) ∧ True)) rfl ⟨⟨trivial, trivial⟩, trivial⟩ ?_
                refine gv_iast hD rfl S_11 ⟨by decide, B_11⟩ ⟨by omega, by omega⟩ ?_
                refine gc_st hI104 S_11 rfl R_11 (lo := 0) (hi := 31) rfl rfl (by omega) (by omega) (fun I112 hI112 q113 p113 => ?_)
                have FI112 := gc_frs (W := fun q j => (q = 39 ∧ j = 3) ∨ (q = 39 ∧ j = 4) ∨ (q = 23 ∧ j = 5) ∨ (q = 23 ∧ j = 6) ∨ (q = 23 ∧ j = 7) ∨ (q = 23 ∧ j = 8) ∨ (q = 39 ∧ j = 7) ∨ q = 41 ∨ (q = 4 ∧ j = 1) ∨ (q = 11 ∧ (I 4 1 ≤ (j : Int))) ∨ (q = 12 ∧ (I 4 1 ≤ (j : Int))) ∨ (q = 13 ∧ (4 * I 4 1 ≤ (j : Int))) ∨ q = 14) FI104 (Or.inr (Or.inr (Or.inr (Or.inr (Or.inr (Or.inr (Or.inr (Or.inr (Or.inr (Or.inl ⟨rfl, by omega⟩)))))))))) p113
                have t114 := p113 23 1 (fun h => absurd h.1 (by decide))
                have t115 := p113 23 5 (fun h => absurd h.1 (by decide))
                have t116 := p113 23 6 (fun h => absurd h.1 (by decide))
                have t117 := p113 23 7 (fun h => absurd h.1 (by decide))
                have t118 := p113 4 1 (fun h => absurd h.1 (by decide))
                have t119 := p113 2 1 (fun h => absurd h.1 (by decide))
                have KLT_I112 := gc_LT_fr KLT_I104 (p113 23 5 (fun h => absurd h.1 (by decide))) (p113 23 6 (fun h => absurd h.1 (by decide))) (p113 23 7 (fun h => absurd h.1 (by decide))) (fun k => p113 24 k (fun h => absurd h.1 (by decide)))
                have KTK_I112 := gc_TK_fr KTK_I104 (p113 23 1 (fun h => absurd h.1 (by decide))) (p113 23 5 (fun h => absurd h.1 (by decide))) (p113 23 6 (fun h => absurd h.1 (by decide))) (p113 23 7 (fun h => absurd h.1 (by decide)))
                show gv_X _ _ (253, [(6, .inl (I92 4 1)), (5, .inl z67), (0, .inr (.inr (some 39))), (1, .inr (.inl v1_10)), (3, .inl v3_10), (4, .inr (.inr (some 41)))], [], sh, gc_h sh I112 J105 A)
                refine gv_run 1 true hD (pc' := 254) (lv' := [(6, .inl (I92 4 1)), (5, .inl z67), (0, .inr (.inr (some 39))), (1, .inr (.inl v1_10)), (3, .inl v3_10), (4, .inr (.inr (some 41)))]) (st' := [.inr (.inr (some 39))]) (h' := gc_h sh I112 J105 A) (C := (True ∧ True)) rfl ⟨trivial, trivial⟩ ?_
                refine gv_get hD rfl rfl S_39 ⟨by decide, B_39⟩ (gc_hA S_39 rfl A_39_0) ?_
                show gv_X _ _ (257, [(6, .inl (I92 4 1)), (5, .inl z67), (0, .inr (.inr (some 39))), (1, .inr (.inl v1_10)), (3, .inl v3_10), (4, .inr (.inr (some 41)))], [.inr (.inr (some 1))], sh, gc_h sh I112 J105 A)
                refine gv_get hD rfl rfl S_1 ⟨by decide, B_1⟩ (gc_hA S_1 rfl A_1_7) ?_
                show gv_X _ _ (260, [(6, .inl (I92 4 1)), (5, .inl z67), (0, .inr (.inr (some 39))), (1, .inr (.inl v1_10)), (3, .inl v3_10), (4, .inr (.inr (some 41)))], [.inr (.inr (some 12))], sh, gc_h sh I112 J105 A)
                refine gv_run 2 true hD (pc' := 263) (lv' := [(6, .inl (I92 4 1)), (5, .inl z67), (0, .inr (.inr (some 39))), (1, .inr (.inl v1_10)), (3, .inl v3_10), (4, .inr (.inr (some 41)))]) (st' := [.inl v3_10, .inl (I92 4 1), .inr (.inr (some 12))]) (h' := gc_h sh I112 J105 A) (C := ((True ∧ True) ∧ True)) rfl ⟨⟨trivial, trivial⟩, trivial⟩ ?_
                refine gv_iast hD rfl S_12 ⟨by decide, B_12⟩ ⟨by omega, by omega⟩ ?_
                refine gc_st hI112 S_12 rfl R_12 (lo := 0) (hi := 4) rfl rfl (by omega) (by omega) (fun I120 hI120 q121 p121 => ?_)
                have FI120 := gc_frs (W := fun q j => (q = 39 ∧ j = 3) ∨ (q = 39 ∧ j = 4) ∨ (q = 23 ∧ j = 5) ∨ (q = 23 ∧ j = 6) ∨ (q = 23 ∧ j = 7) ∨ (q = 23 ∧ j = 8) ∨ (q = 39 ∧ j = 7) ∨ q = 41 ∨ (q = 4 ∧ j = 1) ∨ (q = 11 ∧ (I 4 1 ≤ (j : Int))) ∨ (q = 12 ∧ (I 4 1 ≤ (j : Int))) ∨ (q = 13 ∧ (4 * I 4 1 ≤ (j : Int))) ∨ q = 14) FI112 (Or.inr (Or.inr (Or.inr (Or.inr (Or.inr (Or.inr (Or.inr (Or.inr (Or.inr (Or.inr (Or.inl ⟨rfl, by omega⟩))))))))))) p121
                have t122 := p121 23 1 (fun h => absurd h.1 (by decide))
                have t123 := p121 23 5 (fun h => absurd h.1 (by decide))
                have t124 := p121 23 6 (fun h => absurd h.1 (by decide))
                have t125 := p121 23 7 (fun h => absurd h.1 (by decide))
                have t126 := p121 4 1 (fun h => absurd h.1 (by decide))
                have t127 := p121 2 1 (fun h => absurd h.1 (by decide))
                have KLT_I120 := gc_LT_fr KLT_I112 (p121 23 5 (fun h => absurd h.1 (by decide))) (p121 23 6 (fun h => absurd h.1 (by decide))) (p121 23 7 (fun h => absurd h.1 (by decide))) (fun k => p121 24 k (fun h => absurd h.1 (by decide)))
                have KTK_I120 := gc_TK_fr KTK_I112 (p121 23 1 (fun h => absurd h.1 (by decide))) (p121 23 5 (fun h => absurd h.1 (by decide))) (p121 23 6 (fun h => absurd h.1 (by decide))) (p121 23 7 (fun h => absurd h.1 (by decide)))
                show gv_X _ _ (264, [(6, .inl (I92 4 1)), (5, .inl z67), (0, .inr (.inr (some 39))), (1, .inr (.inl v1_10)), (3, .inl v3_10), (4, .inr (.inr (some 41)))], [], sh, gc_h sh I120 J105 A)
                refine gv_run 1 true hD (pc' := 265) (lv' := [(6, .inl (I92 4 1)), (5, .inl z67), (0, .inr (.inr (some 39))), (1, .inr (.inl v1_10)), (3, .inl v3_10), (4, .inr (.inr (some 41)))]) (st' := [.inr (.inr (some 39))]) (h' := gc_h sh I120 J105 A) (C := (True ∧ True)) rfl ⟨trivial, trivial⟩ ?_
                refine gv_get hD rfl rfl S_39 ⟨by decide, B_39⟩ (gc_hA S_39 rfl A_39_0) ?_
                show gv_X _ _ (268, [(6, .inl (I92 4 1)), (5, .inl z67), (0, .inr (.inr (some 39))), (1, .inr (.inl v1_10)), (3, .inl v3_10), (4, .inr (.inr (some 41)))], [.inr (.inr (some 1))], sh, gc_h sh I120 J105 A)
                refine gv_get hD rfl rfl S_1 ⟨by decide, B_1⟩ (gc_hA S_1 rfl A_1_9) ?_
                show gv_X _ _ (271, [(6, .inl (I92 4 1)), (5, .inl z67), (0, .inr (.inr (some 39))), (1, .inr (.inl v1_10)), (3, .inl v3_10), (4, .inr (.inr (some 41)))], [.inr (.inr (some 14))], sh, gc_h sh I120 J105 A)
                refine gv_run 2 true hD (pc' := 274) (lv' := [(6, .inl (I92 4 1)), (5, .inl z67), (0, .inr (.inr (some 39))), (1, .inr (.inl v1_10)), (3, .inl v3_10), (4, .inr (.inr (some 41)))]) (st' := [.inr (.inr (some 39)), .inl (I92 4 1), .inr (.inr (some 14))]) (h' := gc_h sh I120 J105 A) (C := ((True ∧ True) ∧ True)) rfl ⟨⟨trivial, trivial⟩, trivial⟩ ?_
                have f128 := (show 0 ≤ I120 39 7 ∧ I120 39 7 ≤ 10000 from gc_in hI120 R_39 rfl rfl)
                refine gv_get hD rfl rfl S_39 ⟨by decide, B_39⟩ (gc_hI S_39 rfl) ?_
                show gv_X _ _ (277, [(6, .inl (I92 4 1)), (5, .inl z67), (0, .inr (.inr (some 39))), (1, .inr (.inl v1_10)), (3, .inl v3_10), (4, .inr (.inr (some 41)))], [.inl (I120 39 7), .inl (I92 4 1), .inr (.inr (some 14))], sh, gc_h sh I120 J105 A)
                refine gv_iast hD rfl S_14 ⟨by decide, B_14⟩ ⟨by omega, by omega⟩ ?_
                refine gc_st hI120 S_14 rfl R_14 (lo := 0) (hi := 10000) rfl rfl (by omega) (by omega) (fun I129 hI129 q130 p130 => ?_)
                have FI129 := gc_frs (W := fun q j => (q = 39 ∧ j = 3) ∨ (q = 39 ∧ j = 4) ∨ (q = 23 ∧ j = 5) ∨ (q = 23 ∧ j = 6) ∨ (q = 23 ∧ j = 7) ∨ (q = 23 ∧ j = 8) ∨ (q = 39 ∧ j = 7) ∨ q = 41 ∨ (q = 4 ∧ j = 1) ∨ (q = 11 ∧ (I 4 1 ≤ (j : Int))) ∨ (q = 12 ∧ (I 4 1 ≤ (j : Int))) ∨ (q = 13 ∧ (4 * I 4 1 ≤ (j : Int))) ∨ q = 14) FI120 (Or.inr (Or.inr (Or.inr (Or.inr (Or.inr (Or.inr (Or.inr (Or.inr (Or.inr (Or.inr (Or.inr (Or.inr rfl)))))))))))) p130
                have t131 := p130 23 1 (fun h => absurd h.1 (by decide))
                have t132 := p130 23 5 (fun h => absurd h.1 (by decide))
                have t133 := p130 23 6 (fun h => absurd h.1 (by decide))
                have t134 := p130 23 7 (fun h => absurd h.1 (by decide))
                have t135 := p130 4 1 (fun h => absurd h.1 (by decide))
                have t136 := p130 2 1 (fun h => absurd h.1 (by decide))
                have KLT_I129 := gc_LT_fr KLT_I120 (p130 23 5 (fun h => absurd h.1 (by decide))) (p130 23 6 (fun h => absurd h.1 (by decide))) (p130 23 7 (fun h => absurd h.1 (by decide))) (fun k => p130 24 k (fun h => absurd h.1 (by decide)))
                have KTK_I129 := gc_TK_fr KTK_I120 (p130 23 1 (fun h => absurd h.1 (by decide))) (p130 23 5 (fun h => absurd h.1 (by decide))) (p130 23 6 (fun h => absurd h.1 (by decide))) (p130 23 7 (fun h => absurd h.1 (by decide)))
                show gv_X _ _ (278, [(6, .inl (I92 4 1)), (5, .inl z67), (0, .inr (.inr (some 39))), (1, .inr (.inl v1_10)), (3, .inl v3_10), (4, .inr (.inr (some 41)))], [], sh, gc_h sh I129 J105 A)
                refine gv_run 3 true hD (pc' := 282) (lv' := [(6, .inl (I92 4 1)), (5, .inl z67), (0, .inr (.inr (some 39))), (1, .inr (.inl v1_10)), (3, .inl v3_10), (4, .inr (.inr (some 41)))]) (st' := [.inr (.inr (some 39)), .inl 0, .inr (.inr (some 41))]) (h' := gc_h sh I129 J105 A) (C := (((True ∧ True) ∧ True) ∧ True)) rfl ⟨⟨⟨trivial, trivial⟩, trivial⟩, trivial⟩ ?_
                refine gv_get hD rfl rfl S_39 ⟨by decide, B_39⟩ (gc_hA S_39 rfl A_39_0) ?_
                show gv_X _ _ (285, [(6, .inl (I92 4 1)), (5, .inl z67), (0, .inr (.inr (some 39))), (1, .inr (.inl v1_10)), (3, .inl v3_10), (4, .inr (.inr (some 41)))], [.inr (.inr (some 1)), .inl 0, .inr (.inr (some 41))], sh, gc_h sh I129 J105 A)
                refine gv_get hD rfl rfl S_1 ⟨by decide, B_1⟩ (gc_hA S_1 rfl A_1_8) ?_
                show gv_X _ _ (288, [(6, .inl (I92 4 1)), (5, .inl z67), (0, .inr (.inr (some 39))), (1, .inr (.inl v1_10)), (3, .inl v3_10), (4, .inr (.inr (some 41)))], [.inr (.inr (some 13)), .inl 0, .inr (.inr (some 41))], sh, gc_h sh I129 J105 A)
                refine gv_run 4 true hD (pc' := 293) (lv' := [(6, .inl (I92 4 1)), (5, .inl z67), (0, .inr (.inr (some 39))), (1, .inr (.inl v1_10)), (3, .inl v3_10), (4, .inr (.inr (some 41)))]) (st' := [.inl v3_10, .inl ((I92 4 1) * 4), .inr (.inr (some 13)), .inl 0, .inr (.inr (some 41))]) (h' := gc_h sh I129 J105 A) (C := ((((True ∧ True) ∧ True) ∧ True) ∧ True)) rfl ⟨⟨⟨⟨trivial, trivial⟩, trivial⟩, trivial⟩, trivial⟩ ?_
                refine gv_copy hD rfl (gc_lC6_263 hws) (Nat.le_of_ble_eq_true rfl) ⟨B_41, B_13⟩ S_41 S_13 (by decide) ⟨by decide, by decide⟩ ⟨by omega, by omega, by omega⟩ (by omega) (by omega) (fun h => absurd h (by decide)) ?_
                refine gc_cp hI129 S_41 S_13 (by decide) (fun j hj => by have h9 := (gc_rg_fr (gc_rg_fr (gc_rg_fr (gc_rg_fr (gc_rg_fr (gc_rg_fr (gc_rg_fr (gc_rg_fr (gc_rg_fr e0_18 (fun k => (g46 41 k).resolve_left (by omega))) (fun k => (g57 41 k).resolve_left (by omega))) (fun k => (g68 41 k).resolve_left (by omega))) (fun k => (g79 41 k).resolve_left (by omega))) (fun k => (g91 41 k).resolve_left (by omega))) (fun k => (g103 41 k).resolve_left (by omega))) (fun k => p113 41 k (fun h => absurd h.1 (by omega)))) (fun k => p121 41 k (fun h => absurd h.1 (by omega)))) (fun k => p130 41 k (fun h => absurd h.1 (by omega)))) (j : Int) (by omega) (by omega); rw [show Int.toNat (0 : Int) + j = Int.toNat (j : Int) from by omega, R_13]; exact ⟨by show (0 : Int) ≤ _; omega, by show _ ≤ (31 : Int); omega⟩) (fun I138 hI138 p137 q137 => ?_)
                have FI138 := gc_frp (W := fun q j => (q = 39 ∧ j = 3) ∨ (q = 39 ∧ j = 4) ∨ (q = 23 ∧ j = 5) ∨ (q = 23 ∧ j = 6) ∨ (q = 23 ∧ j = 7) ∨ (q = 23 ∧ j = 8) ∨ (q = 39 ∧ j = 7) ∨ q = 41 ∨ (q = 4 ∧ j = 1) ∨ (q = 11 ∧ (I 4 1 ≤ (j : Int))) ∨ (q = 12 ∧ (I 4 1 ≤ (j : Int))) ∨ (q = 13 ∧ (4 * I 4 1 ≤ (j : Int))) ∨ q = 14) (V := fun q j => q = 13 ∧ Int.toNat (((I92 4 1) * 4)) ≤ j ∧ j < Int.toNat (((I92 4 1) * 4)) + Int.toNat v3_10) FI129 (fun q j h => (Or.inr (Or.inr (Or.inr (Or.inr (Or.inr (Or.inr (Or.inr (Or.inr (Or.inr (Or.inr (Or.inr (Or.inl ⟨h.1, by have := h.2; omega⟩))))))))))))) p137
                have KLT_I138 := gc_LT_fr KLT_I129 (p137 23 5 (fun h => absurd h.1 (by decide))) (p137 23 6 (fun h => absurd h.1 (by decide))) (p137 23 7 (fun h => absurd h.1 (by decide))) (fun k => p137 24 k (fun h => absurd h.1 (by decide)))
                have KTK_I138 := gc_TK_fr KTK_I129 (p137 23 1 (fun h => absurd h.1 (by decide))) (p137 23 5 (fun h => absurd h.1 (by decide))) (p137 23 6 (fun h => absurd h.1 (by decide))) (p137 23 7 (fun h => absurd h.1 (by decide)))
                have t140 := p137 23 1 (fun h => absurd h.1 (by decide))
                have t141 := p137 23 5 (fun h => absurd h.1 (by decide))
                have t142 := p137 23 6 (fun h => absurd h.1 (by decide))
                have t143 := p137 23 7 (fun h => absurd h.1 (by decide))
                have t144 := p137 4 1 (fun h => absurd h.1 (by decide))
                have t145 := p137 2 1 (fun h => absurd h.1 (by decide))
                have t146 := gc_TK_mo KTK_I138
                have f147 := (show 0 ≤ I138 23 1 ∧ I138 23 1 ≤ 1000 from gc_in hI138 R_23 rfl rfl)
                have f148 := (show 0 ≤ I138 23 5 ∧ I138 23 5 ≤ 1000 from gc_in hI138 R_23 rfl rfl)
                have f149 := (show 0 ≤ I138 23 6 ∧ I138 23 6 ≤ 1001 from gc_in hI138 R_23 rfl rfl)
                have f150 := (show 0 ≤ I138 23 7 ∧ I138 23 7 ≤ 125 from gc_in hI138 R_23 rfl rfl)
                have f151 := (show 0 ≤ I138 4 1 ∧ I138 4 1 ≤ 96 from gc_in hI138 R_4 rfl rfl)
                have f152 := (show 0 ≤ I138 2 1 ∧ I138 2 1 ≤ 32 from gc_in hI138 R_2 rfl rfl)
                show gv_X _ _ (296, [(6, .inl (I92 4 1)), (5, .inl z67), (0, .inr (.inr (some 39))), (1, .inr (.inl v1_10)), (3, .inl v3_10), (4, .inr (.inr (some 41)))], [], sh, gc_h sh I138 J105 A)
                refine gv_run 1 true hD (pc' := 297) (lv' := [(6, .inl (I92 4 1)), (5, .inl z67), (0, .inr (.inr (some 39))), (1, .inr (.inl v1_10)), (3, .inl v3_10), (4, .inr (.inr (some 41)))]) (st' := [.inl 1]) (h' := gc_h sh I138 J105 A) (C := (True ∧ True)) rfl ⟨trivial, trivial⟩ ?_
                exact gv_zret hD rfl (by omega) ⟨I138, J105, rfl, hI138, FI138, FJ105, KLT_I138, KTK_I138, ⟨_, rfl, by omega⟩⟩
              · show gv_X _ _ (216, [(5, .inl z67), (0, .inr (.inr (some 39))), (1, .inr (.inl v1_10)), (3, .inl v3_10), (4, .inr (.inr (some 41)))], [], sh, gc_h sh I92 J93 A)
                refine gv_pick [] rfl ?_
                exact L216 I92 J93 hI92 FI92 FJ93 KLT_I92 KTK_I92 (by omega)
          · show gv_X _ _ (164, [(0, .inr (.inr (some 39))), (1, .inr (.inl v1_10)), (3, .inl v3_10), (4, .inr (.inr (some 41)))], [], sh, gc_h sh I58 J48 A)
            refine gv_pick [] rfl ?_
            exact L164 I58 J48 hI58 FI58 FJ48 KLT_I58 KTK_I58 (by omega)
      refine gv_run 2 true hD (pc' := 56) (lv' := [(0, .inr (.inr (some 39))), (1, .inr (.inl v1_10)), (3, .inl v3_10), (4, .inr (.inr (some 41))), (5, .inl v5_10)]) (st' := [.inl 4, .inl v5_10]) (h' := gc_h sh I8 J9 A) (C := ((True ∧ True) ∧ True)) rfl ⟨⟨trivial, trivial⟩, trivial⟩ ?_
      refine gv_icmp_gt (t := 141) hD rfl rfl ⟨⟨by omega, by omega⟩, ⟨by omega, by omega⟩⟩ (fun c153 => ?_) (fun c153 => ?_)
      · show gv_X _ _ (141, [(0, .inr (.inr (some 39))), (1, .inr (.inl v1_10)), (3, .inl v3_10), (4, .inr (.inr (some 41))), (5, .inl v5_10)], [], sh, gc_h sh I8 J9 A)
        refine gv_pick [0, 1, 2, 3] rfl ?_
        exact L141 (by omega) e0_10
      · show gv_X _ _ (59, [(0, .inr (.inr (some 39))), (1, .inr (.inl v1_10)), (3, .inl v3_10), (4, .inr (.inr (some 41))), (5, .inl v5_10)], [], sh, gc_h sh I8 J9 A)
        refine gv_run 1 true hD (pc' := 60) (lv' := [(0, .inr (.inr (some 39))), (1, .inr (.inl v1_10)), (3, .inl v3_10), (4, .inr (.inr (some 41))), (5, .inl v5_10)]) (st' := [.inr (.inr (some 39))]) (h' := gc_h sh I8 J9 A) (C := (True ∧ True)) rfl ⟨trivial, trivial⟩ ?_
        refine gv_get hD rfl rfl S_39 ⟨by decide, B_39⟩ (gc_hA S_39 rfl A_39_1) ?_
        show gv_X _ _ (63, [(0, .inr (.inr (some 39))), (1, .inr (.inl v1_10)), (3, .inl v3_10), (4, .inr (.inr (some 41))), (5, .inl v5_10)], [.inr (.inr (some 23))], sh, gc_h sh I8 J9 A)
        have f154 := (show 0 ≤ I8 23 7 ∧ I8 23 7 ≤ 125 from gc_in hI8 R_23 rfl rfl)
        refine gv_get hD rfl rfl S_23 ⟨by decide, B_23⟩ (gc_hI S_23 rfl) ?_
        show gv_X _ _ (66, [(0, .inr (.inr (some 39))), (1, .inr (.inl v1_10)), (3, .inl v3_10), (4, .inr (.inr (some 41))), (5, .inl v5_10)], [.inl (I8 23 7)], sh, gc_h sh I8 J9 A)
        refine gv_run 1 true hD (pc' := 67) (lv' := [(0, .inr (.inr (some 39))), (1, .inr (.inl v1_10)), (3, .inl v3_10), (4, .inr (.inr (some 41))), (5, .inl v5_10)]) (st' := [.inl 1, .inl (I8 23 7)]) (h' := gc_h sh I8 J9 A) (C := (True ∧ True)) rfl ⟨trivial, trivial⟩ ?_
        refine gv_icmp_ne (t := 141) hD rfl rfl ⟨⟨by omega, by omega⟩, ⟨by omega, by omega⟩⟩ (fun c155 => ?_) (fun c155 => ?_)
        · show gv_X _ _ (141, [(0, .inr (.inr (some 39))), (1, .inr (.inl v1_10)), (3, .inl v3_10), (4, .inr (.inr (some 41))), (5, .inl v5_10)], [], sh, gc_h sh I8 J9 A)
          refine gv_pick [0, 1, 2, 3] rfl ?_
          exact L141 (by omega) e0_10
        · show gv_X _ _ (70, [(0, .inr (.inr (some 39))), (1, .inr (.inl v1_10)), (3, .inl v3_10), (4, .inr (.inr (some 41))), (5, .inl v5_10)], [], sh, gc_h sh I8 J9 A)
          refine gv_run 2 true hD (pc' := 72) (lv' := [(0, .inr (.inr (some 39))), (1, .inr (.inl v1_10)), (3, .inl v3_10), (4, .inr (.inr (some 41))), (5, .inl v5_10)]) (st' := [.inl 4, .inl v3_10]) (h' := gc_h sh I8 J9 A) (C := ((True ∧ True) ∧ True)) rfl ⟨⟨trivial, trivial⟩, trivial⟩ ?_
          refine gv_icmp_ne (t := 88) hD rfl rfl ⟨⟨by omega, by omega⟩, ⟨by omega, by omega⟩⟩ (fun c156 => ?_) (fun c156 => ?_)
          · show gv_X _ _ (88, [(0, .inr (.inr (some 39))), (1, .inr (.inl v1_10)), (3, .inl v3_10), (4, .inr (.inr (some 41))), (5, .inl v5_10)], [], sh, gc_h sh I8 J9 A)
            refine gv_run 2 true hD (pc' := 90) (lv' := [(0, .inr (.inr (some 39))), (1, .inr (.inl v1_10)), (3, .inl v3_10), (4, .inr (.inr (some 41))), (5, .inl v5_10)]) (st' := [.inr (.inr (some 39)), .inr (.inr (some 39))]) (h' := gc_h sh I8 J9 A) (C := ((True ∧ True) ∧ True)) rfl ⟨⟨trivial, trivial⟩, trivial⟩ ?_
            refine gv_get hD rfl rfl S_39 ⟨by decide, B_39⟩ (gc_hA S_39 rfl A_39_0) ?_
            show gv_X _ _ (93, [(0, .inr (.inr (some 39))), (1, .inr (.inl v1_10)), (3, .inl v3_10), (4, .inr (.inr (some 41))), (5, .inl v5_10)], [.inr (.inr (some 1)), .inr (.inr (some 39))], sh, gc_h sh I8 J9 A)
            refine gv_get hD rfl rfl S_1 ⟨by decide, B_1⟩ (gc_hA S_1 rfl A_1_0) ?_
            show gv_X _ _ (96, [(0, .inr (.inr (some 39))), (1, .inr (.inl v1_10)), (3, .inl v3_10), (4, .inr (.inr (some 41))), (5, .inl v5_10)], [.inr (.inr (some 2)), .inr (.inr (some 39))], sh, gc_h sh I8 J9 A)
            obtain ⟨r157, h157, E157, P157⟩ := d_X6_needKnown (ws0 := ws0) (tb := tb) hws htb sh ro I8 J9 A hI8  32 9 2 hb (gc_b2 hb)    
            obtain ⟨I158, J159, rfl, hI158, g157, k157, ⟨z157, rfl, q157⟩⟩ := P157
            have FI158 := gc_frc (W := fun q j => (q = 39 ∧ j = 3) ∨ (q = 39 ∧ j = 4) ∨ (q = 23 ∧ j = 5) ∨ (q = 23 ∧ j = 6) ∨ (q = 23 ∧ j = 7) ∨ (q = 23 ∧ j = 8) ∨ (q = 39 ∧ j = 7) ∨ q = 41 ∨ (q = 4 ∧ j = 1) ∨ (q = 11 ∧ (I 4 1 ≤ (j : Int))) ∨ (q = 12 ∧ (I 4 1 ≤ (j : Int))) ∨ (q = 13 ∧ (4 * I 4 1 ≤ (j : Int))) ∨ q = 14) (V := fun q j => (q = 39 ∧ j = 3) ∨ (q = 39 ∧ j = 4)) FI8 (fun q j h => (h.elim (fun h => (Or.inl h)) (fun h => (Or.inr (Or.inl h))))) g157
            have t160 := (g157 23 1).resolve_left (fun h => h.elim (fun h => absurd h.2 (by decide)) (fun h => absurd h.2 (by decide)))
            have t161 := (g157 23 5).resolve_left (fun h => h.elim (fun h => absurd h.2 (by decide)) (fun h => absurd h.2 (by decide)))
            have t162 := (g157 23 6).resolve_left (fun h => h.elim (fun h => absurd h.2 (by decide)) (fun h => absurd h.2 (by decide)))
            have t163 := (g157 23 7).resolve_left (fun h => h.elim (fun h => absurd h.2 (by decide)) (fun h => absurd h.2 (by decide)))
            have t164 := (g157 4 1).resolve_left (fun h => h.elim (fun h => absurd h.2 (by decide)) (fun h => absurd h.2 (by decide)))
            have t165 := (g157 2 1).resolve_left (fun h => h.elim (fun h => absurd h.2 (by decide)) (fun h => absurd h.2 (by decide)))
            obtain rfl : J9 = J159 := funext fun q => funext fun j => ((k157 q j).resolve_left id).symm
            have KLT_I158 := gc_LT_fr KLT_I8 ((g157 23 5).resolve_left (fun h => h.elim (fun h => absurd h.2 (by decide)) (fun h => absurd h.2 (by decide)))) ((g157 23 6).resolve_left (fun h => h.elim (fun h => absurd h.2 (by decide)) (fun h => absurd h.2 (by decide)))) ((g157 23 7).resolve_left (fun h => h.elim (fun h => absurd h.2 (by decide)) (fun h => absurd h.2 (by decide)))) (fun k => (g157 24 k).resolve_left (fun h => h.elim (fun h => absurd h.1 (by decide)) (fun h => absurd h.1 (by decide))))
            have KTK_I158 := gc_TK_fr KTK_I8 ((g157 23 1).resolve_left (fun h => h.elim (fun h => absurd h.2 (by decide)) (fun h => absurd h.2 (by decide)))) ((g157 23 5).resolve_left (fun h => h.elim (fun h => absurd h.2 (by decide)) (fun h => absurd h.2 (by decide)))) ((g157 23 6).resolve_left (fun h => h.elim (fun h => absurd h.2 (by decide)) (fun h => absurd h.2 (by decide)))) ((g157 23 7).resolve_left (fun h => h.elim (fun h => absurd h.2 (by decide)) (fun h => absurd h.2 (by decide))))
            refine gv_callV hD rfl (As := [.inr (.inr (some 2))]) (st := []) rfl B_39 S_39 rfl (gc_lV6 hws rfl) (Nat.le_of_ble_eq_true rfl) (gz_Ev_mono (d := 3) (by decide) E157) ?_
            show gv_X _ _ (99, [(0, .inr (.inr (some 39))), (1, .inr (.inl v1_10)), (3, .inl v3_10), (4, .inr (.inr (some 41))), (5, .inl v5_10)], [.inl z157], sh, gc_h sh I158 J9 A)
            refine gv_if_ne (t := 104) hD rfl rfl ⟨by omega, by omega⟩ (fun c166 => ?_) (fun c166 => ?_)
            · show gv_X _ _ (104, [(0, .inr (.inr (some 39))), (1, .inr (.inl v1_10)), (3, .inl v3_10), (4, .inr (.inr (some 41))), (5, .inl v5_10)], [], sh, gc_h sh I158 J9 A)
              refine gv_run 4 true hD (pc' := 111) (lv' := [(3, .inl (v3_10 + 1)), (0, .inr (.inr (some 39))), (1, .inr (.inl v1_10)), (4, .inr (.inr (some 41))), (5, .inl v5_10)]) (st' := [.inr (.inr (some 39)), .inl v3_10, .inr (.inr (some 41))]) (h' := gc_h sh I158 J9 A) (C := ((((True ∧ True) ∧ True) ∧ True) ∧ True)) rfl ⟨⟨⟨⟨trivial, trivial⟩, trivial⟩, trivial⟩, trivial⟩ ?_
              refine gv_get hD rfl rfl S_39 ⟨by decide, B_39⟩ (gc_hA S_39 rfl A_39_0) ?_
              show gv_X _ _ (114, [(3, .inl (v3_10 + 1)), (0, .inr (.inr (some 39))), (1, .inr (.inl v1_10)), (4, .inr (.inr (some 41))), (5, .inl v5_10)], [.inr (.inr (some 1)), .inl v3_10, .inr (.inr (some 41))], sh, gc_h sh I158 J9 A)
              refine gv_get hD rfl rfl S_1 ⟨by decide, B_1⟩ (gc_hA S_1 rfl A_1_0) ?_
              show gv_X _ _ (117, [(3, .inl (v3_10 + 1)), (0, .inr (.inr (some 39))), (1, .inr (.inl v1_10)), (4, .inr (.inr (some 41))), (5, .inl v5_10)], [.inr (.inr (some 2)), .inl v3_10, .inr (.inr (some 41))], sh, gc_h sh I158 J9 A)
              refine gv_run 1 true hD (pc' := 118) (lv' := [(3, .inl (v3_10 + 1)), (0, .inr (.inr (some 39))), (1, .inr (.inl v1_10)), (4, .inr (.inr (some 41))), (5, .inl v5_10)]) (st' := [.inr (.inr (some 39)), .inr (.inr (some 2)), .inl v3_10, .inr (.inr (some 41))]) (h' := gc_h sh I158 J9 A) (C := (True ∧ True)) rfl ⟨trivial, trivial⟩ ?_
              refine gv_get hD rfl rfl S_39 ⟨by decide, B_39⟩ (gc_hA S_39 rfl A_39_1) ?_
              show gv_X _ _ (121, [(3, .inl (v3_10 + 1)), (0, .inr (.inr (some 39))), (1, .inr (.inl v1_10)), (4, .inr (.inr (some 41))), (5, .inl v5_10)], [.inr (.inr (some 23)), .inr (.inr (some 2)), .inl v3_10, .inr (.inr (some 41))], sh, gc_h sh I158 J9 A)
              refine gv_get hD rfl rfl S_23 ⟨by decide, B_23⟩ (gc_hJ S_23 rfl) ?_
              show gv_X _ _ (124, [(3, .inl (v3_10 + 1)), (0, .inr (.inr (some 39))), (1, .inr (.inl v1_10)), (4, .inr (.inr (some 41))), (5, .inl v5_10)], [.inr (.inl (J9 23 9)), .inr (.inr (some 2)), .inl v3_10, .inr (.inr (some 41))], sh, gc_h sh I158 J9 A)
              obtain ⟨r167, h167, E167, P167⟩ := d_X4_find (ws0 := ws0) (tb := tb) hws htb sh ro I158 J9 A hI158 2 32 9 (J9 23 9) (gc_b2 hb)     
              obtain ⟨rfl, ⟨z167, rfl, q167⟩⟩ := P167
              refine gv_callV hD rfl (As := [.inr (.inl (J9 23 9))]) (st := [.inl v3_10, .inr (.inr (some 41))]) rfl B_2 S_2 rfl (gc_lV6 hws rfl) (Nat.le_of_ble_eq_true rfl) (gz_Ev_mono (d := 1) (by decide) E167) ?_
              show gv_X _ _ (127, [(3, .inl (v3_10 + 1)), (0, .inr (.inr (some 39))), (1, .inr (.inl v1_10)), (4, .inr (.inr (some 41))), (5, .inl v5_10)], [.inl z167, .inl v3_10, .inr (.inr (some 41))], sh, gc_h sh I158 J9 A)
              refine gv_iast hD rfl S_41 ⟨by decide, B_41⟩ ⟨by omega, by omega⟩ ?_
              refine gc_st hI158 S_41 rfl R_41 (lo := (-2147483648)) (hi := 2147483647) rfl rfl (by omega) (by omega) (fun I168 hI168 q169 p169 => ?_)
              have FI168 := gc_frs (W := fun q j => (q = 39 ∧ j = 3) ∨ (q = 39 ∧ j = 4) ∨ (q = 23 ∧ j = 5) ∨ (q = 23 ∧ j = 6) ∨ (q = 23 ∧ j = 7) ∨ (q = 23 ∧ j = 8) ∨ (q = 39 ∧ j = 7) ∨ q = 41 ∨ (q = 4 ∧ j = 1) ∨ (q = 11 ∧ (I 4 1 ≤ (j : Int))) ∨ (q = 12 ∧ (I 4 1 ≤ (j : Int))) ∨ (q = 13 ∧ (4 * I 4 1 ≤ (j : Int))) ∨ q = 14) FI158 (Or.inr (Or.inr (Or.inr (Or.inr (Or.inr (Or.inr (Or.inr (Or.inl rfl)))))))) p169
              have t170 := p169 23 1 (fun h => absurd h.1 (by decide))
              have t171 := p169 23 5 (fun h => absurd h.1 (by decide))
              have t172 := p169 23 6 (fun h => absurd h.1 (by decide))
              have t173 := p169 23 7 (fun h => absurd h.1 (by decide))
              have t174 := p169 4 1 (fun h => absurd h.1 (by decide))
              have t175 := p169 2 1 (fun h => absurd h.1 (by decide))
              have KLT_I168 := gc_LT_fr KLT_I158 (p169 23 5 (fun h => absurd h.1 (by decide))) (p169 23 6 (fun h => absurd h.1 (by decide))) (p169 23 7 (fun h => absurd h.1 (by decide))) (fun k => p169 24 k (fun h => absurd h.1 (by decide)))
              have KTK_I168 := gc_TK_fr KTK_I158 (p169 23 1 (fun h => absurd h.1 (by decide))) (p169 23 5 (fun h => absurd h.1 (by decide))) (p169 23 6 (fun h => absurd h.1 (by decide))) (p169 23 7 (fun h => absurd h.1 (by decide)))
              show gv_X _ _ (128, [(3, .inl (v3_10 + 1)), (0, .inr (.inr (some 39))), (1, .inr (.inl v1_10)), (4, .inr (.inr (some 41))), (5, .inl v5_10)], [], sh, gc_h sh I168 J9 A)
              refine gv_run 1 true hD (pc' := 129) (lv' := [(3, .inl (v3_10 + 1)), (0, .inr (.inr (some 39))), (1, .inr (.inl v1_10)), (4, .inr (.inr (some 41))), (5, .inl v5_10)]) (st' := [.inr (.inr (some 39))]) (h' := gc_h sh I168 J9 A) (C := (True ∧ True)) rfl ⟨trivial, trivial⟩ ?_
              refine gv_get hD rfl rfl S_39 ⟨by decide, B_39⟩ (gc_hA S_39 rfl A_39_1) ?_
              show gv_X _ _ (132, [(3, .inl (v3_10 + 1)), (0, .inr (.inr (some 39))), (1, .inr (.inl v1_10)), (4, .inr (.inr (some 41))), (5, .inl v5_10)], [.inr (.inr (some 23))], sh, gc_h sh I168 J9 A)
              have t177 := gc_TK_nx KTK_I168 (by omega)
              obtain ⟨r176, h176, E176, P176⟩ := d_X9_advance (ws0 := ws0) (tb := tb) hws htb sh ro I168 J9 A hI168 23  (gc_b23 hb)    (by omega) 
              obtain ⟨I178, J179, rfl, hI178, g176, k176, ⟨rfl, V176_0, V176_1, V176_2, V176_3, V176_4, q176⟩⟩ := P176
              have FI178 := gc_frc (W := fun q j => (q = 39 ∧ j = 3) ∨ (q = 39 ∧ j = 4) ∨ (q = 23 ∧ j = 5) ∨ (q = 23 ∧ j = 6) ∨ (q = 23 ∧ j = 7) ∨ (q = 23 ∧ j = 8) ∨ (q = 39 ∧ j = 7) ∨ q = 41 ∨ (q = 4 ∧ j = 1) ∨ (q = 11 ∧ (I 4 1 ≤ (j : Int))) ∨ (q = 12 ∧ (I 4 1 ≤ (j : Int))) ∨ (q = 13 ∧ (4 * I 4 1 ≤ (j : Int))) ∨ q = 14) (V := fun q j => (q = 23 ∧ j = 5) ∨ (q = 23 ∧ j = 6) ∨ (q = 23 ∧ j = 7) ∨ (q = 23 ∧ j = 8)) FI168 (fun q j h => (h.elim (fun h => (Or.inr (Or.inr (Or.inl h)))) (fun h => (h.elim (fun h => (Or.inr (Or.inr (Or.inr (Or.inl h))))) (fun h => (h.elim (fun h => (Or.inr (Or.inr (Or.inr (Or.inr (Or.inl h)))))) (fun h => (Or.inr (Or.inr (Or.inr (Or.inr (Or.inr (Or.inl h))))))))))))) g176
              have FJ179 := gc_frc (W := fun q j => (q = 23 ∧ j = 9) ∨ q = 5) (V := fun q j => (q = 23 ∧ j = 9)) FJ9 (fun q j h => (Or.inl h)) k176
              have t180 := (g176 23 1).resolve_left (fun h => h.elim (fun h => absurd h.2 (by decide)) (fun h => h.elim (fun h => absurd h.2 (by decide)) (fun h => h.elim (fun h => absurd h.2 (by decide)) (fun h => absurd h.2 (by decide)))))
              have t181 := (g176 4 1).resolve_left (fun h => h.elim (fun h => absurd h.2 (by decide)) (fun h => h.elim (fun h => absurd h.2 (by decide)) (fun h => h.elim (fun h => absurd h.2 (by decide)) (fun h => absurd h.2 (by decide)))))
              have t182 := (g176 2 1).resolve_left (fun h => h.elim (fun h => absurd h.2 (by decide)) (fun h => h.elim (fun h => absurd h.2 (by decide)) (fun h => h.elim (fun h => absurd h.2 (by decide)) (fun h => absurd h.2 (by decide)))))
              have f183 := (show 0 ≤ I178 23 5 ∧ I178 23 5 ≤ 1000 from gc_in hI178 R_23 rfl rfl)
              have f184 := (show 0 ≤ I178 23 6 ∧ I178 23 6 ≤ 1001 from gc_in hI178 R_23 rfl rfl)
              have f185 := (show 0 ≤ I178 23 7 ∧ I178 23 7 ≤ 125 from gc_in hI178 R_23 rfl rfl)
              have KLT_I178 : gc_LT I178 := q176.2.2
              have KTK_I178 : gc_TK I178 := And.intro V176_0 (And.intro V176_1 (And.intro V176_2 (And.intro V176_3 V176_4)))
              have t186 := gc_TK_mo KTK_I178
              clear V176_0 V176_1 V176_2 V176_3 V176_4
              refine gv_callV hD rfl (As := []) (st := []) rfl B_23 S_23 rfl (gc_lV6 hws rfl) (Nat.le_of_ble_eq_true rfl) (gz_Ev_mono (d := 2) (by decide) E176) ?_
              show gv_X _ _ (135, [(3, .inl (v3_10 + 1)), (0, .inr (.inr (some 39))), (1, .inr (.inl v1_10)), (4, .inr (.inr (some 41))), (5, .inl v5_10)], [], sh, gc_h sh I178 J179 A)
              refine gv_run 2 true hD (pc' := 53) (lv' := [(5, .inl (v5_10 + 1)), (3, .inl (v3_10 + 1)), (0, .inr (.inr (some 39))), (1, .inr (.inl v1_10)), (4, .inr (.inr (some 41)))]) (st' := []) (h' := gc_h sh I178 J179 A) (C := ((True ∧ True) ∧ True)) rfl ⟨⟨trivial, trivial⟩, trivial⟩ ?_
              refine gv_pick [2, 3, 1, 4, 0] rfl ?_
              exact ih53 I178 J179 v1_10 (v3_10 + 1) (v5_10 + 1) (by omega) hI178 FI178 FJ179 KLT_I178 KTK_I178 (by omega) (gc_rg_fr (gc_rg_push (gc_rg_fr e0_10 (fun k => (g157 41 k).resolve_left (by omega))) (by omega) p169 (by omega)) (fun k => (g176 41 k).resolve_left (by omega)))
            · show gv_X _ _ (102, [(0, .inr (.inr (some 39))), (1, .inr (.inl v1_10)), (3, .inl v3_10), (4, .inr (.inr (some 41))), (5, .inl v5_10)], [], sh, gc_h sh I158 J9 A)
              refine gv_run 1 true hD (pc' := 103) (lv' := [(0, .inr (.inr (some 39))), (1, .inr (.inl v1_10)), (3, .inl v3_10), (4, .inr (.inr (some 41))), (5, .inl v5_10)]) (st' := [.inl 0]) (h' := gc_h sh I158 J9 A) (C := (True ∧ True)) rfl ⟨trivial, trivial⟩ ?_
              exact gv_zret hD rfl (by omega) ⟨I158, J9, rfl, hI158, FI158, FJ9, KLT_I158, KTK_I158, ⟨_, rfl, by omega⟩⟩
          · show gv_X _ _ (75, [(0, .inr (.inr (some 39))), (1, .inr (.inl v1_10)), (3, .inl v3_10), (4, .inr (.inr (some 41))), (5, .inl v5_10)], [], sh, gc_h sh I8 J9 A)
            refine gv_run 3 true hD (pc' := 78) (lv' := [(0, .inr (.inr (some 39))), (1, .inr (.inl v1_10)), (3, .inl v3_10), (4, .inr (.inr (some 41))), (5, .inl v5_10)]) (st' := [.inr (.inr (some 39)), .inl 5, .inr (.inr (some 39))]) (h' := gc_h sh I8 J9 A) (C := (((True ∧ True) ∧ True) ∧ True)) rfl ⟨⟨⟨trivial, trivial⟩, trivial⟩, trivial⟩ ?_
            refine gv_get hD rfl rfl S_39 ⟨by decide, B_39⟩ (gc_hA S_39 rfl A_39_1) ?_
            show gv_X _ _ (81, [(0, .inr (.inr (some 39))), (1, .inr (.inl v1_10)), (3, .inl v3_10), (4, .inr (.inr (some 41))), (5, .inl v5_10)], [.inr (.inr (some 23)), .inl 5, .inr (.inr (some 39))], sh, gc_h sh I8 J9 A)
            have f187 := (show 0 ≤ I8 23 5 ∧ I8 23 5 ≤ 1000 from gc_in hI8 R_23 rfl rfl)
            refine gv_get hD rfl rfl S_23 ⟨by decide, B_23⟩ (gc_hI S_23 rfl) ?_
            show gv_X _ _ (84, [(0, .inr (.inr (some 39))), (1, .inr (.inl v1_10)), (3, .inl v3_10), (4, .inr (.inr (some 41))), (5, .inl v5_10)], [.inl (I8 23 5), .inl 5, .inr (.inr (some 39))], sh, gc_h sh I8 J9 A)
            obtain ⟨r188, h188, E188, P188⟩ := d_X6_wrong (ws0 := ws0) (tb := tb) hws htb sh ro I8 J9 A hI8  5 (I8 23 5) hb   ⟨by omega, by omega⟩ ⟨by omega, by omega⟩  
            obtain ⟨I189, J190, rfl, hI189, g188, k188, ⟨z188, rfl, q188⟩⟩ := P188
            have FI189 := gc_frc (W := fun q j => (q = 39 ∧ j = 3) ∨ (q = 39 ∧ j = 4) ∨ (q = 23 ∧ j = 5) ∨ (q = 23 ∧ j = 6) ∨ (q = 23 ∧ j = 7) ∨ (q = 23 ∧ j = 8) ∨ (q = 39 ∧ j = 7) ∨ q = 41 ∨ (q = 4 ∧ j = 1) ∨ (q = 11 ∧ (I 4 1 ≤ (j : Int))) ∨ (q = 12 ∧ (I 4 1 ≤ (j : Int))) ∨ (q = 13 ∧ (4 * I 4 1 ≤ (j : Int))) ∨ q = 14) (V := fun q j => (q = 39 ∧ j = 3) ∨ (q = 39 ∧ j = 4)) FI8 (fun q j h => (h.elim (fun h => (Or.inl h)) (fun h => (Or.inr (Or.inl h))))) g188
            have t191 := (g188 23 1).resolve_left (fun h => h.elim (fun h => absurd h.2 (by decide)) (fun h => absurd h.2 (by decide)))
            have t192 := (g188 23 5).resolve_left (fun h => h.elim (fun h => absurd h.2 (by decide)) (fun h => absurd h.2 (by decide)))
            have t193 := (g188 23 6).resolve_left (fun h => h.elim (fun h => absurd h.2 (by decide)) (fun h => absurd h.2 (by decide)))
            have t194 := (g188 23 7).resolve_left (fun h => h.elim (fun h => absurd h.2 (by decide)) (fun h => absurd h.2 (by decide)))
            have t195 := (g188 4 1).resolve_left (fun h => h.elim (fun h => absurd h.2 (by decide)) (fun h => absurd h.2 (by decide)))
            have t196 := (g188 2 1).resolve_left (fun h => h.elim (fun h => absurd h.2 (by decide)) (fun h => absurd h.2 (by decide)))
            obtain rfl : J9 = J190 := funext fun q => funext fun j => ((k188 q j).resolve_left id).symm
            have KLT_I189 := gc_LT_fr KLT_I8 ((g188 23 5).resolve_left (fun h => h.elim (fun h => absurd h.2 (by decide)) (fun h => absurd h.2 (by decide)))) ((g188 23 6).resolve_left (fun h => h.elim (fun h => absurd h.2 (by decide)) (fun h => absurd h.2 (by decide)))) ((g188 23 7).resolve_left (fun h => h.elim (fun h => absurd h.2 (by decide)) (fun h => absurd h.2 (by decide)))) (fun k => (g188 24 k).resolve_left (fun h => h.elim (fun h => absurd h.1 (by decide)) (fun h => absurd h.1 (by decide))))
            have KTK_I189 := gc_TK_fr KTK_I8 ((g188 23 1).resolve_left (fun h => h.elim (fun h => absurd h.2 (by decide)) (fun h => absurd h.2 (by decide)))) ((g188 23 5).resolve_left (fun h => h.elim (fun h => absurd h.2 (by decide)) (fun h => absurd h.2 (by decide)))) ((g188 23 6).resolve_left (fun h => h.elim (fun h => absurd h.2 (by decide)) (fun h => absurd h.2 (by decide)))) ((g188 23 7).resolve_left (fun h => h.elim (fun h => absurd h.2 (by decide)) (fun h => absurd h.2 (by decide))))
            refine gv_callV hD rfl (As := [.inl 5, .inl (I8 23 5)]) (st := []) rfl B_39 S_39 rfl (gc_lV6 hws rfl) (Nat.le_of_ble_eq_true rfl) (gz_Ev_mono (d := 1) (by decide) E188) ?_
            show gv_X _ _ (87, [(0, .inr (.inr (some 39))), (1, .inr (.inl v1_10)), (3, .inl v3_10), (4, .inr (.inr (some 41))), (5, .inl v5_10)], [.inl z188], sh, gc_h sh I189 J9 A)
            exact gv_zret hD rfl (by omega) ⟨I189, J9, rfl, hI189, FI189, FJ9, KLT_I189, KTK_I189, ⟨_, rfl, by omega⟩⟩
  refine gv_run 2 true hD (pc' := 2) (lv' := [(0, .inr (.inr (some 39)))]) (st' := [.inr (.inr (some 39)), .inr (.inr (some 39))]) (h' := gc_h sh I J A) (C := ((True ∧ True) ∧ True)) rfl ⟨⟨trivial, trivial⟩, trivial⟩ ?_
  refine gv_get hD rfl rfl S_39 ⟨by decide, B_39⟩ (gc_hA S_39 rfl A_39_0) ?_
  show gv_X _ _ (5, [(0, .inr (.inr (some 39)))], [.inr (.inr (some 1)), .inr (.inr (some 39))], sh, gc_h sh I J A)
  refine gv_get hD rfl rfl S_1 ⟨by decide, B_1⟩ (gc_hA S_1 rfl A_1_1) ?_
  show gv_X _ _ (8, [(0, .inr (.inr (some 39)))], [.inr (.inr (some 4)), .inr (.inr (some 39))], sh, gc_h sh I J A)
  obtain ⟨r197, h197, E197, P197⟩ := d_X6_needNew (ws0 := ws0) (tb := tb) hws htb sh ro I J A hI  96 11 4 hb (gc_b4 hb)    
  obtain ⟨I198, J199, rfl, hI198, g197, k197, ⟨z197, rfl, q197⟩⟩ := P197
  have FI198 := gc_frc (W := fun q j => (q = 39 ∧ j = 3) ∨ (q = 39 ∧ j = 4) ∨ (q = 23 ∧ j = 5) ∨ (q = 23 ∧ j = 6) ∨ (q = 23 ∧ j = 7) ∨ (q = 23 ∧ j = 8) ∨ (q = 39 ∧ j = 7) ∨ q = 41 ∨ (q = 4 ∧ j = 1) ∨ (q = 11 ∧ (I 4 1 ≤ (j : Int))) ∨ (q = 12 ∧ (I 4 1 ≤ (j : Int))) ∨ (q = 13 ∧ (4 * I 4 1 ≤ (j : Int))) ∨ q = 14) (V := fun q j => (q = 39 ∧ j = 3) ∨ (q = 39 ∧ j = 4)) FI (fun q j h => (h.elim (fun h => (Or.inl h)) (fun h => (Or.inr (Or.inl h))))) g197
  have t200 := (g197 23 1).resolve_left (fun h => h.elim (fun h => absurd h.2 (by decide)) (fun h => absurd h.2 (by decide)))
  have t201 := (g197 23 5).resolve_left (fun h => h.elim (fun h => absurd h.2 (by decide)) (fun h => absurd h.2 (by decide)))
  have t202 := (g197 23 6).resolve_left (fun h => h.elim (fun h => absurd h.2 (by decide)) (fun h => absurd h.2 (by decide)))
  have t203 := (g197 23 7).resolve_left (fun h => h.elim (fun h => absurd h.2 (by decide)) (fun h => absurd h.2 (by decide)))
  have t204 := (g197 4 1).resolve_left (fun h => h.elim (fun h => absurd h.2 (by decide)) (fun h => absurd h.2 (by decide)))
  have t205 := (g197 2 1).resolve_left (fun h => h.elim (fun h => absurd h.2 (by decide)) (fun h => absurd h.2 (by decide)))
  obtain rfl : J = J199 := funext fun q => funext fun j => ((k197 q j).resolve_left id).symm
  have KLT_I198 := gc_LT_fr KLT_I ((g197 23 5).resolve_left (fun h => h.elim (fun h => absurd h.2 (by decide)) (fun h => absurd h.2 (by decide)))) ((g197 23 6).resolve_left (fun h => h.elim (fun h => absurd h.2 (by decide)) (fun h => absurd h.2 (by decide)))) ((g197 23 7).resolve_left (fun h => h.elim (fun h => absurd h.2 (by decide)) (fun h => absurd h.2 (by decide)))) (fun k => (g197 24 k).resolve_left (fun h => h.elim (fun h => absurd h.1 (by decide)) (fun h => absurd h.1 (by decide))))
  have KTK_I198 := gc_TK_fr KTK_I ((g197 23 1).resolve_left (fun h => h.elim (fun h => absurd h.2 (by decide)) (fun h => absurd h.2 (by decide)))) ((g197 23 5).resolve_left (fun h => h.elim (fun h => absurd h.2 (by decide)) (fun h => absurd h.2 (by decide)))) ((g197 23 6).resolve_left (fun h => h.elim (fun h => absurd h.2 (by decide)) (fun h => absurd h.2 (by decide)))) ((g197 23 7).resolve_left (fun h => h.elim (fun h => absurd h.2 (by decide)) (fun h => absurd h.2 (by decide))))
  refine gv_callV hD rfl (As := [.inr (.inr (some 4))]) (st := []) rfl B_39 S_39 rfl (gc_lV6 hws rfl) (Nat.le_of_ble_eq_true rfl) (gz_Ev_mono (d := 3) (by decide) E197) ?_
  show gv_X _ _ (11, [(0, .inr (.inr (some 39)))], [.inl z197], sh, gc_h sh I198 J A)
  refine gv_if_ne (t := 16) hD rfl rfl ⟨by omega, by omega⟩ (fun c206 => ?_) (fun c206 => ?_)
  · show gv_X _ _ (16, [(0, .inr (.inr (some 39)))], [], sh, gc_h sh I198 J A)
    refine gv_run 1 true hD (pc' := 17) (lv' := [(0, .inr (.inr (some 39)))]) (st' := [.inr (.inr (some 39))]) (h' := gc_h sh I198 J A) (C := (True ∧ True)) rfl ⟨trivial, trivial⟩ ?_
    refine gv_get hD rfl rfl S_39 ⟨by decide, B_39⟩ (gc_hA S_39 rfl A_39_1) ?_
    show gv_X _ _ (20, [(0, .inr (.inr (some 39)))], [.inr (.inr (some 23))], sh, gc_h sh I198 J A)
    refine gv_get hD rfl rfl S_23 ⟨by decide, B_23⟩ (gc_hJ S_23 rfl) ?_
    show gv_X _ _ (23, [(0, .inr (.inr (some 39)))], [.inr (.inl (J 23 9))], sh, gc_h sh I198 J A)
    refine gv_run 2 true hD (pc' := 25) (lv' := [(1, .inr (.inl (J 23 9))), (0, .inr (.inr (some 39)))]) (st' := [.inr (.inr (some 39))]) (h' := gc_h sh I198 J A) (C := ((True ∧ True) ∧ True)) rfl ⟨⟨trivial, trivial⟩, trivial⟩ ?_
    refine gv_get hD rfl rfl S_39 ⟨by decide, B_39⟩ (gc_hA S_39 rfl A_39_1) ?_
    show gv_X _ _ (28, [(1, .inr (.inl (J 23 9))), (0, .inr (.inr (some 39)))], [.inr (.inr (some 23))], sh, gc_h sh I198 J A)
    have t208 := gc_TK_nx KTK_I198 (by omega)
    obtain ⟨r207, h207, E207, P207⟩ := d_X9_advance (ws0 := ws0) (tb := tb) hws htb sh ro I198 J A hI198 23  (gc_b23 hb)    (by omega) 
    obtain ⟨I209, J210, rfl, hI209, g207, k207, ⟨rfl, V207_0, V207_1, V207_2, V207_3, V207_4, q207⟩⟩ := P207
    have FI209 := gc_frc (W := fun q j => (q = 39 ∧ j = 3) ∨ (q = 39 ∧ j = 4) ∨ (q = 23 ∧ j = 5) ∨ (q = 23 ∧ j = 6) ∨ (q = 23 ∧ j = 7) ∨ (q = 23 ∧ j = 8) ∨ (q = 39 ∧ j = 7) ∨ q = 41 ∨ (q = 4 ∧ j = 1) ∨ (q = 11 ∧ (I 4 1 ≤ (j : Int))) ∨ (q = 12 ∧ (I 4 1 ≤ (j : Int))) ∨ (q = 13 ∧ (4 * I 4 1 ≤ (j : Int))) ∨ q = 14) (V := fun q j => (q = 23 ∧ j = 5) ∨ (q = 23 ∧ j = 6) ∨ (q = 23 ∧ j = 7) ∨ (q = 23 ∧ j = 8)) FI198 (fun q j h => (h.elim (fun h => (Or.inr (Or.inr (Or.inl h)))) (fun h => (h.elim (fun h => (Or.inr (Or.inr (Or.inr (Or.inl h))))) (fun h => (h.elim (fun h => (Or.inr (Or.inr (Or.inr (Or.inr (Or.inl h)))))) (fun h => (Or.inr (Or.inr (Or.inr (Or.inr (Or.inr (Or.inl h))))))))))))) g207
    have FJ210 := gc_frc (W := fun q j => (q = 23 ∧ j = 9) ∨ q = 5) (V := fun q j => (q = 23 ∧ j = 9)) FJ (fun q j h => (Or.inl h)) k207
    have t211 := (g207 23 1).resolve_left (fun h => h.elim (fun h => absurd h.2 (by decide)) (fun h => h.elim (fun h => absurd h.2 (by decide)) (fun h => h.elim (fun h => absurd h.2 (by decide)) (fun h => absurd h.2 (by decide)))))
    have t212 := (g207 4 1).resolve_left (fun h => h.elim (fun h => absurd h.2 (by decide)) (fun h => h.elim (fun h => absurd h.2 (by decide)) (fun h => h.elim (fun h => absurd h.2 (by decide)) (fun h => absurd h.2 (by decide)))))
    have t213 := (g207 2 1).resolve_left (fun h => h.elim (fun h => absurd h.2 (by decide)) (fun h => h.elim (fun h => absurd h.2 (by decide)) (fun h => h.elim (fun h => absurd h.2 (by decide)) (fun h => absurd h.2 (by decide)))))
    have f214 := (show 0 ≤ I209 23 5 ∧ I209 23 5 ≤ 1000 from gc_in hI209 R_23 rfl rfl)
    have f215 := (show 0 ≤ I209 23 6 ∧ I209 23 6 ≤ 1001 from gc_in hI209 R_23 rfl rfl)
    have f216 := (show 0 ≤ I209 23 7 ∧ I209 23 7 ≤ 125 from gc_in hI209 R_23 rfl rfl)
    have KLT_I209 : gc_LT I209 := q207.2.2
    have KTK_I209 : gc_TK I209 := And.intro V207_0 (And.intro V207_1 (And.intro V207_2 (And.intro V207_3 V207_4)))
    have t217 := gc_TK_mo KTK_I209
    clear V207_0 V207_1 V207_2 V207_3 V207_4
    refine gv_callV hD rfl (As := []) (st := []) rfl B_23 S_23 rfl (gc_lV6 hws rfl) (Nat.le_of_ble_eq_true rfl) (gz_Ev_mono (d := 2) (by decide) E207) ?_
    show gv_X _ _ (31, [(1, .inr (.inl (J 23 9))), (0, .inr (.inr (some 39)))], [], sh, gc_h sh I209 J210 A)
    refine gv_run 2 true hD (pc' := 34) (lv' := [(1, .inr (.inl (J 23 9))), (0, .inr (.inr (some 39)))]) (st' := [.inl 58, .inr (.inr (some 39))]) (h' := gc_h sh I209 J210 A) (C := ((True ∧ True) ∧ True)) rfl ⟨⟨trivial, trivial⟩, trivial⟩ ?_
    obtain ⟨r218, h218, E218, P218⟩ := d_X6_take (ws0 := ws0) (tb := tb) hws htb sh ro I209 J210 A hI209  58 hb   ⟨by omega, by omega⟩ (by omega) KLT_I209 KTK_I209
    obtain ⟨I219, J220, rfl, hI219, g218, k218, KLT_I219, KTK_I219, ⟨z218, rfl, q218⟩⟩ := P218
    have FI219 := gc_frc (W := fun q j => (q = 39 ∧ j = 3) ∨ (q = 39 ∧ j = 4) ∨ (q = 23 ∧ j = 5) ∨ (q = 23 ∧ j = 6) ∨ (q = 23 ∧ j = 7) ∨ (q = 23 ∧ j = 8) ∨ (q = 39 ∧ j = 7) ∨ q = 41 ∨ (q = 4 ∧ j = 1) ∨ (q = 11 ∧ (I 4 1 ≤ (j : Int))) ∨ (q = 12 ∧ (I 4 1 ≤ (j : Int))) ∨ (q = 13 ∧ (4 * I 4 1 ≤ (j : Int))) ∨ q = 14) (V := fun q j => (q = 39 ∧ j = 3) ∨ (q = 39 ∧ j = 4) ∨ (q = 23 ∧ j = 5) ∨ (q = 23 ∧ j = 6) ∨ (q = 23 ∧ j = 7) ∨ (q = 23 ∧ j = 8)) FI209 (fun q j h => (h.elim (fun h => (Or.inl h)) (fun h => (h.elim (fun h => (Or.inr (Or.inl h))) (fun h => (h.elim (fun h => (Or.inr (Or.inr (Or.inl h)))) (fun h => (h.elim (fun h => (Or.inr (Or.inr (Or.inr (Or.inl h))))) (fun h => (h.elim (fun h => (Or.inr (Or.inr (Or.inr (Or.inr (Or.inl h)))))) (fun h => (Or.inr (Or.inr (Or.inr (Or.inr (Or.inr (Or.inl h))))))))))))))))) g218
    have FJ220 := gc_frc (W := fun q j => (q = 23 ∧ j = 9) ∨ q = 5) (V := fun q j => (q = 23 ∧ j = 9)) FJ210 (fun q j h => (Or.inl h)) k218
    have t221 := (g218 23 1).resolve_left (fun h => h.elim (fun h => absurd h.2 (by decide)) (fun h => h.elim (fun h => absurd h.2 (by decide)) (fun h => h.elim (fun h => absurd h.2 (by decide)) (fun h => h.elim (fun h => absurd h.2 (by decide)) (fun h => h.elim (fun h => absurd h.2 (by decide)) (fun h => absurd h.2 (by decide)))))))
    have t222 := (g218 4 1).resolve_left (fun h => h.elim (fun h => absurd h.2 (by decide)) (fun h => h.elim (fun h => absurd h.2 (by decide)) (fun h => h.elim (fun h => absurd h.2 (by decide)) (fun h => h.elim (fun h => absurd h.2 (by decide)) (fun h => h.elim (fun h => absurd h.2 (by decide)) (fun h => absurd h.2 (by decide)))))))
    have t223 := (g218 2 1).resolve_left (fun h => h.elim (fun h => absurd h.2 (by decide)) (fun h => h.elim (fun h => absurd h.2 (by decide)) (fun h => h.elim (fun h => absurd h.2 (by decide)) (fun h => h.elim (fun h => absurd h.2 (by decide)) (fun h => h.elim (fun h => absurd h.2 (by decide)) (fun h => absurd h.2 (by decide)))))))
    have f224 := (show 0 ≤ I219 23 5 ∧ I219 23 5 ≤ 1000 from gc_in hI219 R_23 rfl rfl)
    have f225 := (show 0 ≤ I219 23 6 ∧ I219 23 6 ≤ 1001 from gc_in hI219 R_23 rfl rfl)
    have f226 := (show 0 ≤ I219 23 7 ∧ I219 23 7 ≤ 125 from gc_in hI219 R_23 rfl rfl)
    have t227 := gc_TK_mo KTK_I219
    refine gv_callV hD rfl (As := [.inl 58]) (st := []) rfl B_39 S_39 rfl (gc_lV6 hws rfl) (Nat.le_of_ble_eq_true rfl) (gz_Ev_mono (d := 3) (by decide) E218) ?_
    show gv_X _ _ (37, [(1, .inr (.inl (J 23 9))), (0, .inr (.inr (some 39)))], [.inl z218], sh, gc_h sh I219 J220 A)
    refine gv_if_ne (t := 42) hD rfl rfl ⟨by omega, by omega⟩ (fun c228 => ?_) (fun c228 => ?_)
    · show gv_X _ _ (42, [(1, .inr (.inl (J 23 9))), (0, .inr (.inr (some 39)))], [], sh, gc_h sh I219 J220 A)
      refine gv_run 3 true hD (pc' := 45) (lv' := [(3, .inl 0), (1, .inr (.inl (J 23 9))), (0, .inr (.inr (some 39)))]) (st' := [.inr (.inr (some 39))]) (h' := gc_h sh I219 J220 A) (C := (((True ∧ True) ∧ True) ∧ True)) rfl ⟨⟨⟨trivial, trivial⟩, trivial⟩, trivial⟩ ?_
      refine gv_get hD rfl rfl S_39 ⟨by decide, B_39⟩ (gc_hA S_39 rfl A_39_10) ?_
      show gv_X _ _ (48, [(3, .inl 0), (1, .inr (.inl (J 23 9))), (0, .inr (.inr (some 39)))], [.inr (.inr (some 41))], sh, gc_h sh I219 J220 A)
      refine gv_run 3 true hD (pc' := 53) (lv' := [(5, .inl 0), (4, .inr (.inr (some 41))), (3, .inl 0), (1, .inr (.inl (J 23 9))), (0, .inr (.inr (some 39)))]) (st' := []) (h' := gc_h sh I219 J220 A) (C := (((True ∧ True) ∧ True) ∧ True)) rfl ⟨⟨⟨trivial, trivial⟩, trivial⟩, trivial⟩ ?_
      refine gv_pick [4, 3, 2, 1, 0] rfl ?_
      exact L53 _ I219 J220 (J 23 9) 0 0 (Nat.lt_succ_self _) hI219 FI219 FJ220 KLT_I219 KTK_I219 (by omega) (fun k a b => by omega)
    · show gv_X _ _ (40, [(1, .inr (.inl (J 23 9))), (0, .inr (.inr (some 39)))], [], sh, gc_h sh I219 J220 A)
      refine gv_run 1 true hD (pc' := 41) (lv' := [(1, .inr (.inl (J 23 9))), (0, .inr (.inr (some 39)))]) (st' := [.inl 0]) (h' := gc_h sh I219 J220 A) (C := (True ∧ True)) rfl ⟨trivial, trivial⟩ ?_
      exact gv_zret hD rfl (by omega) ⟨I219, J220, rfl, hI219, FI219, FJ220, KLT_I219, KTK_I219, ⟨_, rfl, by omega⟩⟩
  · show gv_X _ _ (14, [(0, .inr (.inr (some 39)))], [], sh, gc_h sh I198 J A)
    refine gv_run 1 true hD (pc' := 15) (lv' := [(0, .inr (.inr (some 39)))]) (st' := [.inl 0]) (h' := gc_h sh I198 J A) (C := (True ∧ True)) rfl ⟨trivial, trivial⟩ ?_
    exact gv_zret hD rfl (by omega) ⟨I198, J, rfl, hI198, FI198, FJ, KLT_I198, KTK_I198, ⟨_, rfl, by omega⟩⟩
