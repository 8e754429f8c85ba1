set_option maxHeartbeats 4000000 in
set_option maxRecDepth 100000 in
theorem d_X6_readTerm_p {ws0 : List Cond} {tb : String → gz_T} (hws : gc_Ws ws0) (htb : gc_tbs tb) (sh : gz_Sh) (ro : Nat → Nat) (A : gc_A) (b : Int) (β : Int → Int) (η : Int) (nf9 : Int)  (hb : gc_Base sh ro A) : ∀ (nr : Nat), ∀ (I : gr_I) (J : gr_J) (hI : gc_Inv ro I) (a1 : Int) (a2 : Int) (p9 : Int) (m9 : Int) (ha1 : 0 ≤ a1 ∧ a1 ≤ 95) (ha2 : 1 ≤ a2 ∧ a2 ≤ 41) (x0 : I 39 12 ≤ I 23 5) (x1 : I 39 15 ≤ a2 - 1) (x2 : b ≤ -3 - I 12 (Int.toNat a1)) (x3 : b ≤ -3) (x4 : gc_AT β η p9 23 I J) (x5 : 0 ≤ p9) (x6 : nf9 = I 12 (Int.toNat a1)) (x7 : 4 * (1002 - gs_A β η p9) ≤ m9) (KLT_I : gc_LT I) (KTK_I : gc_TK I) (KTO_I : gc_TO b I) (_ : (42 - a2).toNat < nr), ∃ r h', gz_Ev ws0 tb (6 + 2 * nr) (yX6_readTerm, cX6_readTerm, 7, (some .boolean)) [.inr (.inr (some 39)), .inl a1, .inl a2] sh (gc_h sh I J A) r sh h' 0 0 ∧ (∃ (I' : gr_I) (J' : gr_J), h' = gc_h sh I' J' A ∧ gc_Inv ro I' ∧ (∀ q j : Nat, ((q = 39 ∧ j = 3) ∨ (q = 39 ∧ j = 4) ∨ (q = 23 ∧ j = 5) ∨ (q = 23 ∧ j = 6) ∨ (q = 23 ∧ j = 7) ∨ (q = 23 ∧ j = 8) ∨ (q = 39 ∧ j = 12) ∨ (q = 39 ∧ j = 15) ∨ q = 43) ∨ I' q j = I q j) ∧ (∀ q j : Nat, ((q = 23 ∧ j = 9) ∨ q = 44 ∨ q = 45) ∨ J' q j = J q j) ∧ gc_LT I' ∧ gc_TK I' ∧ gc_TO b I' ∧ (∃ z : Int, r = some (.inl z) ∧ 0 ≤ z ∧ z ≤ 1 ∧ (I' 23 1 = I 23 1) ∧ (I 23 5 ≤ I' 23 5) ∧ (I' 39 12 ≤ I' 23 5) ∧ (z = 0 ∨ I' 39 15 = I 39 15) ∧ (I 39 12 ≤ I' 39 12) ∧ (gc_TE z I I') ∧ (gs_TQc β η (gs_tm β η nf9 m9 0 a2 p9) z I I' J'))) := by
  intro nr
  induction nr with
  | zero => intro I J hI a1 a2 p9 m9 ha1 ha2 x0 x1 x2 x3 x4 x5 x6 x7 KLT_I KTK_I KTO_I hnr; omega
  | succ nr ihR =>
  intro I J hI a1 a2 p9 m9 ha1 ha2 x0 x1 x2 x3 x4 x5 x6 x7 KLT_I KTK_I KTO_I hnr
  show ∃ r h', gz_Ev ws0 tb (6 + 2 * nr + 1 + 1) (yX6_readTerm, cX6_readTerm, 7, (some .boolean)) [.inr (.inr (some 39)), .inl a1, .inl a2] sh (gc_h sh I J A) r sh h' 0 0 ∧ (∃ (I' : gr_I) (J' : gr_J), h' = gc_h sh I' J' A ∧ gc_Inv ro I' ∧ (∀ q j : Nat, ((q = 39 ∧ j = 3) ∨ (q = 39 ∧ j = 4) ∨ (q = 23 ∧ j = 5) ∨ (q = 23 ∧ j = 6) ∨ (q = 23 ∧ j = 7) ∨ (q = 23 ∧ j = 8) ∨ (q = 39 ∧ j = 12) ∨ (q = 39 ∧ j = 15) ∨ q = 43) ∨ I' q j = I q j) ∧ (∀ q j : Nat, ((q = 23 ∧ j = 9) ∨ q = 44 ∨ q = 45) ∨ J' q j = J q j) ∧ gc_LT I' ∧ gc_TK I' ∧ gc_TO b I' ∧ (∃ z : Int, r = some (.inl z) ∧ 0 ≤ z ∧ z ≤ 1 ∧ (I' 23 1 = I 23 1) ∧ (I 23 5 ≤ I' 23 5) ∧ (I' 39 12 ≤ I' 23 5) ∧ (z = 0 ∨ I' 39 15 = I 39 15) ∧ (I 39 12 ≤ I' 39 12) ∧ (gc_TE z I I') ∧ (gs_TQc β η (gs_tm β η nf9 m9 0 a2 p9) z I I' J')))
  have FI : ∀ q j : Nat, ((q = 39 ∧ j = 3) ∨ (q = 39 ∧ j = 4) ∨ (q = 23 ∧ j = 5) ∨ (q = 23 ∧ j = 6) ∨ (q = 23 ∧ j = 7) ∨ (q = 23 ∧ j = 8) ∨ (q = 39 ∧ j = 12) ∨ (q = 39 ∧ j = 15) ∨ q = 43) ∨ I q j = I q j := fun _ _ => Or.inr rfl
  have FJ : ∀ q j : Nat, ((q = 23 ∧ j = 9) ∨ q = 44 ∨ q = 45) ∨ J q j = J q j := fun _ _ => Or.inr rfl
  have A_39_1 : A 39 1 = some 23 := gc_bA hb rfl
  have B_23 : 23 < 1000000 := by decide
  have B_39 : 39 < 1000000 := by decide
  have R_23 : ro 23 = 3 := gc_bR hb (by decide) rfl
  have R_39 : ro 39 = 42 := gc_bR hb (by decide) rfl
  have S_23 : sh[23]? = some (false, 9, 10) := gc_bS hb rfl
  have S_39 : sh[39]? = some (false, 6, 19) := gc_bS hb rfl
  have hD : gv_D (gc_E6 ws0 tb (6 + 2 * nr + 1) (yX6_readTerm, cX6_readTerm, 7, (some .boolean)) kX6_readTerm) := gq_ok oX6_readTerm
  refine gc_ev6 (d := (6 + 2 * nr + 1)) (l := kX6_readTerm) (Po := fun r h' => (∃ (I' : gr_I) (J' : gr_J), h' = gc_h sh I' J' A ∧ gc_Inv ro I' ∧ (∀ q j : Nat, ((q = 39 ∧ j = 3) ∨ (q = 39 ∧ j = 4) ∨ (q = 23 ∧ j = 5) ∨ (q = 23 ∧ j = 6) ∨ (q = 23 ∧ j = 7) ∨ (q = 23 ∧ j = 8) ∨ (q = 39 ∧ j = 12) ∨ (q = 39 ∧ j = 15) ∨ q = 43) ∨ I' q j = I q j) ∧ (∀ q j : Nat, ((q = 23 ∧ j = 9) ∨ q = 44 ∨ q = 45) ∨ J' q j = J q j) ∧ gc_LT I' ∧ gc_TK I' ∧ gc_TO b I' ∧ (∃ z : Int, r = some (.inl z) ∧ 0 ≤ z ∧ z ≤ 1 ∧ (I' 23 1 = I 23 1) ∧ (I 23 5 ≤ I' 23 5) ∧ (I' 39 12 ≤ I' 23 5) ∧ (z = 0 ∨ I' 39 15 = I 39 15) ∧ (I 39 12 ≤ I' 39 12) ∧ (gc_TE z I I') ∧ (gs_TQc β η (gs_tm β η nf9 m9 0 a2 p9) z I I' J')))) htb rfl (Nat.le_of_ble_eq_true rfl) ?_
  have t1 := gc_TK_mo KTK_I
  have f2 := (show 0 ≤ I 23 1 ∧ I 23 1 ≤ 1000 from gc_in hI R_23 rfl rfl)
  have f3 := (show 0 ≤ I 23 5 ∧ I 23 5 ≤ 1000 from gc_in hI R_23 rfl rfl)
  have f4 := (show 0 ≤ I 23 6 ∧ I 23 6 ≤ 1001 from gc_in hI R_23 rfl rfl)
  have f5 := (show 0 ≤ I 23 7 ∧ I 23 7 ≤ 125 from gc_in hI R_23 rfl rfl)
  have f6 := (show 0 ≤ I 39 12 ∧ I 39 12 ≤ 2000 from gc_in hI R_39 rfl rfl)
  have f7 := (show 0 ≤ I 39 15 ∧ I 39 15 ≤ 41 from gc_in hI R_39 rfl rfl)
  have tAT := gc_AT_l x4
  have L43 : ∀ (v3_8 : Int), ((0 ≤ a1 ∧ a1 ≤ 95) ∧ (1 ≤ a2 ∧ a2 ≤ 41) ∧ (1 ≤ v3_8 ∧ v3_8 ≤ 92) ∧ (a2 ≤ 41) ∧ (v3_8 = I 23 7) ∧ (v3_8 = 92 ∨ v3_8 = 40 ∨ v3_8 = 1 ∨ v3_8 = 2) ∧ (I 23 1 = I 23 1) ∧ (I 23 5 ≤ I 23 5) ∧ (I 39 12 ≤ I 23 5) ∧ (I 39 12 ≤ I 39 12) ∧ (b ≤ -3 - I 12 (Int.toNat a1)) ∧ (I 39 15 = I 39 15)) → gv_X (gc_E6 ws0 tb (6 + 2 * nr + 1) (yX6_readTerm, cX6_readTerm, 7, (some .boolean)) kX6_readTerm) (gv_Q cX6_readTerm (some .boolean) sh (fun r h' => (∃ (I' : gr_I) (J' : gr_J), h' = gc_h sh I' J' A ∧ gc_Inv ro I' ∧ (∀ q j : Nat, ((q = 39 ∧ j = 3) ∨ (q = 39 ∧ j = 4) ∨ (q = 23 ∧ j = 5) ∨ (q = 23 ∧ j = 6) ∨ (q = 23 ∧ j = 7) ∨ (q = 23 ∧ j = 8) ∨ (q = 39 ∧ j = 12) ∨ (q = 39 ∧ j = 15) ∨ q = 43) ∨ I' q j = I q j) ∧ (∀ q j : Nat, ((q = 23 ∧ j = 9) ∨ q = 44 ∨ q = 45) ∨ J' q j = J q j) ∧ gc_LT I' ∧ gc_TK I' ∧ gc_TO b I' ∧ (∃ z : Int, r = some (.inl z) ∧ 0 ≤ z ∧ z ≤ 1 ∧ (I' 23 1 = I 23 1) ∧ (I 23 5 ≤ I' 23 5) ∧ (I' 39 12 ≤ I' 23 5) ∧ (z = 0 ∨ I' 39 15 = I 39 15) ∧ (I 39 12 ≤ I' 39 12) ∧ (gc_TE z I I') ∧ (gs_TQc β η (gs_tm β η nf9 m9 0 a2 p9) z I I' J'))))) (43, [(0, .inr (.inr (some 39))), (1, .inl a1), (2, .inl a2), (3, .inl v3_8)], [], sh, gc_h sh I J A) := by
    intro v3_8 m_8
    obtain ⟨ha1_8, ha2_8, hv3_8, e0_8, e1_8, e2_8, e3_8, e4_8, e5_8, e6_8, e7_8, e8_8⟩ := m_8
    have t9 := gc_TK_mo KTK_I
    have f10 := (show 0 ≤ I 23 1 ∧ I 23 1 ≤ 1000 from gc_in hI R_23 rfl rfl)
    have f11 := (show 0 ≤ I 23 5 ∧ I 23 5 ≤ 1000 from gc_in hI R_23 rfl rfl)
    have f12 := (show 0 ≤ I 23 6 ∧ I 23 6 ≤ 1001 from gc_in hI R_23 rfl rfl)
    have f13 := (show 0 ≤ I 23 7 ∧ I 23 7 ≤ 125 from gc_in hI R_23 rfl rfl)
    have f14 := (show 0 ≤ I 39 12 ∧ I 39 12 ≤ 2000 from gc_in hI R_39 rfl rfl)
    have f15 := (show 0 ≤ I 39 15 ∧ I 39 15 ≤ 41 from gc_in hI R_39 rfl rfl)
    have L98 : ∀ (n9 : Nat) (I16 : gr_I) (J17 : gr_J) (v4_18 : Int) (v5_18 : Int) (v6_18 : Int) (p_18 : Int), (1001 - v6_18).toNat < n9 → gc_Inv ro I16 → (∀ q j : Nat, ((q = 39 ∧ j = 3) ∨ (q = 39 ∧ j = 4) ∨ (q = 23 ∧ j = 5) ∨ (q = 23 ∧ j = 6) ∨ (q = 23 ∧ j = 7) ∨ (q = 23 ∧ j = 8) ∨ (q = 39 ∧ j = 12) ∨ (q = 39 ∧ j = 15) ∨ q = 43) ∨ I16 q j = I q j) → (∀ q j : Nat, ((q = 23 ∧ j = 9) ∨ q = 44 ∨ q = 45) ∨ J17 q j = J q j) → gc_LT I16 → gc_TK I16 → gc_TO b I16 → ((0 ≤ a1 ∧ a1 ≤ 95) ∧ (1 ≤ a2 ∧ a2 ≤ 40) ∧ (0 ≤ v4_18 ∧ v4_18 ≤ 2000) ∧ (0 ≤ v5_18 ∧ v5_18 ≤ 1) ∧ (0 ≤ v6_18 ∧ v6_18 ≤ 1000) ∧ (a2 ≤ 40) ∧ (v4_18 = I 39 12) ∧ (v5_18 = 0 ∨ I16 23 7 = 44) ∧ (0 ≤ p_18) ∧ (v6_18 ≤ I16 23 5) ∧ (I16 12 (Int.toNat a1) = I 12 (Int.toNat a1)) ∧ (I16 23 1 = I 23 1) ∧ (I 23 5 ≤ I16 23 5) ∧ (I16 39 12 ≤ I16 23 5) ∧ (I 39 12 ≤ I16 39 12) ∧ (b ≤ -3 - I16 12 (Int.toNat a1)) ∧ (I16 39 15 = I 39 15)) → (gc_TD I I16) → (gc_AT β η p_18 23 I16 J17) → (gs_tmL β η nf9 a2 (gs_tm β η nf9 m9 0 a2 p9) (I16 39 12 - I 39 12) v5_18 p_18) → gv_X (gc_E6 ws0 tb (6 + 2 * nr + 1) (yX6_readTerm, cX6_readTerm, 7, (some .boolean)) kX6_readTerm) (gv_Q cX6_readTerm (some .boolean) sh (fun r h' => (∃ (I' : gr_I) (J' : gr_J), h' = gc_h sh I' J' A ∧ gc_Inv ro I' ∧ (∀ q j : Nat, ((q = 39 ∧ j = 3) ∨ (q = 39 ∧ j = 4) ∨ (q = 23 ∧ j = 5) ∨ (q = 23 ∧ j = 6) ∨ (q = 23 ∧ j = 7) ∨ (q = 23 ∧ j = 8) ∨ (q = 39 ∧ j = 12) ∨ (q = 39 ∧ j = 15) ∨ q = 43) ∨ I' q j = I q j) ∧ (∀ q j : Nat, ((q = 23 ∧ j = 9) ∨ q = 44 ∨ q = 45) ∨ J' q j = J q j) ∧ gc_LT I' ∧ gc_TK I' ∧ gc_TO b I' ∧ (∃ z : Int, r = some (.inl z) ∧ 0 ≤ z ∧ z ≤ 1 ∧ (I' 23 1 = I 23 1) ∧ (I 23 5 ≤ I' 23 5) ∧ (I' 39 12 ≤ I' 23 5) ∧ (z = 0 ∨ I' 39 15 = I 39 15) ∧ (I 39 12 ≤ I' 39 12) ∧ (gc_TE z I I') ∧ (gs_TQc β η (gs_tm β η nf9 m9 0 a2 p9) z I I' J'))))) (98, [(0, .inr (.inr (some 39))), (1, .inl a1), (2, .inl a2), (4, .inl v4_18), (5, .inl v5_18), (6, .inl v6_18)], [], sh, gc_h sh I16 J17 A) := by
      intro n9
      induction n9 with
      | zero => intro I16 J17 v4_18 v5_18 v6_18 p_18 hn; omega
      | succ n9 ih98 =>
        intro I16 J17 v4_18 v5_18 v6_18 p_18 hn hI16 FI16 FJ17 KLT_I16 KTK_I16 KTO_I16 m_18 e0_18 e5_18 e6_18
        clear ha1_8 ha2_8 hv3_8 e0_8 e1_8 e2_8 e3_8 e4_8 e5_8 e6_8 e7_8 e8_8 t9 f10 f11 f12 f13 f14 f15
        obtain ⟨ha1_18, ha2_18, hv4_18, hv5_18, hv6_18, e1_18, e2_18, e3_18, e4_18, e7_18, e8_18, e9_18, e10_18, e11_18, e12_18, e13_18, e14_18⟩ := m_18
        have t19 := gc_TK_mo KTK_I16
        have f20 := (show 0 ≤ I16 23 1 ∧ I16 23 1 ≤ 1000 from gc_in hI16 R_23 rfl rfl)
        have f21 := (show 0 ≤ I16 23 5 ∧ I16 23 5 ≤ 1000 from gc_in hI16 R_23 rfl rfl)
        have f22 := (show 0 ≤ I16 23 6 ∧ I16 23 6 ≤ 1001 from gc_in hI16 R_23 rfl rfl)
        have f23 := (show 0 ≤ I16 23 7 ∧ I16 23 7 ≤ 125 from gc_in hI16 R_23 rfl rfl)
        have f24 := (show 0 ≤ I16 39 12 ∧ I16 39 12 ≤ 2000 from gc_in hI16 R_39 rfl rfl)
        have f25 := (show 0 ≤ I16 39 15 ∧ I16 39 15 ≤ 41 from gc_in hI16 R_39 rfl rfl)
        have t26 := gc_AT_l e5_18
        have L123 : ((0 ≤ a1 ∧ a1 ≤ 95) ∧ (1 ≤ a2 ∧ a2 ≤ 40) ∧ (0 ≤ v4_18 ∧ v4_18 ≤ 2000) ∧ (0 ≤ v6_18 ∧ v6_18 ≤ 999) ∧ (a2 ≤ 40) ∧ (v4_18 = I 39 12) ∧ (I16 23 7 = 40 ∨ I16 23 7 = 44) ∧ (I16 23 1 = I 23 1) ∧ (I 23 5 ≤ I16 23 5) ∧ (I16 39 12 ≤ I16 23 5) ∧ (I 39 12 ≤ I16 39 12) ∧ (b ≤ -3 - I16 12 (Int.toNat a1)) ∧ (I16 39 15 = I 39 15)) → (gc_TD I I16) → (gs_tmI β η nf9 a2 (gs_tm β η nf9 m9 0 a2 p9) (I16 39 12 - I 39 12) p_18) → gv_X (gc_E6 ws0 tb (6 + 2 * nr + 1) (yX6_readTerm, cX6_readTerm, 7, (some .boolean)) kX6_readTerm) (gv_Q cX6_readTerm (some .boolean) sh (fun r h' => (∃ (I' : gr_I) (J' : gr_J), h' = gc_h sh I' J' A ∧ gc_Inv ro I' ∧ (∀ q j : Nat, ((q = 39 ∧ j = 3) ∨ (q = 39 ∧ j = 4) ∨ (q = 23 ∧ j = 5) ∨ (q = 23 ∧ j = 6) ∨ (q = 23 ∧ j = 7) ∨ (q = 23 ∧ j = 8) ∨ (q = 39 ∧ j = 12) ∨ (q = 39 ∧ j = 15) ∨ q = 43) ∨ I' q j = I q j) ∧ (∀ q j : Nat, ((q = 23 ∧ j = 9) ∨ q = 44 ∨ q = 45) ∨ J' q j = J q j) ∧ gc_LT I' ∧ gc_TK I' ∧ gc_TO b I' ∧ (∃ z : Int, r = some (.inl z) ∧ 0 ≤ z ∧ z ≤ 1 ∧ (I' 23 1 = I 23 1) ∧ (I 23 5 ≤ I' 23 5) ∧ (I' 39 12 ≤ I' 23 5) ∧ (z = 0 ∨ I' 39 15 = I 39 15) ∧ (I 39 12 ≤ I' 39 12) ∧ (gc_TE z I I') ∧ (gs_TQc β η (gs_tm β η nf9 m9 0 a2 p9) z I I' J'))))) (123, [(0, .inr (.inr (some 39))), (1, .inl a1), (2, .inl a2), (4, .inl v4_18), (6, .inl v6_18)], [], sh, gc_h sh I16 J17 A) := by
          intro m_27 e0_27 e4_27
          obtain ⟨ha1_27, ha2_27, hv4_18_27, hv6_18_27, e1_27, e2_27, e3_27, e5_27, e6_27, e7_27, e8_27, e9_27, e10_27⟩ := m_27
          have t28 := gc_TK_mo KTK_I16
          have f29 := (show 0 ≤ I16 23 1 ∧ I16 23 1 ≤ 1000 from gc_in hI16 R_23 rfl rfl)
          have f30 := (show 0 ≤ I16 23 5 ∧ I16 23 5 ≤ 1000 from gc_in hI16 R_23 rfl rfl)
          have f31 := (show 0 ≤ I16 23 6 ∧ I16 23 6 ≤ 1001 from gc_in hI16 R_23 rfl rfl)
          have f32 := (show 0 ≤ I16 23 7 ∧ I16 23 7 ≤ 125 from gc_in hI16 R_23 rfl rfl)
          have f33 := (show 0 ≤ I16 39 12 ∧ I16 39 12 ≤ 2000 from gc_in hI16 R_39 rfl rfl)
          have f34 := (show 0 ≤ I16 39 15 ∧ I16 39 15 ≤ 41 from gc_in hI16 R_39 rfl rfl)
          obtain ⟨f9, g9, hf9, hg9, hD9⟩ := id e4_27
          refine gv_run 1 true hD (pc' := 124) (lv' := [(0, .inr (.inr (some 39))), (1, .inl a1), (2, .inl a2), (4, .inl v4_18), (6, .inl v6_18)]) (st' := [.inr (.inr (some 39))]) (h' := gc_h sh I16 J17 A) (C := (True ∧ True)) rfl ⟨trivial, trivial⟩ ?_
          refine gv_get hD rfl rfl S_39 ⟨by decide, B_39⟩ (gc_hA S_39 rfl A_39_1) ?_
          show gv_X _ _ (127, [(0, .inr (.inr (some 39))), (1, .inl a1), (2, .inl a2), (4, .inl v4_18), (6, .inl v6_18)], [.inr (.inr (some 23))], sh, gc_h sh I16 J17 A)
          have t36 := gc_TK_nx KTK_I16 (by omega)
          have t37 := gc_TK_st KTK_I16 (by omega)
          obtain ⟨r35, h35, E35, P35⟩ := d_X9_advance_p (ws0 := ws0) (tb := tb) hws htb sh ro I16 J17 A hI16 23 β η  (gc_b23 hb)    (by omega) e5_18.1.1 e5_18.1.2 
          obtain ⟨I38, J39, rfl, hI38, g35, k35, ⟨rfl, V35_0, V35_1, V35_2, V35_3, V35_4, q35⟩⟩ := P35
          have FI38 := gc_frc (W := fun q j => (q = 39 ∧ j = 3) ∨ (q = 39 ∧ j = 4) ∨ (q = 23 ∧ j = 5) ∨ (q = 23 ∧ j = 6) ∨ (q = 23 ∧ j = 7) ∨ (q = 23 ∧ j = 8) ∨ (q = 39 ∧ j = 12) ∨ (q = 39 ∧ j = 15) ∨ q = 43) (V := fun q j => (q = 23 ∧ j = 5) ∨ (q = 23 ∧ j = 6) ∨ (q = 23 ∧ j = 7) ∨ (q = 23 ∧ j = 8)) FI16 (fun q j h => (h.elim (fun h => (Or.inr (Or.inr (Or.inl h)))) (fun h => (h.elim (fun h => (Or.inr (Or.inr (Or.inr (Or.inl h))))) (fun h => (h.elim (fun h => (Or.inr (Or.inr (Or.inr (Or.inr (Or.inl h)))))) (fun h => (Or.inr (Or.inr (Or.inr (Or.inr (Or.inr (Or.inl h))))))))))))) g35
          have FJ39 := gc_frc (W := fun q j => (q = 23 ∧ j = 9) ∨ q = 44 ∨ q = 45) (V := fun q j => (q = 23 ∧ j = 9)) FJ17 (fun q j h => (Or.inl h)) k35
          have t40 := (g35 23 1).resolve_left (fun h => h.elim (fun h => absurd h.2 (by decide)) (fun h => h.elim (fun h => absurd h.2 (by decide)) (fun h => h.elim (fun h => absurd h.2 (by decide)) (fun h => absurd h.2 (by decide)))))
          have t41 := (g35 39 12).resolve_left (fun h => h.elim (fun h => absurd h.2 (by decide)) (fun h => h.elim (fun h => absurd h.2 (by decide)) (fun h => h.elim (fun h => absurd h.2 (by decide)) (fun h => absurd h.2 (by decide)))))
          have t42 := (g35 39 15).resolve_left (fun h => h.elim (fun h => absurd h.2 (by decide)) (fun h => h.elim (fun h => absurd h.2 (by decide)) (fun h => h.elim (fun h => absurd h.2 (by decide)) (fun h => absurd h.2 (by decide)))))
          have t43 := (g35 12 (Int.toNat a1)).resolve_left (fun h => h.elim (fun h => absurd h.1 (by decide)) (fun h => h.elim (fun h => absurd h.1 (by decide)) (fun h => h.elim (fun h => absurd h.1 (by decide)) (fun h => absurd h.1 (by decide)))))
          have f44 := (show 0 ≤ I38 23 5 ∧ I38 23 5 ≤ 1000 from gc_in hI38 R_23 rfl rfl)
          have f45 := (show 0 ≤ I38 23 6 ∧ I38 23 6 ≤ 1001 from gc_in hI38 R_23 rfl rfl)
          have f46 := (show 0 ≤ I38 23 7 ∧ I38 23 7 ≤ 125 from gc_in hI38 R_23 rfl rfl)
          have KLT_I38 : gc_LT I38 := q35.2.2.1
          have KTO_I38 := gc_TO_fr KTO_I16 ((g35 39 12).resolve_left (fun h => h.elim (fun h => absurd h.2 (by decide)) (fun h => h.elim (fun h => absurd h.2 (by decide)) (fun h => h.elim (fun h => absurd h.2 (by decide)) (fun h => absurd h.2 (by decide)))))) (fun k => (g35 43 k).resolve_left (fun h => h.elim (fun h => absurd h.1 (by decide)) (fun h => h.elim (fun h => absurd h.1 (by decide)) (fun h => h.elim (fun h => absurd h.1 (by decide)) (fun h => absurd h.1 (by decide))))))
          have KTK_I38 : gc_TK I38 := And.intro V35_0 (And.intro V35_1 (And.intro V35_2 (And.intro V35_3 V35_4)))
          have t47 := gc_TK_mo KTK_I38
          clear V35_0 V35_1 V35_2 V35_3 V35_4
          have A48 := gc_AT_nx e5_18 q35.2.2.2
          have t49 := gc_AT_l A48
          refine gv_callV hD rfl (As := []) (st := []) rfl B_23 S_23 rfl (gc_lV6 hws rfl) (Nat.le_of_ble_eq_true rfl) (gz_Ev_mono (d := 2) (by omega) E35) ?_
          show gv_X _ _ (130, [(0, .inr (.inr (some 39))), (1, .inl a1), (2, .inl a2), (4, .inl v4_18), (6, .inl v6_18)], [], sh, gc_h sh I38 J39 A)
          refine gv_run 4 true hD (pc' := 135) (lv' := [(0, .inr (.inr (some 39))), (1, .inl a1), (2, .inl a2), (4, .inl v4_18), (6, .inl v6_18)]) (st' := [.inr (.inl (Int64.ofNat 0)), .inl (-1), .inl v4_18, .inr (.inr (some 39))]) (h' := gc_h sh I38 J39 A) (C := ((((True ∧ True) ∧ True) ∧ True) ∧ True)) rfl ⟨⟨⟨⟨trivial, trivial⟩, trivial⟩, trivial⟩, trivial⟩ ?_
          obtain ⟨r50, h50, E50, P50⟩ := d_X6_putNode (ws0 := ws0) (tb := tb) hws htb sh ro I38 J39 A hI38  b v4_18 (-1) (Int64.ofNat 0) hb   ⟨by omega, by omega⟩ ⟨by omega, by omega⟩ (by omega) (by omega) (by omega) KTO_I38
          obtain ⟨I51, J52, rfl, hI51, g50, k50, KTO_I51, ⟨rfl, q50⟩⟩ := P50
          have FI51 := gc_frc (W := fun q j => (q = 39 ∧ j = 3) ∨ (q = 39 ∧ j = 4) ∨ (q = 23 ∧ j = 5) ∨ (q = 23 ∧ j = 6) ∨ (q = 23 ∧ j = 7) ∨ (q = 23 ∧ j = 8) ∨ (q = 39 ∧ j = 12) ∨ (q = 39 ∧ j = 15) ∨ q = 43) (V := fun q j => (q = 39 ∧ j = 12) ∨ q = 43) FI38 (fun q j h => (h.elim (fun h => (Or.inr (Or.inr (Or.inr (Or.inr (Or.inr (Or.inr (Or.inl h)))))))) (fun h => (Or.inr (Or.inr (Or.inr (Or.inr (Or.inr (Or.inr (Or.inr (Or.inr h))))))))))) g50
          have FJ52 := gc_frc (W := fun q j => (q = 23 ∧ j = 9) ∨ q = 44 ∨ q = 45) (V := fun q j => q = 44) FJ39 (fun q j h => (Or.inr (Or.inl h))) k50
          have t53 := (g50 23 1).resolve_left (fun h => h.elim (fun h => absurd h.2 (by decide)) (fun h => absurd h (by decide)))
          have t54 := (g50 23 5).resolve_left (fun h => h.elim (fun h => absurd h.2 (by decide)) (fun h => absurd h (by decide)))
          have t55 := (g50 23 6).resolve_left (fun h => h.elim (fun h => absurd h.2 (by decide)) (fun h => absurd h (by decide)))
          have t56 := (g50 23 7).resolve_left (fun h => h.elim (fun h => absurd h.2 (by decide)) (fun h => absurd h (by decide)))
          have t57 := (g50 39 15).resolve_left (fun h => h.elim (fun h => absurd h.2 (by decide)) (fun h => absurd h (by decide)))
          have t58 := (g50 12 (Int.toNat a1)).resolve_left (fun h => h.elim (fun h => absurd h.1 (by decide)) (fun h => absurd h (by decide)))
          have f59 := (show 0 ≤ I51 39 12 ∧ I51 39 12 ≤ 2000 from gc_in hI51 R_39 rfl rfl)
          have KLT_I51 := gc_LT_fr KLT_I38 ((g50 23 5).resolve_left (fun h => h.elim (fun h => absurd h.2 (by decide)) (fun h => absurd h (by decide)))) ((g50 23 6).resolve_left (fun h => h.elim (fun h => absurd h.2 (by decide)) (fun h => absurd h (by decide)))) ((g50 23 7).resolve_left (fun h => h.elim (fun h => absurd h.2 (by decide)) (fun h => absurd h (by decide)))) (fun k => (g50 24 k).resolve_left (fun h => h.elim (fun h => absurd h.1 (by decide)) (fun h => absurd h (by decide))))
          have KTK_I51 := gc_TK_fr KTK_I38 ((g50 23 1).resolve_left (fun h => h.elim (fun h => absurd h.2 (by decide)) (fun h => absurd h (by decide)))) ((g50 23 5).resolve_left (fun h => h.elim (fun h => absurd h.2 (by decide)) (fun h => absurd h (by decide)))) ((g50 23 6).resolve_left (fun h => h.elim (fun h => absurd h.2 (by decide)) (fun h => absurd h (by decide)))) ((g50 23 7).resolve_left (fun h => h.elim (fun h => absurd h.2 (by decide)) (fun h => absurd h (by decide))))
          have A60 := gc_AT_I A48 ((g50 23 1).resolve_left (fun h => h.elim (fun h => absurd h.2 (by decide)) (fun h => absurd h (by decide)))) ((g50 23 5).resolve_left (fun h => h.elim (fun h => absurd h.2 (by decide)) (fun h => absurd h (by decide)))) ((g50 23 6).resolve_left (fun h => h.elim (fun h => absurd h.2 (by decide)) (fun h => absurd h (by decide)))) ((g50 23 7).resolve_left (fun h => h.elim (fun h => absurd h.2 (by decide)) (fun h => absurd h (by decide)))) ((g50 23 8).resolve_left (fun h => h.elim (fun h => absurd h.2 (by decide)) (fun h => absurd h (by decide)))) (fun k => (g50 24 k).resolve_left (fun h => h.elim (fun h => absurd h.1 (by decide)) (fun h => absurd h (by decide))))
          have A61 := gc_AT_J A60 ((k50 23 9).resolve_left (fun h => absurd h (by decide)))
          have t62 := gc_AT_l A61
          refine gv_callV hD rfl (As := [.inl v4_18, .inl (-1), .inr (.inl (Int64.ofNat 0))]) (st := []) rfl B_39 S_39 rfl (gc_lV6 hws rfl) (Nat.le_of_ble_eq_true rfl) (gz_Ev_mono (d := 1) (by omega) E50) ?_
          show gv_X _ _ (138, [(0, .inr (.inr (some 39))), (1, .inl a1), (2, .inl a2), (4, .inl v4_18), (6, .inl v6_18)], [], sh, gc_h sh I51 J52 A)
          refine gv_run 5 true hD (pc' := 143) (lv' := [(0, .inr (.inr (some 39))), (1, .inl a1), (2, .inl a2), (4, .inl v4_18), (6, .inl v6_18)]) (st' := [.inl (a2 + 1), .inl a1, .inr (.inr (some 39))]) (h' := gc_h sh I51 J52 A) (C := (((((True ∧ True) ∧ True) ∧ True) ∧ True) ∧ True)) rfl ⟨⟨⟨⟨⟨trivial, trivial⟩, trivial⟩, trivial⟩, trivial⟩, trivial⟩ ?_
          obtain ⟨r63, h63, E63, P63⟩ := ihR I51 J52 hI51 a1 (a2 + 1) (gs_X β η p_18) (f9 - 1) ⟨by omega, by omega⟩ ⟨by omega, by omega⟩ (by omega) (by omega) (by omega) (by omega) A61 (by omega) (by omega) (by omega) KLT_I51 KTK_I51 KTO_I51 (by omega)
          obtain ⟨I64, J65, rfl, hI64, g63, k63, KLT_I64, KTK_I64, KTO_I64, ⟨z63, rfl, q63⟩⟩ := P63
          have FI64 := gc_frc (W := fun q j => (q = 39 ∧ j = 3) ∨ (q = 39 ∧ j = 4) ∨ (q = 23 ∧ j = 5) ∨ (q = 23 ∧ j = 6) ∨ (q = 23 ∧ j = 7) ∨ (q = 23 ∧ j = 8) ∨ (q = 39 ∧ j = 12) ∨ (q = 39 ∧ j = 15) ∨ q = 43) (V := fun q j => (q = 39 ∧ j = 3) ∨ (q = 39 ∧ j = 4) ∨ (q = 23 ∧ j = 5) ∨ (q = 23 ∧ j = 6) ∨ (q = 23 ∧ j = 7) ∨ (q = 23 ∧ j = 8) ∨ (q = 39 ∧ j = 12) ∨ (q = 39 ∧ j = 15) ∨ q = 43) FI51 (fun q j h => (h.elim (fun h => (Or.inl h)) (fun h => (h.elim (fun h => (Or.inr (Or.inl h))) (fun h => (h.elim (fun h => (Or.inr (Or.inr (Or.inl h)))) (fun h => (h.elim (fun h => (Or.inr (Or.inr (Or.inr (Or.inl h))))) (fun h => (h.elim (fun h => (Or.inr (Or.inr (Or.inr (Or.inr (Or.inl h)))))) (fun h => (h.elim (fun h => (Or.inr (Or.inr (Or.inr (Or.inr (Or.inr (Or.inl h))))))) (fun h => (h.elim (fun h => (Or.inr (Or.inr (Or.inr (Or.inr (Or.inr (Or.inr (Or.inl h)))))))) (fun h => (h.elim (fun h => (Or.inr (Or.inr (Or.inr (Or.inr (Or.inr (Or.inr (Or.inr (Or.inl h))))))))) (fun h => (Or.inr (Or.inr (Or.inr (Or.inr (Or.inr (Or.inr (Or.inr (Or.inr h))))))))))))))))))))))))) g63
          have FJ65 := gc_frc (W := fun q j => (q = 23 ∧ j = 9) ∨ q = 44 ∨ q = 45) (V := fun q j => (q = 23 ∧ j = 9) ∨ q = 44 ∨ q = 45) FJ52 (fun q j h => (h.elim (fun h => (Or.inl h)) (fun h => (h.elim (fun h => (Or.inr (Or.inl h))) (fun h => (Or.inr (Or.inr h))))))) k63
          have t66 := (g63 23 1).resolve_left (fun h => h.elim (fun h => absurd h.2 (by decide)) (fun h => h.elim (fun h => absurd h.2 (by decide)) (fun h => h.elim (fun h => absurd h.2 (by decide)) (fun h => h.elim (fun h => absurd h.2 (by decide)) (fun h => h.elim (fun h => absurd h.2 (by decide)) (fun h => h.elim (fun h => absurd h.2 (by decide)) (fun h => h.elim (fun h => absurd h.2 (by decide)) (fun h => h.elim (fun h => absurd h.2 (by decide)) (fun h => absurd h (by decide))))))))))
          have t67 := (g63 12 (Int.toNat a1)).resolve_left (fun h => h.elim (fun h => absurd h.1 (by decide)) (fun h => h.elim (fun h => absurd h.1 (by decide)) (fun h => h.elim (fun h => absurd h.1 (by decide)) (fun h => h.elim (fun h => absurd h.1 (by decide)) (fun h => h.elim (fun h => absurd h.1 (by decide)) (fun h => h.elim (fun h => absurd h.1 (by decide)) (fun h => h.elim (fun h => absurd h.1 (by decide)) (fun h => h.elim (fun h => absurd h.1 (by decide)) (fun h => absurd h (by decide))))))))))
          have f68 := (show 0 ≤ I64 23 5 ∧ I64 23 5 ≤ 1000 from gc_in hI64 R_23 rfl rfl)
          have f69 := (show 0 ≤ I64 23 6 ∧ I64 23 6 ≤ 1001 from gc_in hI64 R_23 rfl rfl)
          have f70 := (show 0 ≤ I64 23 7 ∧ I64 23 7 ≤ 125 from gc_in hI64 R_23 rfl rfl)
          have f71 := (show 0 ≤ I64 39 12 ∧ I64 39 12 ≤ 2000 from gc_in hI64 R_39 rfl rfl)
          have f72 := (show 0 ≤ I64 39 15 ∧ I64 39 15 ≤ 41 from gc_in hI64 R_39 rfl rfl)
          have t73 := gc_TK_mo KTK_I64
          refine gv_callV hD rfl (As := [.inl a1, .inl (a2 + 1)]) (st := []) rfl B_39 S_39 rfl (gc_lV6 hws rfl) (Nat.le_of_ble_eq_true rfl) (gz_Ev_mono (d := (6 + 2 * nr)) (by omega) E63) ?_
          show gv_X _ _ (146, [(0, .inr (.inr (some 39))), (1, .inl a1), (2, .inl a2), (4, .inl v4_18), (6, .inl v6_18)], [.inl z63], sh, gc_h sh I64 J65 A)
          refine gv_if_ne (t := 151) hD rfl rfl ⟨by omega, by omega⟩ (fun c74 => ?_) (fun c74 => ?_)
          · show gv_X _ _ (151, [(0, .inr (.inr (some 39))), (1, .inl a1), (2, .inl a2), (4, .inl v4_18), (6, .inl v6_18)], [], sh, gc_h sh I64 J65 A)
            obtain ⟨u75, A75, U75⟩ := gs_TQc_1 q63.2.2.2.2.2.2.2.2 (by omega)
            have t76 := gc_AT_l A75
            refine gv_run 1 true hD (pc' := 152) (lv' := [(0, .inr (.inr (some 39))), (1, .inl a1), (2, .inl a2), (4, .inl v4_18), (6, .inl v6_18)]) (st' := [.inr (.inr (some 39))]) (h' := gc_h sh I64 J65 A) (C := (True ∧ True)) rfl ⟨trivial, trivial⟩ ?_
            refine gv_get hD rfl rfl S_39 ⟨by decide, B_39⟩ (gc_hA S_39 rfl A_39_1) ?_
            show gv_X _ _ (155, [(0, .inr (.inr (some 39))), (1, .inl a1), (2, .inl a2), (4, .inl v4_18), (6, .inl v6_18)], [.inr (.inr (some 23))], sh, gc_h sh I64 J65 A)
            have f77 := (show 0 ≤ I64 23 7 ∧ I64 23 7 ≤ 125 from gc_in hI64 R_23 rfl rfl)
            refine gv_get hD rfl rfl S_23 ⟨by decide, B_23⟩ (gc_hI S_23 rfl) ?_
            show gv_X _ _ (158, [(0, .inr (.inr (some 39))), (1, .inl a1), (2, .inl a2), (4, .inl v4_18), (6, .inl v6_18)], [.inl (I64 23 7)], sh, gc_h sh I64 J65 A)
            refine gv_run 1 true hD (pc' := 160) (lv' := [(0, .inr (.inr (some 39))), (1, .inl a1), (2, .inl a2), (4, .inl v4_18), (6, .inl v6_18)]) (st' := [.inl 44, .inl (I64 23 7)]) (h' := gc_h sh I64 J65 A) (C := (True ∧ True)) rfl ⟨trivial, trivial⟩ ?_
            refine gv_icmp_ne (t := 167) hD rfl rfl ⟨⟨by omega, by omega⟩, ⟨by omega, by omega⟩⟩ (fun c78 => ?_) (fun c78 => ?_)
            · show gv_X _ _ (167, [(0, .inr (.inr (some 39))), (1, .inl a1), (2, .inl a2), (4, .inl v4_18), (6, .inl v6_18)], [], sh, gc_h sh I64 J65 A)
              refine gv_run 3 true hD (pc' := 172) (lv' := [(5, .inl 0), (0, .inr (.inr (some 39))), (1, .inl a1), (2, .inl a2), (4, .inl v4_18), (6, .inl v6_18)]) (st' := [.inl 0]) (h' := gc_h sh I64 J65 A) (C := (((True ∧ True) ∧ True) ∧ True)) rfl ⟨⟨⟨trivial, trivial⟩, trivial⟩, trivial⟩ ?_
              refine gv_if_ne (t := 186) hD rfl rfl ⟨by omega, by omega⟩ (fun c79 => ?_) (fun c79 => ?_)
              · exfalso; omega
              · show gv_X _ _ (175, [(5, .inl 0), (0, .inr (.inr (some 39))), (1, .inl a1), (2, .inl a2), (4, .inl v4_18), (6, .inl v6_18)], [], sh, gc_h sh I64 J65 A)
                refine gv_run 2 true hD (pc' := 178) (lv' := [(5, .inl 0), (0, .inr (.inr (some 39))), (1, .inl a1), (2, .inl a2), (4, .inl v4_18), (6, .inl v6_18)]) (st' := [.inl 41, .inr (.inr (some 39))]) (h' := gc_h sh I64 J65 A) (C := ((True ∧ True) ∧ True)) rfl ⟨⟨trivial, trivial⟩, trivial⟩ ?_
                obtain ⟨r80, h80, E80, P80⟩ := d_X6_take_p (ws0 := ws0) (tb := tb) hws htb sh ro I64 J65 A hI64  β η ((gs_tm β η nf9 (f9 - 1) 0 (a2 + 1) (gs_X β η p_18)).1) 41 hb   ⟨by omega, by omega⟩ (by omega) A75 (by omega) KLT_I64 KTK_I64
                obtain ⟨I81, J82, rfl, hI81, g80, k80, KLT_I81, KTK_I81, ⟨z80, rfl, q80⟩⟩ := P80
                have FI81 := gc_frc (W := fun q j => (q = 39 ∧ j = 3) ∨ (q = 39 ∧ j = 4) ∨ (q = 23 ∧ j = 5) ∨ (q = 23 ∧ j = 6) ∨ (q = 23 ∧ j = 7) ∨ (q = 23 ∧ j = 8) ∨ (q = 39 ∧ j = 12) ∨ (q = 39 ∧ j = 15) ∨ q = 43) (V := fun q j => (q = 39 ∧ j = 3) ∨ (q = 39 ∧ j = 4) ∨ (q = 23 ∧ j = 5) ∨ (q = 23 ∧ j = 6) ∨ (q = 23 ∧ j = 7) ∨ (q = 23 ∧ j = 8)) FI64 (fun q j h => (h.elim (fun h => (Or.inl h)) (fun h => (h.elim (fun h => (Or.inr (Or.inl h))) (fun h => (h.elim (fun h => (Or.inr (Or.inr (Or.inl h)))) (fun h => (h.elim (fun h => (Or.inr (Or.inr (Or.inr (Or.inl h))))) (fun h => (h.elim (fun h => (Or.inr (Or.inr (Or.inr (Or.inr (Or.inl h)))))) (fun h => (Or.inr (Or.inr (Or.inr (Or.inr (Or.inr (Or.inl h))))))))))))))))) g80
                have FJ82 := gc_frc (W := fun q j => (q = 23 ∧ j = 9) ∨ q = 44 ∨ q = 45) (V := fun q j => (q = 23 ∧ j = 9)) FJ65 (fun q j h => (Or.inl h)) k80
                have t83 := (g80 23 1).resolve_left (fun h => h.elim (fun h => absurd h.2 (by decide)) (fun h => h.elim (fun h => absurd h.2 (by decide)) (fun h => h.elim (fun h => absurd h.2 (by decide)) (fun h => h.elim (fun h => absurd h.2 (by decide)) (fun h => h.elim (fun h => absurd h.2 (by decide)) (fun h => absurd h.2 (by decide)))))))
                have t84 := (g80 39 12).resolve_left (fun h => h.elim (fun h => absurd h.2 (by decide)) (fun h => h.elim (fun h => absurd h.2 (by decide)) (fun h => h.elim (fun h => absurd h.2 (by decide)) (fun h => h.elim (fun h => absurd h.2 (by decide)) (fun h => h.elim (fun h => absurd h.2 (by decide)) (fun h => absurd h.2 (by decide)))))))
                have t85 := (g80 39 15).resolve_left (fun h => h.elim (fun h => absurd h.2 (by decide)) (fun h => h.elim (fun h => absurd h.2 (by decide)) (fun h => h.elim (fun h => absurd h.2 (by decide)) (fun h => h.elim (fun h => absurd h.2 (by decide)) (fun h => h.elim (fun h => absurd h.2 (by decide)) (fun h => absurd h.2 (by decide)))))))
                have t86 := (g80 12 (Int.toNat a1)).resolve_left (fun h => h.elim (fun h => absurd h.1 (by decide)) (fun h => h.elim (fun h => absurd h.1 (by decide)) (fun h => h.elim (fun h => absurd h.1 (by decide)) (fun h => h.elim (fun h => absurd h.1 (by decide)) (fun h => h.elim (fun h => absurd h.1 (by decide)) (fun h => absurd h.1 (by decide)))))))
                have f87 := (show 0 ≤ I81 23 5 ∧ I81 23 5 ≤ 1000 from gc_in hI81 R_23 rfl rfl)
                have f88 := (show 0 ≤ I81 23 6 ∧ I81 23 6 ≤ 1001 from gc_in hI81 R_23 rfl rfl)
                have f89 := (show 0 ≤ I81 23 7 ∧ I81 23 7 ≤ 125 from gc_in hI81 R_23 rfl rfl)
                have t90 := gc_TK_mo KTK_I81
                have KTO_I81 := gc_TO_fr KTO_I64 ((g80 39 12).resolve_left (fun h => h.elim (fun h => absurd h.2 (by decide)) (fun h => h.elim (fun h => absurd h.2 (by decide)) (fun h => h.elim (fun h => absurd h.2 (by decide)) (fun h => h.elim (fun h => absurd h.2 (by decide)) (fun h => h.elim (fun h => absurd h.2 (by decide)) (fun h => absurd h.2 (by decide)))))))) (fun k => (g80 43 k).resolve_left (fun h => h.elim (fun h => absurd h.1 (by decide)) (fun h => h.elim (fun h => absurd h.1 (by decide)) (fun h => h.elim (fun h => absurd h.1 (by decide)) (fun h => h.elim (fun h => absurd h.1 (by decide)) (fun h => h.elim (fun h => absurd h.1 (by decide)) (fun h => absurd h.1 (by decide))))))))
                refine gv_callV hD rfl (As := [.inl 41]) (st := []) rfl B_39 S_39 rfl (gc_lV6 hws rfl) (Nat.le_of_ble_eq_true rfl) (gz_Ev_mono (d := 3) (by omega) E80) ?_
                show gv_X _ _ (181, [(5, .inl 0), (0, .inr (.inr (some 39))), (1, .inl a1), (2, .inl a2), (4, .inl v4_18), (6, .inl v6_18)], [.inl z80], sh, gc_h sh I81 J82 A)
                refine gv_if_ne (t := 186) hD rfl rfl ⟨by omega, by omega⟩ (fun c91 => ?_) (fun c91 => ?_)
                · show gv_X _ _ (186, [(5, .inl 0), (0, .inr (.inr (some 39))), (1, .inl a1), (2, .inl a2), (4, .inl v4_18), (6, .inl v6_18)], [], sh, gc_h sh I81 J82 A)
                  obtain ⟨u92, A92⟩ := gs_or1 q80.2.2.2.2.2 (by omega)
                  have t93 := gc_AT_l A92
                  refine gv_run 2 true hD (pc' := 98) (lv' := [(6, .inl (v6_18 + 1)), (5, .inl 0), (0, .inr (.inr (some 39))), (1, .inl a1), (2, .inl a2), (4, .inl v4_18)]) (st' := []) (h' := gc_h sh I81 J82 A) (C := ((True ∧ True) ∧ True)) rfl ⟨⟨trivial, trivial⟩, trivial⟩ ?_
                  refine gv_pick [2, 3, 4, 5, 1, 0] rfl ?_
                  exact ih98 I81 J82 v4_18 0 (v6_18 + 1) ((gs_need β η 41 (gs_tm β η nf9 (f9 - 1) 0 (a2 + 1) (gs_X β η p_18)).1)) (by omega) hI81 FI81 FJ82 KLT_I81 KTK_I81 KTO_I81 (by omega) (gc_TD_fr (gc_TD_app (gc_TD_fr e0_27 rfl (fun _ => rfl) (by omega) (fun k => ((g35 43 k).resolve_left (fun h => h.elim (fun h => absurd h.1 (by decide)) (fun h => h.elim (fun h => absurd h.1 (by decide)) (fun h => h.elim (fun h => absurd h.1 (by decide)) (fun h => absurd h.1 (by decide)))))))) (by omega) (by omega) q50.2 (by omega) (by omega) (q63.2.2.2.2.2.2.2.1.resolve_left (by omega)) (by omega)) rfl (fun _ => rfl) (by omega) (fun k => ((g80 43 k).resolve_left (fun h => h.elim (fun h => absurd h.1 (by decide)) (fun h => h.elim (fun h => absurd h.1 (by decide)) (fun h => h.elim (fun h => absurd h.1 (by decide)) (fun h => h.elim (fun h => absurd h.1 (by decide)) (fun h => h.elim (fun h => absurd h.1 (by decide)) (fun h => absurd h.1 (by decide)))))))))) A92 (gs_tmL_y g9 hD9 hf9 hg9 (by omega) (by omega) rfl (by omega) (by omega) rfl (by omega) (by omega))
                · show gv_X _ _ (184, [(5, .inl 0), (0, .inr (.inr (some 39))), (1, .inl a1), (2, .inl a2), (4, .inl v4_18), (6, .inl v6_18)], [], sh, gc_h sh I81 J82 A)
                  obtain ⟨u94, u94_⟩ := gs_or0 q80.2.2.2.2.2 (by omega)
                  refine gv_run 1 true hD (pc' := 185) (lv' := [(5, .inl 0), (0, .inr (.inr (some 39))), (1, .inl a1), (2, .inl a2), (4, .inl v4_18), (6, .inl v6_18)]) (st' := [.inl 0]) (h' := gc_h sh I81 J82 A) (C := (True ∧ True)) rfl ⟨trivial, trivial⟩ ?_
                  exact gv_zret hD rfl (by omega) ⟨I81, J82, rfl, hI81, FI81, FJ82, KLT_I81, KTK_I81, KTO_I81, ⟨_, rfl, by omega, by omega, by omega, by omega, by omega, by omega, by omega, (Or.inl (by omega)), (gs_TQc_n (gs_tmI_n g9 hD9 hf9 (by omega) rfl (by omega) (by omega) (by omega)) (by omega) (by omega) (by omega))⟩⟩
            · show gv_X _ _ (163, [(0, .inr (.inr (some 39))), (1, .inl a1), (2, .inl a2), (4, .inl v4_18), (6, .inl v6_18)], [], sh, gc_h sh I64 J65 A)
              refine gv_run 4 true hD (pc' := 172) (lv' := [(5, .inl 1), (0, .inr (.inr (some 39))), (1, .inl a1), (2, .inl a2), (4, .inl v4_18), (6, .inl v6_18)]) (st' := [.inl 1]) (h' := gc_h sh I64 J65 A) (C := ((((True ∧ True) ∧ True) ∧ True) ∧ True)) rfl ⟨⟨⟨⟨trivial, trivial⟩, trivial⟩, trivial⟩, trivial⟩ ?_
              refine gv_if_ne (t := 186) hD rfl rfl ⟨by omega, by omega⟩ (fun c95 => ?_) (fun c95 => ?_)
              · show gv_X _ _ (186, [(5, .inl 1), (0, .inr (.inr (some 39))), (1, .inl a1), (2, .inl a2), (4, .inl v4_18), (6, .inl v6_18)], [], sh, gc_h sh I64 J65 A)
                refine gv_run 2 true hD (pc' := 98) (lv' := [(6, .inl (v6_18 + 1)), (5, .inl 1), (0, .inr (.inr (some 39))), (1, .inl a1), (2, .inl a2), (4, .inl v4_18)]) (st' := []) (h' := gc_h sh I64 J65 A) (C := ((True ∧ True) ∧ True)) rfl ⟨⟨trivial, trivial⟩, trivial⟩ ?_
                refine gv_pick [2, 3, 4, 5, 1, 0] rfl ?_
                exact ih98 I64 J65 v4_18 1 (v6_18 + 1) ((gs_tm β η nf9 (f9 - 1) 0 (a2 + 1) (gs_X β η p_18)).1) (by omega) hI64 FI64 FJ65 KLT_I64 KTK_I64 KTO_I64 (by omega) (gc_TD_app (gc_TD_fr e0_27 rfl (fun _ => rfl) (by omega) (fun k => ((g35 43 k).resolve_left (fun h => h.elim (fun h => absurd h.1 (by decide)) (fun h => h.elim (fun h => absurd h.1 (by decide)) (fun h => h.elim (fun h => absurd h.1 (by decide)) (fun h => absurd h.1 (by decide)))))))) (by omega) (by omega) q50.2 (by omega) (by omega) (q63.2.2.2.2.2.2.2.1.resolve_left (by omega)) (by omega)) A75 (gs_tmL_c g9 hD9 hf9 hg9 (by omega) (by omega) rfl (by omega) (by omega) (by omega))
              · exfalso; omega
          · show gv_X _ _ (149, [(0, .inr (.inr (some 39))), (1, .inl a1), (2, .inl a2), (4, .inl v4_18), (6, .inl v6_18)], [], sh, gc_h sh I64 J65 A)
            obtain ⟨u96, U96⟩ := gs_TQc_0 q63.2.2.2.2.2.2.2.2 (by omega)
            refine gv_run 1 true hD (pc' := 150) (lv' := [(0, .inr (.inr (some 39))), (1, .inl a1), (2, .inl a2), (4, .inl v4_18), (6, .inl v6_18)]) (st' := [.inl 0]) (h' := gc_h sh I64 J65 A) (C := (True ∧ True)) rfl ⟨trivial, trivial⟩ ?_
            exact gv_zret hD rfl (by omega) ⟨I64, J65, rfl, hI64, FI64, FJ65, KLT_I64, KTK_I64, KTO_I64, ⟨_, rfl, by omega, by omega, by omega, by omega, by omega, by omega, by omega, (Or.inl (by omega)), (gs_TQc_n (gs_tmI_x g9 hD9 hf9 (by omega) rfl (by omega)) (by omega) (by omega) (by omega))⟩⟩
        refine gv_run 2 true hD (pc' := 103) (lv' := [(0, .inr (.inr (some 39))), (1, .inl a1), (2, .inl a2), (4, .inl v4_18), (5, .inl v5_18), (6, .inl v6_18)]) (st' := [.inl 1000, .inl v6_18]) (h' := gc_h sh I16 J17 A) (C := ((True ∧ True) ∧ True)) rfl ⟨⟨trivial, trivial⟩, trivial⟩ ?_
        have t97 := KTK_I16.2.2.2.1
        refine gv_icmp_ge (t := 192) hD rfl rfl ⟨⟨by omega, by omega⟩, ⟨by omega, by omega⟩⟩ (fun c98 => ?_) (fun c98 => ?_)
        · show gv_X _ _ (192, [(0, .inr (.inr (some 39))), (1, .inl a1), (2, .inl a2), (4, .inl v4_18), (5, .inl v5_18), (6, .inl v6_18)], [], sh, gc_h sh I16 J17 A)
          refine gv_run 1 true hD (pc' := 193) (lv' := [(0, .inr (.inr (some 39))), (1, .inl a1), (2, .inl a2), (4, .inl v4_18), (5, .inl v5_18), (6, .inl v6_18)]) (st' := [.inl 1]) (h' := gc_h sh I16 J17 A) (C := (True ∧ True)) rfl ⟨trivial, trivial⟩ ?_
          exact gv_zret hD rfl (by omega) ⟨I16, J17, rfl, hI16, FI16, FJ17, KLT_I16, KTK_I16, KTO_I16, ⟨_, rfl, by omega, by omega, by omega, by omega, by omega, by omega, by omega, (Or.inr e0_18), (gs_TQc_y (gs_tmL_e e6_18 (by omega) (by omega) (by omega)) (by omega) (by omega) e5_18 (by omega))⟩⟩
        · show gv_X _ _ (106, [(0, .inr (.inr (some 39))), (1, .inl a1), (2, .inl a2), (4, .inl v4_18), (5, .inl v5_18), (6, .inl v6_18)], [], sh, gc_h sh I16 J17 A)
          refine gv_run 1 true hD (pc' := 108) (lv' := [(0, .inr (.inr (some 39))), (1, .inl a1), (2, .inl a2), (4, .inl v4_18), (5, .inl v5_18), (6, .inl v6_18)]) (st' := [.inl v5_18]) (h' := gc_h sh I16 J17 A) (C := (True ∧ True)) rfl ⟨trivial, trivial⟩ ?_
          refine gv_if_ne (t := 123) hD rfl rfl ⟨by omega, by omega⟩ (fun c99 => ?_) (fun c99 => ?_)
          · show gv_X _ _ (123, [(0, .inr (.inr (some 39))), (1, .inl a1), (2, .inl a2), (4, .inl v4_18), (5, .inl v5_18), (6, .inl v6_18)], [], sh, gc_h sh I16 J17 A)
            refine gv_pick [0, 1, 2, 3, 5] rfl ?_
            exact L123 (by omega) e0_18 (gs_tmL_I e6_18 (by omega) (by omega))
          · show gv_X _ _ (111, [(0, .inr (.inr (some 39))), (1, .inl a1), (2, .inl a2), (4, .inl v4_18), (5, .inl v5_18), (6, .inl v6_18)], [], sh, gc_h sh I16 J17 A)
            refine gv_run 1 true hD (pc' := 112) (lv' := [(0, .inr (.inr (some 39))), (1, .inl a1), (2, .inl a2), (4, .inl v4_18), (5, .inl v5_18), (6, .inl v6_18)]) (st' := [.inr (.inr (some 39))]) (h' := gc_h sh I16 J17 A) (C := (True ∧ True)) rfl ⟨trivial, trivial⟩ ?_
            refine gv_get hD rfl rfl S_39 ⟨by decide, B_39⟩ (gc_hA S_39 rfl A_39_1) ?_
            show gv_X _ _ (115, [(0, .inr (.inr (some 39))), (1, .inl a1), (2, .inl a2), (4, .inl v4_18), (5, .inl v5_18), (6, .inl v6_18)], [.inr (.inr (some 23))], sh, gc_h sh I16 J17 A)
            have f100 := (show 0 ≤ I16 23 7 ∧ I16 23 7 ≤ 125 from gc_in hI16 R_23 rfl rfl)
            refine gv_get hD rfl rfl S_23 ⟨by decide, B_23⟩ (gc_hI S_23 rfl) ?_
            show gv_X _ _ (118, [(0, .inr (.inr (some 39))), (1, .inl a1), (2, .inl a2), (4, .inl v4_18), (5, .inl v5_18), (6, .inl v6_18)], [.inl (I16 23 7)], sh, gc_h sh I16 J17 A)
            refine gv_run 1 true hD (pc' := 120) (lv' := [(0, .inr (.inr (some 39))), (1, .inl a1), (2, .inl a2), (4, .inl v4_18), (5, .inl v5_18), (6, .inl v6_18)]) (st' := [.inl 40, .inl (I16 23 7)]) (h' := gc_h sh I16 J17 A) (C := (True ∧ True)) rfl ⟨trivial, trivial⟩ ?_
            refine gv_icmp_ne (t := 192) hD rfl rfl ⟨⟨by omega, by omega⟩, ⟨by omega, by omega⟩⟩ (fun c101 => ?_) (fun c101 => ?_)
            · show gv_X _ _ (192, [(0, .inr (.inr (some 39))), (1, .inl a1), (2, .inl a2), (4, .inl v4_18), (5, .inl v5_18), (6, .inl v6_18)], [], sh, gc_h sh I16 J17 A)
              refine gv_run 1 true hD (pc' := 193) (lv' := [(0, .inr (.inr (some 39))), (1, .inl a1), (2, .inl a2), (4, .inl v4_18), (5, .inl v5_18), (6, .inl v6_18)]) (st' := [.inl 1]) (h' := gc_h sh I16 J17 A) (C := (True ∧ True)) rfl ⟨trivial, trivial⟩ ?_
              exact gv_zret hD rfl (by omega) ⟨I16, J17, rfl, hI16, FI16, FJ17, KLT_I16, KTK_I16, KTO_I16, ⟨_, rfl, by omega, by omega, by omega, by omega, by omega, by omega, by omega, (Or.inr e0_18), (gs_TQc_y (gs_tmL_e e6_18 (by omega) (by omega) (by omega)) (by omega) (by omega) e5_18 (by omega))⟩⟩
            · show gv_X _ _ (123, [(0, .inr (.inr (some 39))), (1, .inl a1), (2, .inl a2), (4, .inl v4_18), (5, .inl v5_18), (6, .inl v6_18)], [], sh, gc_h sh I16 J17 A)
              refine gv_pick [0, 1, 2, 3, 5] rfl ?_
              exact L123 (by omega) e0_18 (gs_tmL_I e6_18 (by omega) (by omega))
    refine gv_run 2 true hD (pc' := 46) (lv' := [(0, .inr (.inr (some 39))), (1, .inl a1), (2, .inl a2), (3, .inl v3_8)]) (st' := [.inl 40, .inl a2]) (h' := gc_h sh I J A) (C := ((True ∧ True) ∧ True)) rfl ⟨⟨trivial, trivial⟩, trivial⟩ ?_
    refine gv_icmp_le (t := 62) hD rfl rfl ⟨⟨by omega, by omega⟩, ⟨by omega, by omega⟩⟩ (fun c102 => ?_) (fun c102 => ?_)
    · show gv_X _ _ (62, [(0, .inr (.inr (some 39))), (1, .inl a1), (2, .inl a2), (3, .inl v3_8)], [], sh, gc_h sh I J A)
      refine gv_run 2 true hD (pc' := 65) (lv' := [(0, .inr (.inr (some 39))), (1, .inl a1), (2, .inl a2), (3, .inl v3_8)]) (st' := [.inl 92, .inl v3_8]) (h' := gc_h sh I J A) (C := ((True ∧ True) ∧ True)) rfl ⟨⟨trivial, trivial⟩, trivial⟩ ?_
      refine gv_icmp_ne (t := 75) hD rfl rfl ⟨⟨by omega, by omega⟩, ⟨by omega, by omega⟩⟩ (fun c103 => ?_) (fun c103 => ?_)
      · show gv_X _ _ (75, [(0, .inr (.inr (some 39))), (1, .inl a1), (2, .inl a2), (3, .inl v3_8)], [], sh, gc_h sh I J A)
        refine gv_run 1 true hD (pc' := 76) (lv' := [(0, .inr (.inr (some 39))), (1, .inl a1), (2, .inl a2), (3, .inl v3_8)]) (st' := [.inr (.inr (some 39))]) (h' := gc_h sh I J A) (C := (True ∧ True)) rfl ⟨trivial, trivial⟩ ?_
        have f104 := (show 0 ≤ I 39 12 ∧ I 39 12 ≤ 2000 from gc_in hI R_39 rfl rfl)
        refine gv_get hD rfl rfl S_39 ⟨by decide, B_39⟩ (gc_hI S_39 rfl) ?_
        show gv_X _ _ (79, [(0, .inr (.inr (some 39))), (1, .inl a1), (2, .inl a2), (3, .inl v3_8)], [.inl (I 39 12)], sh, gc_h sh I J A)
        refine gv_run 4 true hD (pc' := 84) (lv' := [(4, .inl (I 39 12)), (0, .inr (.inr (some 39))), (1, .inl a1), (2, .inl a2), (3, .inl v3_8)]) (st' := [.inl a2, .inl a1, .inr (.inr (some 39))]) (h' := gc_h sh I J A) (C := ((((True ∧ True) ∧ True) ∧ True) ∧ True)) rfl ⟨⟨⟨⟨trivial, trivial⟩, trivial⟩, trivial⟩, trivial⟩ ?_
        obtain ⟨r105, h105, E105, P105⟩ := d_X6_readAtom_p (ws0 := ws0) (tb := tb) hws htb sh ro A  b β η nf9  hb   nr ihR I J hI a1 a2 p9 (m9 - 1) ⟨by omega, by omega⟩ ⟨by omega, by omega⟩ (by omega) (by omega) (by omega) (by omega) (by omega) x4 (by omega) (by omega) (by omega) KLT_I KTK_I KTO_I (by omega)
        obtain ⟨I106, J107, rfl, hI106, g105, k105, KLT_I106, KTK_I106, KTO_I106, ⟨z105, rfl, q105⟩⟩ := P105
        have FI106 := gc_frc (W := fun q j => (q = 39 ∧ j = 3) ∨ (q = 39 ∧ j = 4) ∨ (q = 23 ∧ j = 5) ∨ (q = 23 ∧ j = 6) ∨ (q = 23 ∧ j = 7) ∨ (q = 23 ∧ j = 8) ∨ (q = 39 ∧ j = 12) ∨ (q = 39 ∧ j = 15) ∨ q = 43) (V := fun q j => (q = 39 ∧ j = 3) ∨ (q = 39 ∧ j = 4) ∨ (q = 23 ∧ j = 5) ∨ (q = 23 ∧ j = 6) ∨ (q = 23 ∧ j = 7) ∨ (q = 23 ∧ j = 8) ∨ (q = 39 ∧ j = 12) ∨ (q = 39 ∧ j = 15) ∨ q = 43) FI (fun q j h => (h.elim (fun h => (Or.inl h)) (fun h => (h.elim (fun h => (Or.inr (Or.inl h))) (fun h => (h.elim (fun h => (Or.inr (Or.inr (Or.inl h)))) (fun h => (h.elim (fun h => (Or.inr (Or.inr (Or.inr (Or.inl h))))) (fun h => (h.elim (fun h => (Or.inr (Or.inr (Or.inr (Or.inr (Or.inl h)))))) (fun h => (h.elim (fun h => (Or.inr (Or.inr (Or.inr (Or.inr (Or.inr (Or.inl h))))))) (fun h => (h.elim (fun h => (Or.inr (Or.inr (Or.inr (Or.inr (Or.inr (Or.inr (Or.inl h)))))))) (fun h => (h.elim (fun h => (Or.inr (Or.inr (Or.inr (Or.inr (Or.inr (Or.inr (Or.inr (Or.inl h))))))))) (fun h => (Or.inr (Or.inr (Or.inr (Or.inr (Or.inr (Or.inr (Or.inr (Or.inr h))))))))))))))))))))))))) g105
        have FJ107 := gc_frc (W := fun q j => (q = 23 ∧ j = 9) ∨ q = 44 ∨ q = 45) (V := fun q j => (q = 23 ∧ j = 9) ∨ q = 44 ∨ q = 45) FJ (fun q j h => (h.elim (fun h => (Or.inl h)) (fun h => (h.elim (fun h => (Or.inr (Or.inl h))) (fun h => (Or.inr (Or.inr h))))))) k105
        have t108 := (g105 23 1).resolve_left (fun h => h.elim (fun h => absurd h.2 (by decide)) (fun h => h.elim (fun h => absurd h.2 (by decide)) (fun h => h.elim (fun h => absurd h.2 (by decide)) (fun h => h.elim (fun h => absurd h.2 (by decide)) (fun h => h.elim (fun h => absurd h.2 (by decide)) (fun h => h.elim (fun h => absurd h.2 (by decide)) (fun h => h.elim (fun h => absurd h.2 (by decide)) (fun h => h.elim (fun h => absurd h.2 (by decide)) (fun h => absurd h (by decide))))))))))
        have t109 := (g105 12 (Int.toNat a1)).resolve_left (fun h => h.elim (fun h => absurd h.1 (by decide)) (fun h => h.elim (fun h => absurd h.1 (by decide)) (fun h => h.elim (fun h => absurd h.1 (by decide)) (fun h => h.elim (fun h => absurd h.1 (by decide)) (fun h => h.elim (fun h => absurd h.1 (by decide)) (fun h => h.elim (fun h => absurd h.1 (by decide)) (fun h => h.elim (fun h => absurd h.1 (by decide)) (fun h => h.elim (fun h => absurd h.1 (by decide)) (fun h => absurd h (by decide))))))))))
        have f110 := (show 0 ≤ I106 23 5 ∧ I106 23 5 ≤ 1000 from gc_in hI106 R_23 rfl rfl)
        have f111 := (show 0 ≤ I106 23 6 ∧ I106 23 6 ≤ 1001 from gc_in hI106 R_23 rfl rfl)
        have f112 := (show 0 ≤ I106 23 7 ∧ I106 23 7 ≤ 125 from gc_in hI106 R_23 rfl rfl)
        have f113 := (show 0 ≤ I106 39 12 ∧ I106 39 12 ≤ 2000 from gc_in hI106 R_39 rfl rfl)
        have f114 := (show 0 ≤ I106 39 15 ∧ I106 39 15 ≤ 41 from gc_in hI106 R_39 rfl rfl)
        have t115 := gc_TK_mo KTK_I106
        refine gv_callV hD rfl (As := [.inl a1, .inl a2]) (st := []) rfl B_39 S_39 rfl (gc_lV6 hws rfl) (Nat.le_of_ble_eq_true rfl) (gz_Ev_mono (d := (6 + 2 * nr + 1)) (Nat.le_refl _) E105) ?_
        show gv_X _ _ (87, [(4, .inl (I 39 12)), (0, .inr (.inr (some 39))), (1, .inl a1), (2, .inl a2), (3, .inl v3_8)], [.inl z105], sh, gc_h sh I106 J107 A)
        refine gv_if_ne (t := 92) hD rfl rfl ⟨by omega, by omega⟩ (fun c116 => ?_) (fun c116 => ?_)
        · show gv_X _ _ (92, [(4, .inl (I 39 12)), (0, .inr (.inr (some 39))), (1, .inl a1), (2, .inl a2), (3, .inl v3_8)], [], sh, gc_h sh I106 J107 A)
          obtain ⟨u117, A117, U117⟩ := gs_TQc_1 q105.2.2.2.2.2.2.2.2.2 (by omega)
          have t118 := gc_AT_l A117
          refine gv_run 4 true hD (pc' := 98) (lv' := [(6, .inl 0), (5, .inl 0), (4, .inl (I 39 12)), (0, .inr (.inr (some 39))), (1, .inl a1), (2, .inl a2), (3, .inl v3_8)]) (st' := []) (h' := gc_h sh I106 J107 A) (C := ((((True ∧ True) ∧ True) ∧ True) ∧ True)) rfl ⟨⟨⟨⟨trivial, trivial⟩, trivial⟩, trivial⟩, trivial⟩ ?_
          refine gv_pick [3, 4, 5, 2, 1, 0] rfl ?_
          exact L98 _ I106 J107 (I 39 12) 0 0 ((gs_tm β η nf9 (m9 - 1) 1 a2 p9).1) (Nat.lt_succ_self _) hI106 FI106 FJ107 KLT_I106 KTK_I106 KTO_I106 (by omega) (q105.2.2.2.2.2.2.2.1.resolve_left (by omega)) A117 (gs_tmL_a (by omega) (by omega) (by omega) (by omega) (by omega) rfl (by omega) (by omega))
        · show gv_X _ _ (90, [(4, .inl (I 39 12)), (0, .inr (.inr (some 39))), (1, .inl a1), (2, .inl a2), (3, .inl v3_8)], [], sh, gc_h sh I106 J107 A)
          obtain ⟨u119, U119⟩ := gs_TQc_0 q105.2.2.2.2.2.2.2.2.2 (by omega)
          refine gv_run 1 true hD (pc' := 91) (lv' := [(4, .inl (I 39 12)), (0, .inr (.inr (some 39))), (1, .inl a1), (2, .inl a2), (3, .inl v3_8)]) (st' := [.inl 0]) (h' := gc_h sh I106 J107 A) (C := (True ∧ True)) rfl ⟨trivial, trivial⟩ ?_
          exact gv_zret hD rfl (by omega) ⟨I106, J107, rfl, hI106, FI106, FJ107, KLT_I106, KTK_I106, KTO_I106, ⟨_, rfl, by omega, by omega, by omega, by omega, by omega, by omega, by omega, (Or.inl (by omega)), (gs_TQc_n (gs_tt_x (by omega) (by omega) (by omega) (by omega)) (by omega) (by omega) (by omega))⟩⟩
      · show gv_X _ _ (68, [(0, .inr (.inr (some 39))), (1, .inl a1), (2, .inl a2), (3, .inl v3_8)], [], sh, gc_h sh I J A)
        refine gv_run 3 true hD (pc' := 71) (lv' := [(0, .inr (.inr (some 39))), (1, .inl a1), (2, .inl a2), (3, .inl v3_8)]) (st' := [.inl a2, .inl a1, .inr (.inr (some 39))]) (h' := gc_h sh I J A) (C := (((True ∧ True) ∧ True) ∧ True)) rfl ⟨⟨⟨trivial, trivial⟩, trivial⟩, trivial⟩ ?_
        obtain ⟨r120, h120, E120, P120⟩ := d_X6_readBinder_p (ws0 := ws0) (tb := tb) hws htb sh ro A  b β η nf9  hb   nr ihR I J hI a1 a2 p9 m9 ⟨by omega, by omega⟩ ⟨by omega, by omega⟩ (by omega) (by omega) (by omega) (by omega) (by omega) x4 (by omega) (by omega) (by omega) KLT_I KTK_I KTO_I (by omega)
        obtain ⟨I121, J122, rfl, hI121, g120, k120, KLT_I121, KTK_I121, KTO_I121, ⟨z120, rfl, q120⟩⟩ := P120
        have FI121 := gc_frc (W := fun q j => (q = 39 ∧ j = 3) ∨ (q = 39 ∧ j = 4) ∨ (q = 23 ∧ j = 5) ∨ (q = 23 ∧ j = 6) ∨ (q = 23 ∧ j = 7) ∨ (q = 23 ∧ j = 8) ∨ (q = 39 ∧ j = 12) ∨ (q = 39 ∧ j = 15) ∨ q = 43) (V := fun q j => (q = 39 ∧ j = 3) ∨ (q = 39 ∧ j = 4) ∨ (q = 23 ∧ j = 5) ∨ (q = 23 ∧ j = 6) ∨ (q = 23 ∧ j = 7) ∨ (q = 23 ∧ j = 8) ∨ (q = 39 ∧ j = 12) ∨ (q = 39 ∧ j = 15) ∨ q = 43) FI (fun q j h => (h.elim (fun h => (Or.inl h)) (fun h => (h.elim (fun h => (Or.inr (Or.inl h))) (fun h => (h.elim (fun h => (Or.inr (Or.inr (Or.inl h)))) (fun h => (h.elim (fun h => (Or.inr (Or.inr (Or.inr (Or.inl h))))) (fun h => (h.elim (fun h => (Or.inr (Or.inr (Or.inr (Or.inr (Or.inl h)))))) (fun h => (h.elim (fun h => (Or.inr (Or.inr (Or.inr (Or.inr (Or.inr (Or.inl h))))))) (fun h => (h.elim (fun h => (Or.inr (Or.inr (Or.inr (Or.inr (Or.inr (Or.inr (Or.inl h)))))))) (fun h => (h.elim (fun h => (Or.inr (Or.inr (Or.inr (Or.inr (Or.inr (Or.inr (Or.inr (Or.inl h))))))))) (fun h => (Or.inr (Or.inr (Or.inr (Or.inr (Or.inr (Or.inr (Or.inr (Or.inr h))))))))))))))))))))))))) g120
        have FJ122 := gc_frc (W := fun q j => (q = 23 ∧ j = 9) ∨ q = 44 ∨ q = 45) (V := fun q j => (q = 23 ∧ j = 9) ∨ q = 44 ∨ q = 45) FJ (fun q j h => (h.elim (fun h => (Or.inl h)) (fun h => (h.elim (fun h => (Or.inr (Or.inl h))) (fun h => (Or.inr (Or.inr h))))))) k120
        have t123 := (g120 23 1).resolve_left (fun h => h.elim (fun h => absurd h.2 (by decide)) (fun h => h.elim (fun h => absurd h.2 (by decide)) (fun h => h.elim (fun h => absurd h.2 (by decide)) (fun h => h.elim (fun h => absurd h.2 (by decide)) (fun h => h.elim (fun h => absurd h.2 (by decide)) (fun h => h.elim (fun h => absurd h.2 (by decide)) (fun h => h.elim (fun h => absurd h.2 (by decide)) (fun h => h.elim (fun h => absurd h.2 (by decide)) (fun h => absurd h (by decide))))))))))
        have t124 := (g120 12 (Int.toNat a1)).resolve_left (fun h => h.elim (fun h => absurd h.1 (by decide)) (fun h => h.elim (fun h => absurd h.1 (by decide)) (fun h => h.elim (fun h => absurd h.1 (by decide)) (fun h => h.elim (fun h => absurd h.1 (by decide)) (fun h => h.elim (fun h => absurd h.1 (by decide)) (fun h => h.elim (fun h => absurd h.1 (by decide)) (fun h => h.elim (fun h => absurd h.1 (by decide)) (fun h => h.elim (fun h => absurd h.1 (by decide)) (fun h => absurd h (by decide))))))))))
        have f125 := (show 0 ≤ I121 23 5 ∧ I121 23 5 ≤ 1000 from gc_in hI121 R_23 rfl rfl)
        have f126 := (show 0 ≤ I121 23 6 ∧ I121 23 6 ≤ 1001 from gc_in hI121 R_23 rfl rfl)
        have f127 := (show 0 ≤ I121 23 7 ∧ I121 23 7 ≤ 125 from gc_in hI121 R_23 rfl rfl)
        have f128 := (show 0 ≤ I121 39 12 ∧ I121 39 12 ≤ 2000 from gc_in hI121 R_39 rfl rfl)
        have f129 := (show 0 ≤ I121 39 15 ∧ I121 39 15 ≤ 41 from gc_in hI121 R_39 rfl rfl)
        have t130 := gc_TK_mo KTK_I121
        refine gv_callV hD rfl (As := [.inl a1, .inl a2]) (st := []) rfl B_39 S_39 rfl (gc_lV6 hws rfl) (Nat.le_of_ble_eq_true rfl) (gz_Ev_mono (d := (6 + 2 * nr + 1)) (Nat.le_refl _) E120) ?_
        show gv_X _ _ (74, [(0, .inr (.inr (some 39))), (1, .inl a1), (2, .inl a2), (3, .inl v3_8)], [.inl z120], sh, gc_h sh I121 J122 A)
        exact gv_zret hD rfl (by omega) ⟨I121, J122, rfl, hI121, FI121, FJ122, KLT_I121, KTK_I121, KTO_I121, ⟨_, rfl, by omega, by omega, by omega, by omega, by omega, by omega, by omega, q120.2.2.2.2.2.2.2.1, q120.2.2.2.2.2.2.2.2⟩⟩
    · show gv_X _ _ (49, [(0, .inr (.inr (some 39))), (1, .inl a1), (2, .inl a2), (3, .inl v3_8)], [], sh, gc_h sh I J A)
      refine gv_run 3 true hD (pc' := 52) (lv' := [(0, .inr (.inr (some 39))), (1, .inl a1), (2, .inl a2), (3, .inl v3_8)]) (st' := [.inr (.inr (some 39)), .inl 5, .inr (.inr (some 39))]) (h' := gc_h sh I J A) (C := (((True ∧ True) ∧ True) ∧ True)) rfl ⟨⟨⟨trivial, trivial⟩, trivial⟩, trivial⟩ ?_
      refine gv_get hD rfl rfl S_39 ⟨by decide, B_39⟩ (gc_hA S_39 rfl A_39_1) ?_
      show gv_X _ _ (55, [(0, .inr (.inr (some 39))), (1, .inl a1), (2, .inl a2), (3, .inl v3_8)], [.inr (.inr (some 23)), .inl 5, .inr (.inr (some 39))], sh, gc_h sh I J A)
      have f131 := (show 0 ≤ I 23 5 ∧ I 23 5 ≤ 1000 from gc_in hI R_23 rfl rfl)
      refine gv_get hD rfl rfl S_23 ⟨by decide, B_23⟩ (gc_hI S_23 rfl) ?_
      show gv_X _ _ (58, [(0, .inr (.inr (some 39))), (1, .inl a1), (2, .inl a2), (3, .inl v3_8)], [.inl (I 23 5), .inl 5, .inr (.inr (some 39))], sh, gc_h sh I J A)
      obtain ⟨r132, h132, E132, P132⟩ := d_X6_wrong_p (ws0 := ws0) (tb := tb) hws htb sh ro I J A hI  5 (I 23 5) hb   ⟨by omega, by omega⟩ ⟨by omega, by omega⟩  
      obtain ⟨I133, J134, rfl, hI133, g132, k132, ⟨z132, rfl, q132⟩⟩ := P132
      have FI133 := gc_frc (W := fun q j => (q = 39 ∧ j = 3) ∨ (q = 39 ∧ j = 4) ∨ (q = 23 ∧ j = 5) ∨ (q = 23 ∧ j = 6) ∨ (q = 23 ∧ j = 7) ∨ (q = 23 ∧ j = 8) ∨ (q = 39 ∧ j = 12) ∨ (q = 39 ∧ j = 15) ∨ q = 43) (V := fun q j => (q = 39 ∧ j = 3) ∨ (q = 39 ∧ j = 4)) FI (fun q j h => (h.elim (fun h => (Or.inl h)) (fun h => (Or.inr (Or.inl h))))) g132
      have t135 := (g132 23 1).resolve_left (fun h => h.elim (fun h => absurd h.2 (by decide)) (fun h => absurd h.2 (by decide)))
      have t136 := (g132 23 5).resolve_left (fun h => h.elim (fun h => absurd h.2 (by decide)) (fun h => absurd h.2 (by decide)))
      have t137 := (g132 23 6).resolve_left (fun h => h.elim (fun h => absurd h.2 (by decide)) (fun h => absurd h.2 (by decide)))
      have t138 := (g132 23 7).resolve_left (fun h => h.elim (fun h => absurd h.2 (by decide)) (fun h => absurd h.2 (by decide)))
      have t139 := (g132 39 12).resolve_left (fun h => h.elim (fun h => absurd h.2 (by decide)) (fun h => absurd h.2 (by decide)))
      have t140 := (g132 39 15).resolve_left (fun h => h.elim (fun h => absurd h.2 (by decide)) (fun h => absurd h.2 (by decide)))
      have t141 := (g132 12 (Int.toNat a1)).resolve_left (fun h => h.elim (fun h => absurd h.1 (by decide)) (fun h => absurd h.1 (by decide)))
      obtain rfl : J = J134 := funext fun q => funext fun j => ((k132 q j).resolve_left id).symm
      have KLT_I133 := gc_LT_fr KLT_I ((g132 23 5).resolve_left (fun h => h.elim (fun h => absurd h.2 (by decide)) (fun h => absurd h.2 (by decide)))) ((g132 23 6).resolve_left (fun h => h.elim (fun h => absurd h.2 (by decide)) (fun h => absurd h.2 (by decide)))) ((g132 23 7).resolve_left (fun h => h.elim (fun h => absurd h.2 (by decide)) (fun h => absurd h.2 (by decide)))) (fun k => (g132 24 k).resolve_left (fun h => h.elim (fun h => absurd h.1 (by decide)) (fun h => absurd h.1 (by decide))))
      have KTK_I133 := gc_TK_fr KTK_I ((g132 23 1).resolve_left (fun h => h.elim (fun h => absurd h.2 (by decide)) (fun h => absurd h.2 (by decide)))) ((g132 23 5).resolve_left (fun h => h.elim (fun h => absurd h.2 (by decide)) (fun h => absurd h.2 (by decide)))) ((g132 23 6).resolve_left (fun h => h.elim (fun h => absurd h.2 (by decide)) (fun h => absurd h.2 (by decide)))) ((g132 23 7).resolve_left (fun h => h.elim (fun h => absurd h.2 (by decide)) (fun h => absurd h.2 (by decide))))
      have KTO_I133 := gc_TO_fr KTO_I ((g132 39 12).resolve_left (fun h => h.elim (fun h => absurd h.2 (by decide)) (fun h => absurd h.2 (by decide)))) (fun k => (g132 43 k).resolve_left (fun h => h.elim (fun h => absurd h.1 (by decide)) (fun h => absurd h.1 (by decide))))
      have A142 := gc_AT_I x4 ((g132 23 1).resolve_left (fun h => h.elim (fun h => absurd h.2 (by decide)) (fun h => absurd h.2 (by decide)))) ((g132 23 5).resolve_left (fun h => h.elim (fun h => absurd h.2 (by decide)) (fun h => absurd h.2 (by decide)))) ((g132 23 6).resolve_left (fun h => h.elim (fun h => absurd h.2 (by decide)) (fun h => absurd h.2 (by decide)))) ((g132 23 7).resolve_left (fun h => h.elim (fun h => absurd h.2 (by decide)) (fun h => absurd h.2 (by decide)))) ((g132 23 8).resolve_left (fun h => h.elim (fun h => absurd h.2 (by decide)) (fun h => absurd h.2 (by decide)))) (fun k => (g132 24 k).resolve_left (fun h => h.elim (fun h => absurd h.1 (by decide)) (fun h => absurd h.1 (by decide))))
      have t143 := gc_AT_l A142
      refine gv_callV hD rfl (As := [.inl 5, .inl (I 23 5)]) (st := []) rfl B_39 S_39 rfl (gc_lV6 hws rfl) (Nat.le_of_ble_eq_true rfl) (gz_Ev_mono (d := 1) (by omega) E132) ?_
      show gv_X _ _ (61, [(0, .inr (.inr (some 39))), (1, .inl a1), (2, .inl a2), (3, .inl v3_8)], [.inl z132], sh, gc_h sh I133 J A)
      exact gv_zret hD rfl (by omega) ⟨I133, J, rfl, hI133, FI133, FJ, KLT_I133, KTK_I133, KTO_I133, ⟨_, rfl, by omega, by omega, by omega, by omega, by omega, by omega, by omega, (Or.inl (by omega)), (gs_TQc_n (gs_tt_d (by omega) (by omega)) (by omega) (by omega) (by omega))⟩⟩
  refine gv_run 1 true hD (pc' := 1) (lv' := [(0, .inr (.inr (some 39))), (1, .inl a1), (2, .inl a2)]) (st' := [.inr (.inr (some 39))]) (h' := gc_h sh I J A) (C := (True ∧ True)) rfl ⟨trivial, trivial⟩ ?_
  refine gv_get hD rfl rfl S_39 ⟨by decide, B_39⟩ (gc_hA S_39 rfl A_39_1) ?_
  show gv_X _ _ (4, [(0, .inr (.inr (some 39))), (1, .inl a1), (2, .inl a2)], [.inr (.inr (some 23))], sh, gc_h sh I J A)
  have f144 := (show 0 ≤ I 23 7 ∧ I 23 7 ≤ 125 from gc_in hI R_23 rfl rfl)
  refine gv_get hD rfl rfl S_23 ⟨by decide, B_23⟩ (gc_hI S_23 rfl) ?_
  show gv_X _ _ (7, [(0, .inr (.inr (some 39))), (1, .inl a1), (2, .inl a2)], [.inl (I 23 7)], sh, gc_h sh I J A)
  refine gv_run 3 true hD (pc' := 11) (lv' := [(3, .inl (I 23 7)), (0, .inr (.inr (some 39))), (1, .inl a1), (2, .inl a2)]) (st' := [.inl 92, .inl (I 23 7)]) (h' := gc_h sh I J A) (C := (((True ∧ True) ∧ True) ∧ True)) rfl ⟨⟨⟨trivial, trivial⟩, trivial⟩, trivial⟩ ?_
  refine gv_icmp_eq (t := 43) hD rfl rfl ⟨⟨by omega, by omega⟩, ⟨by omega, by omega⟩⟩ (fun c145 => ?_) (fun c145 => ?_)
  · show gv_X _ _ (43, [(3, .inl (I 23 7)), (0, .inr (.inr (some 39))), (1, .inl a1), (2, .inl a2)], [], sh, gc_h sh I J A)
    refine gv_pick [1, 2, 3, 0] rfl ?_
    exact L43 (I 23 7) (by omega)
  · show gv_X _ _ (14, [(3, .inl (I 23 7)), (0, .inr (.inr (some 39))), (1, .inl a1), (2, .inl a2)], [], sh, gc_h sh I J A)
    refine gv_run 2 true hD (pc' := 17) (lv' := [(3, .inl (I 23 7)), (0, .inr (.inr (some 39))), (1, .inl a1), (2, .inl a2)]) (st' := [.inl 40, .inl (I 23 7)]) (h' := gc_h sh I J A) (C := ((True ∧ True) ∧ True)) rfl ⟨⟨trivial, trivial⟩, trivial⟩ ?_
    refine gv_icmp_eq (t := 43) hD rfl rfl ⟨⟨by omega, by omega⟩, ⟨by omega, by omega⟩⟩ (fun c146 => ?_) (fun c146 => ?_)
    · show gv_X _ _ (43, [(3, .inl (I 23 7)), (0, .inr (.inr (some 39))), (1, .inl a1), (2, .inl a2)], [], sh, gc_h sh I J A)
      refine gv_pick [1, 2, 3, 0] rfl ?_
      exact L43 (I 23 7) (by omega)
    · show gv_X _ _ (20, [(3, .inl (I 23 7)), (0, .inr (.inr (some 39))), (1, .inl a1), (2, .inl a2)], [], sh, gc_h sh I J A)
      refine gv_run 2 true hD (pc' := 22) (lv' := [(3, .inl (I 23 7)), (0, .inr (.inr (some 39))), (1, .inl a1), (2, .inl a2)]) (st' := [.inl 1, .inl (I 23 7)]) (h' := gc_h sh I J A) (C := ((True ∧ True) ∧ True)) rfl ⟨⟨trivial, trivial⟩, trivial⟩ ?_
      refine gv_icmp_eq (t := 43) hD rfl rfl ⟨⟨by omega, by omega⟩, ⟨by omega, by omega⟩⟩ (fun c147 => ?_) (fun c147 => ?_)
      · show gv_X _ _ (43, [(3, .inl (I 23 7)), (0, .inr (.inr (some 39))), (1, .inl a1), (2, .inl a2)], [], sh, gc_h sh I J A)
        refine gv_pick [1, 2, 3, 0] rfl ?_
        exact L43 (I 23 7) (by omega)
      · show gv_X _ _ (25, [(3, .inl (I 23 7)), (0, .inr (.inr (some 39))), (1, .inl a1), (2, .inl a2)], [], sh, gc_h sh I J A)
        refine gv_run 2 true hD (pc' := 27) (lv' := [(3, .inl (I 23 7)), (0, .inr (.inr (some 39))), (1, .inl a1), (2, .inl a2)]) (st' := [.inl 2, .inl (I 23 7)]) (h' := gc_h sh I J A) (C := ((True ∧ True) ∧ True)) rfl ⟨⟨trivial, trivial⟩, trivial⟩ ?_
        refine gv_icmp_eq (t := 43) hD rfl rfl ⟨⟨by omega, by omega⟩, ⟨by omega, by omega⟩⟩ (fun c148 => ?_) (fun c148 => ?_)
        · show gv_X _ _ (43, [(3, .inl (I 23 7)), (0, .inr (.inr (some 39))), (1, .inl a1), (2, .inl a2)], [], sh, gc_h sh I J A)
          refine gv_pick [1, 2, 3, 0] rfl ?_
          exact L43 (I 23 7) (by omega)
        · show gv_X _ _ (30, [(3, .inl (I 23 7)), (0, .inr (.inr (some 39))), (1, .inl a1), (2, .inl a2)], [], sh, gc_h sh I J A)
          refine gv_run 3 true hD (pc' := 33) (lv' := [(3, .inl (I 23 7)), (0, .inr (.inr (some 39))), (1, .inl a1), (2, .inl a2)]) (st' := [.inr (.inr (some 39)), .inl 1, .inr (.inr (some 39))]) (h' := gc_h sh I J A) (C := (((True ∧ True) ∧ True) ∧ True)) rfl ⟨⟨⟨trivial, trivial⟩, trivial⟩, trivial⟩ ?_
          refine gv_get hD rfl rfl S_39 ⟨by decide, B_39⟩ (gc_hA S_39 rfl A_39_1) ?_
          show gv_X _ _ (36, [(3, .inl (I 23 7)), (0, .inr (.inr (some 39))), (1, .inl a1), (2, .inl a2)], [.inr (.inr (some 23)), .inl 1, .inr (.inr (some 39))], sh, gc_h sh I J A)
          have f149 := (show 0 ≤ I 23 5 ∧ I 23 5 ≤ 1000 from gc_in hI R_23 rfl rfl)
          refine gv_get hD rfl rfl S_23 ⟨by decide, B_23⟩ (gc_hI S_23 rfl) ?_
          show gv_X _ _ (39, [(3, .inl (I 23 7)), (0, .inr (.inr (some 39))), (1, .inl a1), (2, .inl a2)], [.inl (I 23 5), .inl 1, .inr (.inr (some 39))], sh, gc_h sh I J A)
          obtain ⟨r150, h150, E150, P150⟩ := d_X6_wrong_p (ws0 := ws0) (tb := tb) hws htb sh ro I J A hI  1 (I 23 5) hb   ⟨by omega, by omega⟩ ⟨by omega, by omega⟩  
          obtain ⟨I151, J152, rfl, hI151, g150, k150, ⟨z150, rfl, q150⟩⟩ := P150
          have FI151 := gc_frc (W := fun q j => (q = 39 ∧ j = 3) ∨ (q = 39 ∧ j = 4) ∨ (q = 23 ∧ j = 5) ∨ (q = 23 ∧ j = 6) ∨ (q = 23 ∧ j = 7) ∨ (q = 23 ∧ j = 8) ∨ (q = 39 ∧ j = 12) ∨ (q = 39 ∧ j = 15) ∨ q = 43) (V := fun q j => (q = 39 ∧ j = 3) ∨ (q = 39 ∧ j = 4)) FI (fun q j h => (h.elim (fun h => (Or.inl h)) (fun h => (Or.inr (Or.inl h))))) g150
          have t153 := (g150 23 1).resolve_left (fun h => h.elim (fun h => absurd h.2 (by decide)) (fun h => absurd h.2 (by decide)))
          have t154 := (g150 23 5).resolve_left (fun h => h.elim (fun h => absurd h.2 (by decide)) (fun h => absurd h.2 (by decide)))
          have t155 := (g150 23 6).resolve_left (fun h => h.elim (fun h => absurd h.2 (by decide)) (fun h => absurd h.2 (by decide)))
          have t156 := (g150 23 7).resolve_left (fun h => h.elim (fun h => absurd h.2 (by decide)) (fun h => absurd h.2 (by decide)))
          have t157 := (g150 39 12).resolve_left (fun h => h.elim (fun h => absurd h.2 (by decide)) (fun h => absurd h.2 (by decide)))
          have t158 := (g150 39 15).resolve_left (fun h => h.elim (fun h => absurd h.2 (by decide)) (fun h => absurd h.2 (by decide)))
          have t159 := (g150 12 (Int.toNat a1)).resolve_left (fun h => h.elim (fun h => absurd h.1 (by decide)) (fun h => absurd h.1 (by decide)))
          obtain rfl : J = J152 := funext fun q => funext fun j => ((k150 q j).resolve_left id).symm
          have KLT_I151 := gc_LT_fr KLT_I ((g150 23 5).resolve_left (fun h => h.elim (fun h => absurd h.2 (by decide)) (fun h => absurd h.2 (by decide)))) ((g150 23 6).resolve_left (fun h => h.elim (fun h => absurd h.2 (by decide)) (fun h => absurd h.2 (by decide)))) ((g150 23 7).resolve_left (fun h => h.elim (fun h => absurd h.2 (by decide)) (fun h => absurd h.2 (by decide)))) (fun k => (g150 24 k).resolve_left (fun h => h.elim (fun h => absurd h.1 (by decide)) (fun h => absurd h.1 (by decide))))
          have KTK_I151 := gc_TK_fr KTK_I ((g150 23 1).resolve_left (fun h => h.elim (fun h => absurd h.2 (by decide)) (fun h => absurd h.2 (by decide)))) ((g150 23 5).resolve_left (fun h => h.elim (fun h => absurd h.2 (by decide)) (fun h => absurd h.2 (by decide)))) ((g150 23 6).resolve_left (fun h => h.elim (fun h => absurd h.2 (by decide)) (fun h => absurd h.2 (by decide)))) ((g150 23 7).resolve_left (fun h => h.elim (fun h => absurd h.2 (by decide)) (fun h => absurd h.2 (by decide))))
          have KTO_I151 := gc_TO_fr KTO_I ((g150 39 12).resolve_left (fun h => h.elim (fun h => absurd h.2 (by decide)) (fun h => absurd h.2 (by decide)))) (fun k => (g150 43 k).resolve_left (fun h => h.elim (fun h => absurd h.1 (by decide)) (fun h => absurd h.1 (by decide))))
          have A160 := gc_AT_I x4 ((g150 23 1).resolve_left (fun h => h.elim (fun h => absurd h.2 (by decide)) (fun h => absurd h.2 (by decide)))) ((g150 23 5).resolve_left (fun h => h.elim (fun h => absurd h.2 (by decide)) (fun h => absurd h.2 (by decide)))) ((g150 23 6).resolve_left (fun h => h.elim (fun h => absurd h.2 (by decide)) (fun h => absurd h.2 (by decide)))) ((g150 23 7).resolve_left (fun h => h.elim (fun h => absurd h.2 (by decide)) (fun h => absurd h.2 (by decide)))) ((g150 23 8).resolve_left (fun h => h.elim (fun h => absurd h.2 (by decide)) (fun h => absurd h.2 (by decide)))) (fun k => (g150 24 k).resolve_left (fun h => h.elim (fun h => absurd h.1 (by decide)) (fun h => absurd h.1 (by decide))))
          have t161 := gc_AT_l A160
          refine gv_callV hD rfl (As := [.inl 1, .inl (I 23 5)]) (st := []) rfl B_39 S_39 rfl (gc_lV6 hws rfl) (Nat.le_of_ble_eq_true rfl) (gz_Ev_mono (d := 1) (by omega) E150) ?_
          show gv_X _ _ (42, [(3, .inl (I 23 7)), (0, .inr (.inr (some 39))), (1, .inl a1), (2, .inl a2)], [.inl z150], sh, gc_h sh I151 J A)
          exact gv_zret hD rfl (by omega) ⟨I151, J, rfl, hI151, FI151, FJ, KLT_I151, KTK_I151, KTO_I151, ⟨_, rfl, by omega, by omega, by omega, by omega, by omega, by omega, by omega, (Or.inl (by omega)), (gs_TQc_n (gs_tt_b (by omega) (by omega) (by omega) (by omega) (by omega) (by omega)) (by omega) (by omega) (by omega))⟩⟩
