set_option maxHeartbeats 8000000 in
set_option maxRecDepth 100000 in
theorem d_X8_writeTree {ws0 : List Cond} {tb : String → gz_T} (hws : gc_Ws ws0) (htb : gc_tbs tb) (sh : gz_Sh) (ro : Nat → Nat) (I : gr_I) (J : gr_J) (A : gc_A) (hI : gc_Inv ro I) (m : Nat) (a1 : Nat) (a2 : Int) (a3 : Nat) (hb : gc_Base sh ro A) (S_a1 : sh[a1]? = some (true, 1, m)) (R_a1 : ro a1 = 37) (B_a1 : a1 < 1000000) (M_a1 : m < 2147483648) (h_a3 : gc_isText sh ro A a3) (ha2 : 0 ≤ a2 ∧ a2 ≤ 60) (x0 : a2 ≤ m) : ∃ r h', gz_Ev ws0 tb 3 (yX8_writeTree, cX8_writeTree, 6, none) [.inr (.inr (some 1)), .inr (.inr (some a1)), .inl a2, .inr (.inr (some a3))] sh (gc_h sh I J A) r sh h' 0 0 ∧ (∃ (I' : gr_I) (J' : gr_J), h' = gc_h sh I' J' A ∧ gc_Inv ro I' ∧ (∀ q j : Nat, ((q = a3 ∧ j = 1) ∨ q = (a3 + 1) ∨ q = 22) ∨ I' q j = I q j) ∧ (∀ q j : Nat, (False) ∨ J' q j = J q j) ∧ r = none) := by
  have FI : ∀ q j : Nat, ((q = a3 ∧ j = 1) ∨ q = (a3 + 1) ∨ q = 22) ∨ I q j = I q j := fun _ _ => Or.inr rfl
  have FJ : ∀ q j : Nat, (False) ∨ J q j = J q j := fun _ _ => Or.inr rfl
  have A_1_1 : A 1 1 = some 4 := gc_bA hb rfl
  have A_1_20 : A 1 20 = some 22 := gc_bA hb rfl
  have A_1_7 : A 1 7 = some 12 := gc_bA hb rfl
  have A_4_0 : A 4 0 = some 5 := gc_bA hb rfl
  have B_1 : 1 < 1000000 := by decide
  have B_12 : 12 < 1000000 := by decide
  have B_22 : 22 < 1000000 := by decide
  have B_4 : 4 < 1000000 := by decide
  have B_5 : 5 < 1000000 := by decide
  have R_12 : ro 12 = 26 := gc_bR hb (by decide) rfl
  have R_22 : ro 22 = 38 := gc_bR hb (by decide) rfl
  have S_1 : sh[1]? = some (false, 8, 21) := gc_bS hb rfl
  have S_12 : sh[12]? = some (true, 1, 96) := gc_bS hb rfl
  have S_22 : sh[22]? = some (true, 1, 60) := gc_bS hb rfl
  have S_4 : sh[4]? = some (false, 4, 2) := gc_bS hb rfl
  have S_5 : sh[5]? = some (true, 2, 96) := gc_bS hb rfl
  obtain ⟨S_a3, R_a3, B_a3, A_a3_0, S_a3_1, R_a3_1, B_a3_1, A_a3_2, S_a3_2, R_a3_2, B_a3_2, A_a3_3, S_a3_3, R_a3_3, B_a3_3⟩ := id h_a3
  have N1 : a3 ≠ 22 := fun h => by
    have h9 := S_a3
    rw [h, S_22] at h9
    cases h9
  have N2 : a3 + 1 ≠ 22 := fun h => by
    have h9 := S_a3_1
    rw [h, S_22] at h9
    cases h9
  have N3 : a1 ≠ a3 := fun h => by
    have h9 := S_a1
    rw [h, S_a3] at h9
    cases h9
  have N4 : a1 ≠ a3 + 1 := fun h => by
    have h9 := S_a1
    rw [h, S_a3_1] at h9
    cases h9
  have N5 : a3 ≠ 12 := fun h => by
    have h9 := S_a3
    rw [h, S_12] at h9
    cases h9
  have N6 : a3 + 1 ≠ 12 := fun h => by
    have h9 := S_a3_1
    rw [h, S_12] at h9
    cases h9
  have hD : gv_D (gc_E8 ws0 tb 2 (yX8_writeTree, cX8_writeTree, 6, none) kX8_writeTree) := gq_of oX8_writeTree
  refine gc_ev8 (d := 2) (l := kX8_writeTree) (Po := fun r h' => (∃ (I' : gr_I) (J' : gr_J), h' = gc_h sh I' J' A ∧ gc_Inv ro I' ∧ (∀ q j : Nat, ((q = a3 ∧ j = 1) ∨ q = (a3 + 1) ∨ q = 22) ∨ I' q j = I q j) ∧ (∀ q j : Nat, (False) ∨ J' q j = J q j) ∧ r = none)) htb rfl (Nat.le_of_ble_eq_true rfl) ?_
  have L6 : ∀ (n9 : Nat) (I1 : gr_I) (J2 : gr_J) (v4_3 : Int) (v5_3 : Int), (61 - v5_3).toNat < n9 → gc_Inv ro I1 → (∀ q j : Nat, ((q = a3 ∧ j = 1) ∨ q = (a3 + 1) ∨ q = 22) ∨ I1 q j = I q j) → (∀ q j : Nat, (False) ∨ J2 q j = J q j) → ((0 ≤ a2 ∧ a2 ≤ 60) ∧ (0 ≤ v4_3 ∧ v4_3 ≤ 60) ∧ (0 ≤ v5_3 ∧ v5_3 ≤ 60) ∧ (v4_3 ≤ v5_3)) → (gc_ge 22 I1 v4_3) → gv_X (gc_E8 ws0 tb 2 (yX8_writeTree, cX8_writeTree, 6, none) kX8_writeTree) (gv_Q cX8_writeTree none sh (fun r h' => (∃ (I' : gr_I) (J' : gr_J), h' = gc_h sh I' J' A ∧ gc_Inv ro I' ∧ (∀ q j : Nat, ((q = a3 ∧ j = 1) ∨ q = (a3 + 1) ∨ q = 22) ∨ I' q j = I q j) ∧ (∀ q j : Nat, (False) ∨ J' q j = J q j) ∧ r = none))) (6, [(0, .inr (.inr (some 1))), (1, .inr (.inr (some a1))), (2, .inl a2), (3, .inr (.inr (some a3))), (4, .inl v4_3), (5, .inl v5_3)], [], sh, gc_h sh I1 J2 A) := by
    intro n9
    induction n9 with
    | zero => intro I1 J2 v4_3 v5_3 hn; exact gz_m 0 (by omega)
    | succ n9 ih6 =>
      intro I1 J2 v4_3 v5_3 hn hI1 FI1 FJ2 m_3 e0_3
      obtain ⟨ha2_3, hv4_3, hv5_3, e1_3⟩ := m_3
      have L122 : ∀ (I4 : gr_I) (J5 : gr_J) (v4_6 : Int), gc_Inv ro I4 → (∀ q j : Nat, ((q = a3 ∧ j = 1) ∨ q = (a3 + 1) ∨ q = 22) ∨ I4 q j = I q j) → (∀ q j : Nat, (False) ∨ J5 q j = J q j) → ((1 ≤ a2 ∧ a2 ≤ 60) ∧ (0 ≤ v4_6 ∧ v4_6 ≤ 60) ∧ (0 ≤ v5_3 ∧ v5_3 ≤ 59) ∧ (v4_6 ≤ v5_3 + 1) ∧ (v5_3 < a2)) → (gc_ge 22 I4 v4_6) → gv_X (gc_E8 ws0 tb 2 (yX8_writeTree, cX8_writeTree, 6, none) kX8_writeTree) (gv_Q cX8_writeTree none sh (fun r h' => (∃ (I' : gr_I) (J' : gr_J), h' = gc_h sh I' J' A ∧ gc_Inv ro I' ∧ (∀ q j : Nat, ((q = a3 ∧ j = 1) ∨ q = (a3 + 1) ∨ q = 22) ∨ I' q j = I q j) ∧ (∀ q j : Nat, (False) ∨ J' q j = J q j) ∧ r = none))) (122, [(0, .inr (.inr (some 1))), (1, .inr (.inr (some a1))), (2, .inl a2), (3, .inr (.inr (some a3))), (4, .inl v4_6), (5, .inl v5_3)], [], sh, gc_h sh I4 J5 A) := by
        intro I4 J5 v4_6 hI4 FI4 FJ5 m_6 e1_6
        clear ha2_3 hv4_3 hv5_3 e1_3
        obtain ⟨ha2_6, hv4_6, hv5_3_6, e0_6, e2_6⟩ := m_6
        refine gv_run 2 true hD (pc' := 6) (lv' := [(5, .inl (v5_3 + 1)), (0, .inr (.inr (some 1))), (1, .inr (.inr (some a1))), (2, .inl a2), (3, .inr (.inr (some a3))), (4, .inl v4_6)]) (st' := []) (h' := gc_h sh I4 J5 A) (C := ((True ∧ True) ∧ True)) rfl ⟨⟨trivial, trivial⟩, trivial⟩ ?_
        refine gv_pick [1, 2, 3, 4, 5, 0] rfl ?_
        exact ih6 I4 J5 v4_6 (v5_3 + 1) (by exact gz_m 1 (by omega)) hI4 FI4 FJ5 (by exact gz_m 2 (by omega)) e1_6
      have L68 : ∀ (n9 : Nat) (I7 : gr_I) (J8 : gr_J) (v4_9 : Int), (v4_9 - (-1)).toNat < n9 → gc_Inv ro I7 → (∀ q j : Nat, ((q = a3 ∧ j = 1) ∨ q = (a3 + 1) ∨ q = 22) ∨ I7 q j = I q j) → (∀ q j : Nat, (False) ∨ J8 q j = J q j) → ((1 ≤ a2 ∧ a2 ≤ 60) ∧ (0 ≤ v4_9 ∧ v4_9 ≤ 60) ∧ (0 ≤ v5_3 ∧ v5_3 ≤ 59) ∧ (v4_9 ≤ v5_3) ∧ (v5_3 < a2)) → (gc_ge 22 I7 v4_9) → gv_X (gc_E8 ws0 tb 2 (yX8_writeTree, cX8_writeTree, 6, none) kX8_writeTree) (gv_Q cX8_writeTree none sh (fun r h' => (∃ (I' : gr_I) (J' : gr_J), h' = gc_h sh I' J' A ∧ gc_Inv ro I' ∧ (∀ q j : Nat, ((q = a3 ∧ j = 1) ∨ q = (a3 + 1) ∨ q = 22) ∨ I' q j = I q j) ∧ (∀ q j : Nat, (False) ∨ J' q j = J q j) ∧ r = none))) (68, [(0, .inr (.inr (some 1))), (1, .inr (.inr (some a1))), (2, .inl a2), (3, .inr (.inr (some a3))), (4, .inl v4_9), (5, .inl v5_3)], [], sh, gc_h sh I7 J8 A) := by
        intro n9
        induction n9 with
        | zero => intro I7 J8 v4_9 hn; exact gz_m 3 (by omega)
        | succ n9 ih68 =>
          intro I7 J8 v4_9 hn hI7 FI7 FJ8 m_9 e1_9
          clear ha2_3 hv4_3 hv5_3 e1_3
          obtain ⟨ha2_9, hv4_9, hv5_3_9, e0_9, e2_9⟩ := m_9
          have L98 : ((1 ≤ a2 ∧ a2 ≤ 60) ∧ (0 ≤ v4_9 ∧ v4_9 ≤ 60) ∧ (0 ≤ v5_3 ∧ v5_3 ≤ 59) ∧ (v4_9 ≤ v5_3) ∧ (v4_9 ≤ 0 ∨ ¬ I7 22 (Int.toNat (v4_9 - 1)) = 1) ∧ (v5_3 < a2)) → (gc_ge 22 I7 v4_9) → gv_X (gc_E8 ws0 tb 2 (yX8_writeTree, cX8_writeTree, 6, none) kX8_writeTree) (gv_Q cX8_writeTree none sh (fun r h' => (∃ (I' : gr_I) (J' : gr_J), h' = gc_h sh I' J' A ∧ gc_Inv ro I' ∧ (∀ q j : Nat, ((q = a3 ∧ j = 1) ∨ q = (a3 + 1) ∨ q = 22) ∨ I' q j = I q j) ∧ (∀ q j : Nat, (False) ∨ J' q j = J q j) ∧ r = none))) (98, [(0, .inr (.inr (some 1))), (1, .inr (.inr (some a1))), (2, .inl a2), (3, .inr (.inr (some a3))), (4, .inl v4_9), (5, .inl v5_3)], [], sh, gc_h sh I7 J8 A) := by
            intro m_10 e2_10
            obtain ⟨ha2_10, hv4_9_10, hv5_3_10, e0_10, e1_10, e3_10⟩ := m_10
            refine gv_run 1 true hD (pc' := 100) (lv' := [(0, .inr (.inr (some 1))), (1, .inr (.inr (some a1))), (2, .inl a2), (3, .inr (.inr (some a3))), (4, .inl v4_9), (5, .inl v5_3)]) (st' := [.inl v4_9]) (h' := gc_h sh I7 J8 A) (C := (True ∧ True)) rfl ⟨trivial, trivial⟩ ?_
            refine gv_if_le (t := 122) hD rfl rfl ⟨by exact gz_m 4 (by omega), by exact gz_m 5 (by omega)⟩ (fun c11 => ?_) (fun c11 => ?_)
            · show gv_X _ _ (122, [(0, .inr (.inr (some 1))), (1, .inr (.inr (some a1))), (2, .inl a2), (3, .inr (.inr (some a3))), (4, .inl v4_9), (5, .inl v5_3)], [], sh, gc_h sh I7 J8 A)
              exact L122 I7 J8 v4_9 hI7 FI7 FJ8 (by exact gz_m 6 (by omega)) e2_10
            · show gv_X _ _ (103, [(0, .inr (.inr (some 1))), (1, .inr (.inr (some a1))), (2, .inl a2), (3, .inr (.inr (some a3))), (4, .inl v4_9), (5, .inl v5_3)], [], sh, gc_h sh I7 J8 A)
              refine gv_run 2 true hD (pc' := 106) (lv' := [(0, .inr (.inr (some 1))), (1, .inr (.inr (some a1))), (2, .inl a2), (3, .inr (.inr (some a3))), (4, .inl v4_9), (5, .inl v5_3)]) (st' := [.inl 44, .inr (.inr (some a3))]) (h' := gc_h sh I7 J8 A) (C := ((True ∧ True) ∧ True)) rfl ⟨⟨trivial, trivial⟩, trivial⟩ ?_
              obtain ⟨r12, h12, E12, P12⟩ := d_X9_put (ws0 := ws0) (tb := tb) hws htb sh ro I7 J8 A hI7 a3 44 h_a3   ⟨by exact gz_m 7 (by omega), by exact gz_m 8 (by omega)⟩  
              obtain ⟨I13, J14, rfl, hI13, g12, k12, rfl⟩ := P12
              have FI13 := gc_frc (W := fun q j => (q = a3 ∧ j = 1) ∨ q = (a3 + 1) ∨ q = 22) (V := fun q j => (q = a3 ∧ j = 1) ∨ q = (a3 + 1)) FI7 (fun q j h => (h.elim (fun h => (Or.inl h)) (fun h => (Or.inr (Or.inl h))))) g12
              obtain rfl : J8 = J14 := funext fun q => funext fun j => ((k12 q j).resolve_left id).symm
              refine gv_callV hD rfl (As := [.inl 44]) (st := []) rfl B_a3 S_a3 rfl (gc_lV8 hws rfl) (Nat.le_of_ble_eq_true rfl) (gz_Ev_mono (d := 1) (by decide) E12) ?_
              show gv_X _ _ (109, [(0, .inr (.inr (some 1))), (1, .inr (.inr (some a1))), (2, .inl a2), (3, .inr (.inr (some a3))), (4, .inl v4_9), (5, .inl v5_3)], [], sh, gc_h sh I13 J8 A)
              refine gv_run 1 true hD (pc' := 110) (lv' := [(0, .inr (.inr (some 1))), (1, .inr (.inr (some a1))), (2, .inl a2), (3, .inr (.inr (some a3))), (4, .inl v4_9), (5, .inl v5_3)]) (st' := [.inr (.inr (some 1))]) (h' := gc_h sh I13 J8 A) (C := (True ∧ True)) rfl ⟨trivial, trivial⟩ ?_
              refine gv_get hD rfl rfl S_1 ⟨by decide, B_1⟩ (gc_hA S_1 rfl A_1_20) ?_
              show gv_X _ _ (113, [(0, .inr (.inr (some 1))), (1, .inr (.inr (some a1))), (2, .inl a2), (3, .inr (.inr (some a3))), (4, .inl v4_9), (5, .inl v5_3)], [.inr (.inr (some 22))], sh, gc_h sh I13 J8 A)
              refine gv_run 3 true hD (pc' := 117) (lv' := [(0, .inr (.inr (some 1))), (1, .inr (.inr (some a1))), (2, .inl a2), (3, .inr (.inr (some a3))), (4, .inl v4_9), (5, .inl v5_3)]) (st' := [.inl (v4_9 - 1), .inr (.inr (some 22))]) (h' := gc_h sh I13 J8 A) (C := (((True ∧ True) ∧ True) ∧ True)) rfl ⟨⟨⟨trivial, trivial⟩, trivial⟩, trivial⟩ ?_
              have t15 := (gc_ge_fr e2_10 (fun k => (g12 22 k).resolve_left (by exact gz_m 9 (by omega)))) (v4_9 - 1) (by exact gz_m 10 (by omega)) (by exact gz_m 11 (by omega))
              have t16 := (g12 22 (Int.toNat (v4_9 - 1))).resolve_left (by exact gz_m 12 (by omega))
              refine gv_run 1 true hD (pc' := 118) (lv' := [(0, .inr (.inr (some 1))), (1, .inr (.inr (some a1))), (2, .inl a2), (3, .inr (.inr (some a3))), (4, .inl v4_9), (5, .inl v5_3)]) (st' := [.inl (v4_9 - 1), .inr (.inr (some 22)), .inl (v4_9 - 1), .inr (.inr (some 22))]) (h' := gc_h sh I13 J8 A) (C := (True ∧ True)) rfl ⟨trivial, trivial⟩ ?_
              have f17 := (show 0 ≤ I13 22 (Int.toNat (v4_9 - 1)) ∧ I13 22 (Int.toNat (v4_9 - 1)) ≤ 59 from gc_in hI13 R_22 rfl rfl)
              refine gv_iald hD rfl S_22 rfl ⟨by decide, B_22⟩ ⟨by exact gz_m 13 (by omega), by exact gz_m 14 (by omega)⟩ (gc_iI S_22 rfl) ?_
              show gv_X _ _ (119, [(0, .inr (.inr (some 1))), (1, .inr (.inr (some a1))), (2, .inl a2), (3, .inr (.inr (some a3))), (4, .inl v4_9), (5, .inl v5_3)], [.inl (I13 22 (Int.toNat (v4_9 - 1))), .inl (v4_9 - 1), .inr (.inr (some 22))], sh, gc_h sh I13 J8 A)
              refine gv_run 2 true hD (pc' := 121) (lv' := [(0, .inr (.inr (some 1))), (1, .inr (.inr (some a1))), (2, .inl a2), (3, .inr (.inr (some a3))), (4, .inl v4_9), (5, .inl v5_3)]) (st' := [.inl ((I13 22 (Int.toNat (v4_9 - 1))) - 1), .inl (v4_9 - 1), .inr (.inr (some 22))]) (h' := gc_h sh I13 J8 A) (C := ((True ∧ True) ∧ True)) rfl ⟨⟨trivial, trivial⟩, trivial⟩ ?_
              refine gv_iast hD rfl S_22 ⟨by decide, B_22⟩ ⟨by exact gz_m 15 (by omega), by exact gz_m 16 (by omega)⟩ ?_
              refine gc_st hI13 S_22 rfl R_22 (lo := 0) (hi := 59) rfl rfl (by exact gz_m 17 (by omega)) (by exact gz_m 18 (by omega)) (fun I18 hI18 q19 p19 => ?_)
              have FI18 := gc_frs (W := fun q j => (q = a3 ∧ j = 1) ∨ q = (a3 + 1) ∨ q = 22) FI13 (Or.inr (Or.inr rfl)) p19
              show gv_X _ _ (122, [(0, .inr (.inr (some 1))), (1, .inr (.inr (some a1))), (2, .inl a2), (3, .inr (.inr (some a3))), (4, .inl v4_9), (5, .inl v5_3)], [], sh, gc_h sh I18 J8 A)
              exact L122 I18 J8 v4_9 hI18 FI18 FJ8 (by exact gz_m 19 (by omega)) (gc_ge_set (gc_ge_fr e2_10 (fun k => (g12 22 k).resolve_left (by exact gz_m 20 (by omega)))) (by exact gz_m 21 (by omega)) p19 (by exact gz_m 22 (by omega)))
          refine gv_run 1 true hD (pc' := 70) (lv' := [(0, .inr (.inr (some 1))), (1, .inr (.inr (some a1))), (2, .inl a2), (3, .inr (.inr (some a3))), (4, .inl v4_9), (5, .inl v5_3)]) (st' := [.inl v4_9]) (h' := gc_h sh I7 J8 A) (C := (True ∧ True)) rfl ⟨trivial, trivial⟩ ?_
          refine gv_if_le (t := 98) hD rfl rfl ⟨by exact gz_m 23 (by omega), by exact gz_m 24 (by omega)⟩ (fun c20 => ?_) (fun c20 => ?_)
          · show gv_X _ _ (98, [(0, .inr (.inr (some 1))), (1, .inr (.inr (some a1))), (2, .inl a2), (3, .inr (.inr (some a3))), (4, .inl v4_9), (5, .inl v5_3)], [], sh, gc_h sh I7 J8 A)
            exact L98 (by exact gz_m 25 (by omega)) e1_9
          · show gv_X _ _ (73, [(0, .inr (.inr (some 1))), (1, .inr (.inr (some a1))), (2, .inl a2), (3, .inr (.inr (some a3))), (4, .inl v4_9), (5, .inl v5_3)], [], sh, gc_h sh I7 J8 A)
            refine gv_run 1 true hD (pc' := 74) (lv' := [(0, .inr (.inr (some 1))), (1, .inr (.inr (some a1))), (2, .inl a2), (3, .inr (.inr (some a3))), (4, .inl v4_9), (5, .inl v5_3)]) (st' := [.inr (.inr (some 1))]) (h' := gc_h sh I7 J8 A) (C := (True ∧ True)) rfl ⟨trivial, trivial⟩ ?_
            refine gv_get hD rfl rfl S_1 ⟨by decide, B_1⟩ (gc_hA S_1 rfl A_1_20) ?_
            show gv_X _ _ (77, [(0, .inr (.inr (some 1))), (1, .inr (.inr (some a1))), (2, .inl a2), (3, .inr (.inr (some a3))), (4, .inl v4_9), (5, .inl v5_3)], [.inr (.inr (some 22))], sh, gc_h sh I7 J8 A)
            refine gv_run 3 true hD (pc' := 81) (lv' := [(0, .inr (.inr (some 1))), (1, .inr (.inr (some a1))), (2, .inl a2), (3, .inr (.inr (some a3))), (4, .inl v4_9), (5, .inl v5_3)]) (st' := [.inl (v4_9 - 1), .inr (.inr (some 22))]) (h' := gc_h sh I7 J8 A) (C := (((True ∧ True) ∧ True) ∧ True)) rfl ⟨⟨⟨trivial, trivial⟩, trivial⟩, trivial⟩ ?_
            have f21 := (show 0 ≤ I7 22 (Int.toNat (v4_9 - 1)) ∧ I7 22 (Int.toNat (v4_9 - 1)) ≤ 59 from gc_in hI7 R_22 rfl rfl)
            refine gv_iald hD rfl S_22 rfl ⟨by decide, B_22⟩ ⟨by exact gz_m 26 (by omega), by exact gz_m 27 (by omega)⟩ (gc_iI S_22 rfl) ?_
            show gv_X _ _ (82, [(0, .inr (.inr (some 1))), (1, .inr (.inr (some a1))), (2, .inl a2), (3, .inr (.inr (some a3))), (4, .inl v4_9), (5, .inl v5_3)], [.inl (I7 22 (Int.toNat (v4_9 - 1)))], sh, gc_h sh I7 J8 A)
            refine gv_run 1 true hD (pc' := 83) (lv' := [(0, .inr (.inr (some 1))), (1, .inr (.inr (some a1))), (2, .inl a2), (3, .inr (.inr (some a3))), (4, .inl v4_9), (5, .inl v5_3)]) (st' := [.inl 1, .inl (I7 22 (Int.toNat (v4_9 - 1)))]) (h' := gc_h sh I7 J8 A) (C := (True ∧ True)) rfl ⟨trivial, trivial⟩ ?_
            refine gv_icmp_ne (t := 98) hD rfl rfl ⟨⟨by exact gz_m 28 (by omega), by exact gz_m 29 (by omega)⟩, ⟨by exact gz_m 30 (by omega), by exact gz_m 31 (by omega)⟩⟩ (fun c22 => ?_) (fun c22 => ?_)
            · show gv_X _ _ (98, [(0, .inr (.inr (some 1))), (1, .inr (.inr (some a1))), (2, .inl a2), (3, .inr (.inr (some a3))), (4, .inl v4_9), (5, .inl v5_3)], [], sh, gc_h sh I7 J8 A)
              exact L98 (by exact gz_m 32 (by omega)) e1_9
            · show gv_X _ _ (86, [(0, .inr (.inr (some 1))), (1, .inr (.inr (some a1))), (2, .inl a2), (3, .inr (.inr (some a3))), (4, .inl v4_9), (5, .inl v5_3)], [], sh, gc_h sh I7 J8 A)
              refine gv_run 2 true hD (pc' := 89) (lv' := [(0, .inr (.inr (some 1))), (1, .inr (.inr (some a1))), (2, .inl a2), (3, .inr (.inr (some a3))), (4, .inl v4_9), (5, .inl v5_3)]) (st' := [.inl 41, .inr (.inr (some a3))]) (h' := gc_h sh I7 J8 A) (C := ((True ∧ True) ∧ True)) rfl ⟨⟨trivial, trivial⟩, trivial⟩ ?_
              obtain ⟨r23, h23, E23, P23⟩ := d_X9_put (ws0 := ws0) (tb := tb) hws htb sh ro I7 J8 A hI7 a3 41 h_a3   ⟨by exact gz_m 33 (by omega), by exact gz_m 34 (by omega)⟩  
              obtain ⟨I24, J25, rfl, hI24, g23, k23, rfl⟩ := P23
              have FI24 := gc_frc (W := fun q j => (q = a3 ∧ j = 1) ∨ q = (a3 + 1) ∨ q = 22) (V := fun q j => (q = a3 ∧ j = 1) ∨ q = (a3 + 1)) FI7 (fun q j h => (h.elim (fun h => (Or.inl h)) (fun h => (Or.inr (Or.inl h))))) g23
              obtain rfl : J8 = J25 := funext fun q => funext fun j => ((k23 q j).resolve_left id).symm
              refine gv_callV hD rfl (As := [.inl 41]) (st := []) rfl B_a3 S_a3 rfl (gc_lV8 hws rfl) (Nat.le_of_ble_eq_true rfl) (gz_Ev_mono (d := 1) (by decide) E23) ?_
              show gv_X _ _ (92, [(0, .inr (.inr (some 1))), (1, .inr (.inr (some a1))), (2, .inl a2), (3, .inr (.inr (some a3))), (4, .inl v4_9), (5, .inl v5_3)], [], sh, gc_h sh I24 J8 A)
              refine gv_run 2 true hD (pc' := 68) (lv' := [(4, .inl (v4_9 + (-1))), (0, .inr (.inr (some 1))), (1, .inr (.inr (some a1))), (2, .inl a2), (3, .inr (.inr (some a3))), (5, .inl v5_3)]) (st' := []) (h' := gc_h sh I24 J8 A) (C := ((True ∧ True) ∧ True)) rfl ⟨⟨trivial, trivial⟩, trivial⟩ ?_
              refine gv_pick [1, 2, 3, 4, 0, 5] rfl ?_
              exact ih68 I24 J8 ((v4_9 + (-1))) (by exact gz_m 35 (by omega)) hI24 FI24 FJ8 (by exact gz_m 36 (by omega)) (gc_ge_pop (gc_ge_fr e1_9 (fun k => (g23 22 k).resolve_left (by exact gz_m 37 (by omega)))))
      refine gv_run 2 true hD (pc' := 9) (lv' := [(0, .inr (.inr (some 1))), (1, .inr (.inr (some a1))), (2, .inl a2), (3, .inr (.inr (some a3))), (4, .inl v4_3), (5, .inl v5_3)]) (st' := [.inl a2, .inl v5_3]) (h' := gc_h sh I1 J2 A) (C := ((True ∧ True) ∧ True)) rfl ⟨⟨trivial, trivial⟩, trivial⟩ ?_
      refine gv_icmp_ge (t := 128) hD rfl rfl ⟨⟨by exact gz_m 38 (by omega), by exact gz_m 39 (by omega)⟩, ⟨by exact gz_m 40 (by omega), by exact gz_m 41 (by omega)⟩⟩ (fun c26 => ?_) (fun c26 => ?_)
      · show gv_X _ _ (128, [(0, .inr (.inr (some 1))), (1, .inr (.inr (some a1))), (2, .inl a2), (3, .inr (.inr (some a3))), (4, .inl v4_3), (5, .inl v5_3)], [], sh, gc_h sh I1 J2 A)
        exact gv_vret hD rfl ⟨I1, J2, rfl, hI1, FI1, FJ2, rfl⟩
      · show gv_X _ _ (12, [(0, .inr (.inr (some 1))), (1, .inr (.inr (some a1))), (2, .inl a2), (3, .inr (.inr (some a3))), (4, .inl v4_3), (5, .inl v5_3)], [], sh, gc_h sh I1 J2 A)
        refine gv_run 2 true hD (pc' := 14) (lv' := [(0, .inr (.inr (some 1))), (1, .inr (.inr (some a1))), (2, .inl a2), (3, .inr (.inr (some a3))), (4, .inl v4_3), (5, .inl v5_3)]) (st' := [.inr (.inr (some 1)), .inr (.inr (some a3))]) (h' := gc_h sh I1 J2 A) (C := ((True ∧ True) ∧ True)) rfl ⟨⟨trivial, trivial⟩, trivial⟩ ?_
        refine gv_get hD rfl rfl S_1 ⟨by decide, B_1⟩ (gc_hA S_1 rfl A_1_1) ?_
        show gv_X _ _ (17, [(0, .inr (.inr (some 1))), (1, .inr (.inr (some a1))), (2, .inl a2), (3, .inr (.inr (some a3))), (4, .inl v4_3), (5, .inl v5_3)], [.inr (.inr (some 4)), .inr (.inr (some a3))], sh, gc_h sh I1 J2 A)
        refine gv_get hD rfl rfl S_4 ⟨by decide, B_4⟩ (gc_hA S_4 rfl A_4_0) ?_
        show gv_X _ _ (20, [(0, .inr (.inr (some 1))), (1, .inr (.inr (some a1))), (2, .inl a2), (3, .inr (.inr (some a3))), (4, .inl v4_3), (5, .inl v5_3)], [.inr (.inr (some 5)), .inr (.inr (some a3))], sh, gc_h sh I1 J2 A)
        refine gv_run 2 true hD (pc' := 23) (lv' := [(0, .inr (.inr (some 1))), (1, .inr (.inr (some a1))), (2, .inl a2), (3, .inr (.inr (some a3))), (4, .inl v4_3), (5, .inl v5_3)]) (st' := [.inl v5_3, .inr (.inr (some a1)), .inr (.inr (some 5)), .inr (.inr (some a3))]) (h' := gc_h sh I1 J2 A) (C := ((True ∧ True) ∧ True)) rfl ⟨⟨trivial, trivial⟩, trivial⟩ ?_
        have f27 := (show 0 ≤ I1 a1 (Int.toNat v5_3) ∧ I1 a1 (Int.toNat v5_3) ≤ 95 from gc_in hI1 R_a1 rfl rfl)
        refine gv_iald hD rfl S_a1 rfl ⟨by exact gz_m 42 (by omega), B_a1⟩ ⟨by exact gz_m 43 (by omega), by exact gz_m 44 (by omega)⟩ (gc_iI S_a1 rfl) ?_
        show gv_X _ _ (24, [(0, .inr (.inr (some 1))), (1, .inr (.inr (some a1))), (2, .inl a2), (3, .inr (.inr (some a3))), (4, .inl v4_3), (5, .inl v5_3)], [.inl (I1 a1 (Int.toNat v5_3)), .inr (.inr (some 5)), .inr (.inr (some a3))], sh, gc_h sh I1 J2 A)
        refine gv_lald hD rfl S_5 rfl ⟨by decide, B_5⟩ ⟨by exact gz_m 45 (by omega), by exact gz_m 46 (by omega)⟩ (gc_jJ S_5 rfl) ?_
        show gv_X _ _ (25, [(0, .inr (.inr (some 1))), (1, .inr (.inr (some a1))), (2, .inl a2), (3, .inr (.inr (some a3))), (4, .inl v4_3), (5, .inl v5_3)], [.inr (.inl (J2 5 (Int.toNat ((I1 a1 (Int.toNat v5_3)))))), .inr (.inr (some a3))], sh, gc_h sh I1 J2 A)
        obtain ⟨r28, h28, E28, P28⟩ := d_X9_putName (ws0 := ws0) (tb := tb) hws htb sh ro I1 J2 A hI1 a3 ((J2 5 (Int.toNat ((I1 a1 (Int.toNat v5_3)))))) h_a3     
        obtain ⟨I29, J30, rfl, hI29, g28, k28, rfl⟩ := P28
        have FI29 := gc_frc (W := fun q j => (q = a3 ∧ j = 1) ∨ q = (a3 + 1) ∨ q = 22) (V := fun q j => (q = a3 ∧ j = 1) ∨ q = (a3 + 1)) FI1 (fun q j h => (h.elim (fun h => (Or.inl h)) (fun h => (Or.inr (Or.inl h))))) g28
        obtain rfl : J2 = J30 := funext fun q => funext fun j => ((k28 q j).resolve_left id).symm
        refine gv_callV hD rfl (As := [.inr (.inl (J2 5 (Int.toNat ((I1 a1 (Int.toNat v5_3))))))]) (st := []) rfl B_a3 S_a3 rfl (gc_lV8 hws rfl) (Nat.le_of_ble_eq_true rfl) (gz_Ev_mono (d := 2) (by decide) E28) ?_
        show gv_X _ _ (28, [(0, .inr (.inr (some 1))), (1, .inr (.inr (some a1))), (2, .inl a2), (3, .inr (.inr (some a3))), (4, .inl v4_3), (5, .inl v5_3)], [], sh, gc_h sh I29 J2 A)
        refine gv_run 1 true hD (pc' := 29) (lv' := [(0, .inr (.inr (some 1))), (1, .inr (.inr (some a1))), (2, .inl a2), (3, .inr (.inr (some a3))), (4, .inl v4_3), (5, .inl v5_3)]) (st' := [.inr (.inr (some 1))]) (h' := gc_h sh I29 J2 A) (C := (True ∧ True)) rfl ⟨trivial, trivial⟩ ?_
        refine gv_get hD rfl rfl S_1 ⟨by decide, B_1⟩ (gc_hA S_1 rfl A_1_7) ?_
        show gv_X _ _ (32, [(0, .inr (.inr (some 1))), (1, .inr (.inr (some a1))), (2, .inl a2), (3, .inr (.inr (some a3))), (4, .inl v4_3), (5, .inl v5_3)], [.inr (.inr (some 12))], sh, gc_h sh I29 J2 A)
        refine gv_run 2 true hD (pc' := 35) (lv' := [(0, .inr (.inr (some 1))), (1, .inr (.inr (some a1))), (2, .inl a2), (3, .inr (.inr (some a3))), (4, .inl v4_3), (5, .inl v5_3)]) (st' := [.inl v5_3, .inr (.inr (some a1)), .inr (.inr (some 12))]) (h' := gc_h sh I29 J2 A) (C := ((True ∧ True) ∧ True)) rfl ⟨⟨trivial, trivial⟩, trivial⟩ ?_
        have f31 := (show 0 ≤ I29 a1 (Int.toNat v5_3) ∧ I29 a1 (Int.toNat v5_3) ≤ 95 from gc_in hI29 R_a1 rfl rfl)
        refine gv_iald hD rfl S_a1 rfl ⟨by exact gz_m 47 (by omega), B_a1⟩ ⟨by exact gz_m 48 (by omega), by exact gz_m 49 (by omega)⟩ (gc_iI S_a1 rfl) ?_
        show gv_X _ _ (36, [(0, .inr (.inr (some 1))), (1, .inr (.inr (some a1))), (2, .inl a2), (3, .inr (.inr (some a3))), (4, .inl v4_3), (5, .inl v5_3)], [.inl (I29 a1 (Int.toNat v5_3)), .inr (.inr (some 12))], sh, gc_h sh I29 J2 A)
        have f32 := (show 0 ≤ I29 12 (Int.toNat ((I29 a1 (Int.toNat v5_3)))) ∧ I29 12 (Int.toNat ((I29 a1 (Int.toNat v5_3)))) ≤ 4 from gc_in hI29 R_12 rfl rfl)
        refine gv_iald hD rfl S_12 rfl ⟨by decide, B_12⟩ ⟨by exact gz_m 50 (by omega), by exact gz_m 51 (by omega)⟩ (gc_iI S_12 rfl) ?_
        show gv_X _ _ (37, [(0, .inr (.inr (some 1))), (1, .inr (.inr (some a1))), (2, .inl a2), (3, .inr (.inr (some a3))), (4, .inl v4_3), (5, .inl v5_3)], [.inl (I29 12 (Int.toNat ((I29 a1 (Int.toNat v5_3)))))], sh, gc_h sh I29 J2 A)
        refine gv_if_le (t := 68) hD rfl rfl ⟨by exact gz_m 52 (by omega), by exact gz_m 53 (by omega)⟩ (fun c33 => ?_) (fun c33 => ?_)
        · show gv_X _ _ (68, [(0, .inr (.inr (some 1))), (1, .inr (.inr (some a1))), (2, .inl a2), (3, .inr (.inr (some a3))), (4, .inl v4_3), (5, .inl v5_3)], [], sh, gc_h sh I29 J2 A)
          exact L68 _ I29 J2 v4_3 (Nat.lt_succ_self _) hI29 FI29 FJ2 (by exact gz_m 54 (by omega)) (gc_ge_fr e0_3 (fun k => (g28 22 k).resolve_left (by exact gz_m 55 (by omega))))
        · show gv_X _ _ (40, [(0, .inr (.inr (some 1))), (1, .inr (.inr (some a1))), (2, .inl a2), (3, .inr (.inr (some a3))), (4, .inl v4_3), (5, .inl v5_3)], [], sh, gc_h sh I29 J2 A)
          refine gv_run 2 true hD (pc' := 43) (lv' := [(0, .inr (.inr (some 1))), (1, .inr (.inr (some a1))), (2, .inl a2), (3, .inr (.inr (some a3))), (4, .inl v4_3), (5, .inl v5_3)]) (st' := [.inl 40, .inr (.inr (some a3))]) (h' := gc_h sh I29 J2 A) (C := ((True ∧ True) ∧ True)) rfl ⟨⟨trivial, trivial⟩, trivial⟩ ?_
          obtain ⟨r34, h34, E34, P34⟩ := d_X9_put (ws0 := ws0) (tb := tb) hws htb sh ro I29 J2 A hI29 a3 40 h_a3   ⟨by exact gz_m 56 (by omega), by exact gz_m 57 (by omega)⟩  
          obtain ⟨I35, J36, rfl, hI35, g34, k34, rfl⟩ := P34
          have FI35 := gc_frc (W := fun q j => (q = a3 ∧ j = 1) ∨ q = (a3 + 1) ∨ q = 22) (V := fun q j => (q = a3 ∧ j = 1) ∨ q = (a3 + 1)) FI29 (fun q j h => (h.elim (fun h => (Or.inl h)) (fun h => (Or.inr (Or.inl h))))) g34
          obtain rfl : J2 = J36 := funext fun q => funext fun j => ((k34 q j).resolve_left id).symm
          refine gv_callV hD rfl (As := [.inl 40]) (st := []) rfl B_a3 S_a3 rfl (gc_lV8 hws rfl) (Nat.le_of_ble_eq_true rfl) (gz_Ev_mono (d := 1) (by decide) E34) ?_
          show gv_X _ _ (46, [(0, .inr (.inr (some 1))), (1, .inr (.inr (some a1))), (2, .inl a2), (3, .inr (.inr (some a3))), (4, .inl v4_3), (5, .inl v5_3)], [], sh, gc_h sh I35 J2 A)
          refine gv_run 1 true hD (pc' := 47) (lv' := [(0, .inr (.inr (some 1))), (1, .inr (.inr (some a1))), (2, .inl a2), (3, .inr (.inr (some a3))), (4, .inl v4_3), (5, .inl v5_3)]) (st' := [.inr (.inr (some 1))]) (h' := gc_h sh I35 J2 A) (C := (True ∧ True)) rfl ⟨trivial, trivial⟩ ?_
          refine gv_get hD rfl rfl S_1 ⟨by decide, B_1⟩ (gc_hA S_1 rfl A_1_20) ?_
          show gv_X _ _ (50, [(0, .inr (.inr (some 1))), (1, .inr (.inr (some a1))), (2, .inl a2), (3, .inr (.inr (some a3))), (4, .inl v4_3), (5, .inl v5_3)], [.inr (.inr (some 22))], sh, gc_h sh I35 J2 A)
          refine gv_run 3 true hD (pc' := 56) (lv' := [(4, .inl (v4_3 + 1)), (0, .inr (.inr (some 1))), (1, .inr (.inr (some a1))), (2, .inl a2), (3, .inr (.inr (some a3))), (5, .inl v5_3)]) (st' := [.inr (.inr (some 1)), .inl v4_3, .inr (.inr (some 22))]) (h' := gc_h sh I35 J2 A) (C := (((True ∧ True) ∧ True) ∧ True)) rfl ⟨⟨⟨trivial, trivial⟩, trivial⟩, trivial⟩ ?_
          refine gv_get hD rfl rfl S_1 ⟨by decide, B_1⟩ (gc_hA S_1 rfl A_1_7) ?_
          show gv_X _ _ (59, [(4, .inl (v4_3 + 1)), (0, .inr (.inr (some 1))), (1, .inr (.inr (some a1))), (2, .inl a2), (3, .inr (.inr (some a3))), (5, .inl v5_3)], [.inr (.inr (some 12)), .inl v4_3, .inr (.inr (some 22))], sh, gc_h sh I35 J2 A)
          refine gv_run 2 true hD (pc' := 62) (lv' := [(4, .inl (v4_3 + 1)), (0, .inr (.inr (some 1))), (1, .inr (.inr (some a1))), (2, .inl a2), (3, .inr (.inr (some a3))), (5, .inl v5_3)]) (st' := [.inl v5_3, .inr (.inr (some a1)), .inr (.inr (some 12)), .inl v4_3, .inr (.inr (some 22))]) (h' := gc_h sh I35 J2 A) (C := ((True ∧ True) ∧ True)) rfl ⟨⟨trivial, trivial⟩, trivial⟩ ?_
          have f37 := (show 0 ≤ I35 a1 (Int.toNat v5_3) ∧ I35 a1 (Int.toNat v5_3) ≤ 95 from gc_in hI35 R_a1 rfl rfl)
          refine gv_iald hD rfl S_a1 rfl ⟨by exact gz_m 58 (by omega), B_a1⟩ ⟨by exact gz_m 59 (by omega), by exact gz_m 60 (by omega)⟩ (gc_iI S_a1 rfl) ?_
          show gv_X _ _ (63, [(4, .inl (v4_3 + 1)), (0, .inr (.inr (some 1))), (1, .inr (.inr (some a1))), (2, .inl a2), (3, .inr (.inr (some a3))), (5, .inl v5_3)], [.inl (I35 a1 (Int.toNat v5_3)), .inr (.inr (some 12)), .inl v4_3, .inr (.inr (some 22))], sh, gc_h sh I35 J2 A)
          have f38 := (show 0 ≤ I35 12 (Int.toNat ((I35 a1 (Int.toNat v5_3)))) ∧ I35 12 (Int.toNat ((I35 a1 (Int.toNat v5_3)))) ≤ 4 from gc_in hI35 R_12 rfl rfl)
          refine gv_iald hD rfl S_12 rfl ⟨by decide, B_12⟩ ⟨by exact gz_m 61 (by omega), by exact gz_m 62 (by omega)⟩ (gc_iI S_12 rfl) ?_
          show gv_X _ _ (64, [(4, .inl (v4_3 + 1)), (0, .inr (.inr (some 1))), (1, .inr (.inr (some a1))), (2, .inl a2), (3, .inr (.inr (some a3))), (5, .inl v5_3)], [.inl (I35 12 (Int.toNat ((I35 a1 (Int.toNat v5_3))))), .inl v4_3, .inr (.inr (some 22))], sh, gc_h sh I35 J2 A)
          have t39 := (show I35 12 (Int.toNat (I35 a1 (Int.toNat v5_3))) = I29 12 (Int.toNat (I29 a1 (Int.toNat v5_3))) from by rw [show I35 a1 (Int.toNat v5_3) = I29 a1 (Int.toNat v5_3) from ((g34 a1 (Int.toNat v5_3)).resolve_left (by exact gz_m 63 (by omega)))]; exact ((g34 12 _).resolve_left (by exact gz_m 64 (by omega))))
          refine gv_iast hD rfl S_22 ⟨by decide, B_22⟩ ⟨by exact gz_m 65 (by omega), by exact gz_m 66 (by omega)⟩ ?_
          refine gc_st hI35 S_22 rfl R_22 (lo := 0) (hi := 59) rfl rfl (by exact gz_m 67 (by omega)) (by exact gz_m 68 (by omega)) (fun I40 hI40 q41 p41 => ?_)
          have FI40 := gc_frs (W := fun q j => (q = a3 ∧ j = 1) ∨ q = (a3 + 1) ∨ q = 22) FI35 (Or.inr (Or.inr rfl)) p41
          show gv_X _ _ (65, [(4, .inl (v4_3 + 1)), (0, .inr (.inr (some 1))), (1, .inr (.inr (some a1))), (2, .inl a2), (3, .inr (.inr (some a3))), (5, .inl v5_3)], [], sh, gc_h sh I40 J2 A)
          refine gv_run 1 true hD (pc' := 122) (lv' := [(4, .inl (v4_3 + 1)), (0, .inr (.inr (some 1))), (1, .inr (.inr (some a1))), (2, .inl a2), (3, .inr (.inr (some a3))), (5, .inl v5_3)]) (st' := []) (h' := gc_h sh I40 J2 A) (C := (True ∧ True)) rfl ⟨trivial, trivial⟩ ?_
          refine gv_pick [1, 2, 3, 4, 0, 5] rfl ?_
          exact L122 I40 J2 (v4_3 + 1) hI40 FI40 FJ2 (by exact gz_m 69 (by omega)) (gc_ge_push (gc_ge_fr (gc_ge_fr e0_3 (fun k => (g28 22 k).resolve_left (by exact gz_m 70 (by omega)))) (fun k => (g34 22 k).resolve_left (by exact gz_m 71 (by omega)))) (by exact gz_m 72 (by omega)) p41 (by exact gz_m 73 (by omega)))
  refine gv_run 4 true hD (pc' := 6) (lv' := [(5, .inl 0), (4, .inl 0), (0, .inr (.inr (some 1))), (1, .inr (.inr (some a1))), (2, .inl a2), (3, .inr (.inr (some a3)))]) (st' := []) (h' := gc_h sh I J A) (C := ((((True ∧ True) ∧ True) ∧ True) ∧ True)) rfl ⟨⟨⟨⟨trivial, trivial⟩, trivial⟩, trivial⟩, trivial⟩ ?_
  refine gv_pick [2, 3, 4, 5, 1, 0] rfl ?_
  exact L6 _ I J 0 0 (Nat.lt_succ_self _) hI FI FJ (by exact gz_m 74 (by omega)) (fun k a b => by exact gz_m 75 (by omega))
