set_option maxHeartbeats 8000000 in
set_option maxRecDepth 100000 in
theorem d_X10_judge {ws0 : List Cond} {tb : String → gz_T} (hws : gc_Ws ws0) (htb : gc_tbs tb) (sh : gz_Sh) (ro : Nat → Nat) (I : gr_I) (J : gr_J) (A : gc_A) (hI : gc_Inv ro I)  (hb : gc_Base sh ro A)  (x0 : gc_TC (I (86 + 1 + 2 * Int.toNat (I 86 2))) (I 86 1)) : ∃ r h', gz_Ev ws0 tb 4 (yX10_judge, cX10_judge, 4, (some .int)) [.inr (.inr (some 86))] sh (gc_h sh I J A) r sh h' 0 0 ∧ (∃ (I' : gr_I) (J' : gr_J), h' = gc_h sh I' J' A ∧ gc_Inv ro I' ∧ (∀ q j : Nat, (q = 95 ∨ q = 96 ∨ q = 98 ∨ (q = 86 ∧ j = 9) ∨ (q = 86 ∧ j = 16) ∨ (q = 86 ∧ j = 17) ∨ (q = 86 ∧ j = 18) ∨ q = 97 ∨ q = 99) ∨ I' q j = I q j) ∧ (∀ q j : Nat, (q = 94) ∨ J' q j = J q j) ∧ (∃ z : Int, r = some (.inl z) ∧ (-3) ≤ z ∧ z ≤ 1)) := by
  have FI : ∀ q j : Nat, (q = 95 ∨ q = 96 ∨ q = 98 ∨ (q = 86 ∧ j = 9) ∨ (q = 86 ∧ j = 16) ∨ (q = 86 ∧ j = 17) ∨ (q = 86 ∧ j = 18) ∨ q = 97 ∨ q = 99) ∨ I q j = I q j := fun _ _ => Or.inr rfl
  have FJ : ∀ q j : Nat, (q = 94) ∨ J q j = J q j := fun _ _ => Or.inr rfl
  have B_86 : 86 < 1000000 := by decide
  have R_86 : ro 86 = 74 := gc_bR hb (by decide) rfl
  have S_86 : sh[86]? = some (false, 10, 19) := gc_bS hb rfl
  have hD : gv_D (gc_E10 ws0 tb 3 (yX10_judge, cX10_judge, 4, (some .int)) kX10_judge) := gq_of oX10_judge
  refine gc_ev10 (d := 3) (l := kX10_judge) (Po := fun r h' => (∃ (I' : gr_I) (J' : gr_J), h' = gc_h sh I' J' A ∧ gc_Inv ro I' ∧ (∀ q j : Nat, (q = 95 ∨ q = 96 ∨ q = 98 ∨ (q = 86 ∧ j = 9) ∨ (q = 86 ∧ j = 16) ∨ (q = 86 ∧ j = 17) ∨ (q = 86 ∧ j = 18) ∨ q = 97 ∨ q = 99) ∨ I' q j = I q j) ∧ (∀ q j : Nat, (q = 94) ∨ J' q j = J q j) ∧ (∃ z : Int, r = some (.inl z) ∧ (-3) ≤ z ∧ z ≤ 1))) htb rfl (Nat.le_of_ble_eq_true rfl) ?_
  have f1 := (show 0 ≤ I 86 1 ∧ I 86 1 ≤ 300 from gc_in hI R_86 rfl rfl)
  have f2 := (show 0 ≤ I 86 2 ∧ I 86 2 ≤ 1 from gc_in hI R_86 rfl rfl)
  have f3 := (show 0 ≤ I 86 9 ∧ I 86 9 ≤ 300 from gc_in hI R_86 rfl rfl)
  have f4 := (show (-1) ≤ I 86 16 ∧ I 86 16 ≤ 301 from gc_in hI R_86 rfl rfl)
  have f5 := (show 0 ≤ I 86 17 ∧ I 86 17 ≤ 300 from gc_in hI R_86 rfl rfl)
  have L26 : ∀ (n9 : Nat) (I6 : gr_I) (J7 : gr_J) (v1_8 : Int) (v2_8 : Int) (v3_8 : Int), (2000001 - v3_8).toNat < n9 → gc_Inv ro I6 → (∀ q j : Nat, (q = 95 ∨ q = 96 ∨ q = 98 ∨ (q = 86 ∧ j = 9) ∨ (q = 86 ∧ j = 16) ∨ (q = 86 ∧ j = 17) ∨ (q = 86 ∧ j = 18) ∨ q = 97 ∨ q = 99) ∨ I6 q j = I q j) → (∀ q j : Nat, (q = 94) ∨ J7 q j = J q j) → ((0 ≤ v1_8 ∧ v1_8 ≤ 20000) ∧ ((-1) ≤ v2_8 ∧ v2_8 ≤ 1) ∧ (0 ≤ v3_8 ∧ v3_8 ≤ 2000000) ∧ (0 ≤ v2_8 ∨ (I6 86 17 ≤ I6 86 9 ∧ I6 86 9 ≤ I6 86 16)) ∧ (I6 86 1 = I 86 1) ∧ (I6 86 2 = I 86 2)) → (gc_OP J7 I6) → gv_X (gc_E10 ws0 tb 3 (yX10_judge, cX10_judge, 4, (some .int)) kX10_judge) (gv_Q cX10_judge (some .int) sh (fun r h' => (∃ (I' : gr_I) (J' : gr_J), h' = gc_h sh I' J' A ∧ gc_Inv ro I' ∧ (∀ q j : Nat, (q = 95 ∨ q = 96 ∨ q = 98 ∨ (q = 86 ∧ j = 9) ∨ (q = 86 ∧ j = 16) ∨ (q = 86 ∧ j = 17) ∨ (q = 86 ∧ j = 18) ∨ q = 97 ∨ q = 99) ∨ I' q j = I q j) ∧ (∀ q j : Nat, (q = 94) ∨ J' q j = J q j) ∧ (∃ z : Int, r = some (.inl z) ∧ (-3) ≤ z ∧ z ≤ 1)))) (26, [(0, .inr (.inr (some 86))), (1, .inl v1_8), (2, .inl v2_8), (3, .inl v3_8)], [], sh, gc_h sh I6 J7 A) := by
    intro n9
    induction n9 with
    | zero => intro I6 J7 v1_8 v2_8 v3_8 hn; exact gz_m 0 (by omega)
    | succ n9 ih26 =>
      intro I6 J7 v1_8 v2_8 v3_8 hn hI6 FI6 FJ7 m_8 e0_8
      obtain ⟨hv1_8, hv2_8, hv3_8, e1_8, e2_8, e3_8⟩ := m_8
      have f9 := (show 0 ≤ I6 86 1 ∧ I6 86 1 ≤ 300 from gc_in hI6 R_86 rfl rfl)
      have f10 := (show 0 ≤ I6 86 2 ∧ I6 86 2 ≤ 1 from gc_in hI6 R_86 rfl rfl)
      have f11 := (show 0 ≤ I6 86 9 ∧ I6 86 9 ≤ 300 from gc_in hI6 R_86 rfl rfl)
      have f12 := (show (-1) ≤ I6 86 16 ∧ I6 86 16 ≤ 301 from gc_in hI6 R_86 rfl rfl)
      have f13 := (show 0 ≤ I6 86 17 ∧ I6 86 17 ≤ 300 from gc_in hI6 R_86 rfl rfl)
      have L56 : ∀ (s0_14 : Int), (((-3) ≤ s0_14 ∧ s0_14 ≤ 1)) → gv_X (gc_E10 ws0 tb 3 (yX10_judge, cX10_judge, 4, (some .int)) kX10_judge) (gv_Q cX10_judge (some .int) sh (fun r h' => (∃ (I' : gr_I) (J' : gr_J), h' = gc_h sh I' J' A ∧ gc_Inv ro I' ∧ (∀ q j : Nat, (q = 95 ∨ q = 96 ∨ q = 98 ∨ (q = 86 ∧ j = 9) ∨ (q = 86 ∧ j = 16) ∨ (q = 86 ∧ j = 17) ∨ (q = 86 ∧ j = 18) ∨ q = 97 ∨ q = 99) ∨ I' q j = I q j) ∧ (∀ q j : Nat, (q = 94) ∨ J' q j = J q j) ∧ (∃ z : Int, r = some (.inl z) ∧ (-3) ≤ z ∧ z ≤ 1)))) (56, [], [.inl s0_14], sh, gc_h sh I6 J7 A) := by
        intro s0_14 m_14
        have hs0_14 := m_14
        have f15 := (show 0 ≤ I6 86 1 ∧ I6 86 1 ≤ 300 from gc_in hI6 R_86 rfl rfl)
        have f16 := (show 0 ≤ I6 86 2 ∧ I6 86 2 ≤ 1 from gc_in hI6 R_86 rfl rfl)
        have f17 := (show 0 ≤ I6 86 9 ∧ I6 86 9 ≤ 300 from gc_in hI6 R_86 rfl rfl)
        have f18 := (show (-1) ≤ I6 86 16 ∧ I6 86 16 ≤ 301 from gc_in hI6 R_86 rfl rfl)
        have f19 := (show 0 ≤ I6 86 17 ∧ I6 86 17 ≤ 300 from gc_in hI6 R_86 rfl rfl)
        exact gv_iret hD rfl ⟨I6, J7, rfl, hI6, FI6, FJ7, ⟨_, rfl, by exact gz_m 1 (by omega)⟩⟩
      have L83 : ∀ (I20 : gr_I) (J21 : gr_J) (v1_22 : Int) (v2_22 : Int), gc_Inv ro I20 → (∀ q j : Nat, (q = 95 ∨ q = 96 ∨ q = 98 ∨ (q = 86 ∧ j = 9) ∨ (q = 86 ∧ j = 16) ∨ (q = 86 ∧ j = 17) ∨ (q = 86 ∧ j = 18) ∨ q = 97 ∨ q = 99) ∨ I20 q j = I q j) → (∀ q j : Nat, (q = 94) ∨ J21 q j = J q j) → ((0 ≤ v1_22 ∧ v1_22 ≤ 20000) ∧ ((-1) ≤ v2_22 ∧ v2_22 ≤ 1) ∧ (0 ≤ v3_8 ∧ v3_8 ≤ 1999999) ∧ (0 ≤ v2_22 ∨ (I20 86 17 ≤ I20 86 9 ∧ I20 86 9 ≤ I20 86 16)) ∧ (I20 86 1 = I 86 1) ∧ (I20 86 2 = I 86 2)) → (gc_OP J21 I20) → gv_X (gc_E10 ws0 tb 3 (yX10_judge, cX10_judge, 4, (some .int)) kX10_judge) (gv_Q cX10_judge (some .int) sh (fun r h' => (∃ (I' : gr_I) (J' : gr_J), h' = gc_h sh I' J' A ∧ gc_Inv ro I' ∧ (∀ q j : Nat, (q = 95 ∨ q = 96 ∨ q = 98 ∨ (q = 86 ∧ j = 9) ∨ (q = 86 ∧ j = 16) ∨ (q = 86 ∧ j = 17) ∨ (q = 86 ∧ j = 18) ∨ q = 97 ∨ q = 99) ∨ I' q j = I q j) ∧ (∀ q j : Nat, (q = 94) ∨ J' q j = J q j) ∧ (∃ z : Int, r = some (.inl z) ∧ (-3) ≤ z ∧ z ≤ 1)))) (83, [(0, .inr (.inr (some 86))), (1, .inl v1_22), (2, .inl v2_22), (3, .inl v3_8)], [], sh, gc_h sh I20 J21 A) := by
        intro I20 J21 v1_22 v2_22 hI20 FI20 FJ21 m_22 e0_22
        clear hv1_8 hv2_8 hv3_8 e1_8 e2_8 e3_8 f9 f10 f11 f12 f13
        obtain ⟨hv1_22, hv2_22, hv3_8_22, e1_22, e2_22, e3_22⟩ := m_22
        have f23 := (show 0 ≤ I20 86 1 ∧ I20 86 1 ≤ 300 from gc_in hI20 R_86 rfl rfl)
        have f24 := (show 0 ≤ I20 86 2 ∧ I20 86 2 ≤ 1 from gc_in hI20 R_86 rfl rfl)
        have f25 := (show 0 ≤ I20 86 9 ∧ I20 86 9 ≤ 300 from gc_in hI20 R_86 rfl rfl)
        have f26 := (show (-1) ≤ I20 86 16 ∧ I20 86 16 ≤ 301 from gc_in hI20 R_86 rfl rfl)
        have f27 := (show 0 ≤ I20 86 17 ∧ I20 86 17 ≤ 300 from gc_in hI20 R_86 rfl rfl)
        refine gv_run 2 true hD (pc' := 26) (lv' := [(3, .inl (v3_8 + 1)), (0, .inr (.inr (some 86))), (1, .inl v1_22), (2, .inl v2_22)]) (st' := []) (h' := gc_h sh I20 J21 A) (C := ((True ∧ True) ∧ True)) rfl ⟨⟨trivial, trivial⟩, trivial⟩ ?_
        refine gv_pick [1, 2, 3, 0] rfl ?_
        exact ih26 I20 J21 v1_22 v2_22 (v3_8 + 1) (by exact gz_m 2 (by omega)) hI20 FI20 FJ21 (by exact gz_m 3 (by omega)) e0_22
      refine gv_run 2 true hD (pc' := 29) (lv' := [(0, .inr (.inr (some 86))), (1, .inl v1_8), (2, .inl v2_8), (3, .inl v3_8)]) (st' := [.inl 2000000, .inl v3_8]) (h' := gc_h sh I6 J7 A) (C := ((True ∧ True) ∧ True)) rfl ⟨⟨trivial, trivial⟩, trivial⟩ ?_
      refine gv_icmp_ge (t := 89) hD rfl rfl ⟨⟨by exact gz_m 4 (by omega), by exact gz_m 5 (by omega)⟩, ⟨by exact gz_m 6 (by omega), by exact gz_m 7 (by omega)⟩⟩ (fun c28 => ?_) (fun c28 => ?_)
      · show gv_X _ _ (89, [(0, .inr (.inr (some 86))), (1, .inl v1_8), (2, .inl v2_8), (3, .inl v3_8)], [], sh, gc_h sh I6 J7 A)
        refine gv_run 1 true hD (pc' := 90) (lv' := [(0, .inr (.inr (some 86))), (1, .inl v1_8), (2, .inl v2_8), (3, .inl v3_8)]) (st' := [.inl (-1)]) (h' := gc_h sh I6 J7 A) (C := (True ∧ True)) rfl ⟨trivial, trivial⟩ ?_
        exact gv_iret hD rfl ⟨I6, J7, rfl, hI6, FI6, FJ7, ⟨_, rfl, by exact gz_m 8 (by omega)⟩⟩
      · show gv_X _ _ (32, [(0, .inr (.inr (some 86))), (1, .inl v1_8), (2, .inl v2_8), (3, .inl v3_8)], [], sh, gc_h sh I6 J7 A)
        refine gv_run 1 true hD (pc' := 33) (lv' := [(0, .inr (.inr (some 86))), (1, .inl v1_8), (2, .inl v2_8), (3, .inl v3_8)]) (st' := [.inl v2_8]) (h' := gc_h sh I6 J7 A) (C := (True ∧ True)) rfl ⟨trivial, trivial⟩ ?_
        refine gv_if_lt (t := 66) hD rfl rfl ⟨by exact gz_m 9 (by omega), by exact gz_m 10 (by omega)⟩ (fun c29 => ?_) (fun c29 => ?_)
        · show gv_X _ _ (66, [(0, .inr (.inr (some 86))), (1, .inl v1_8), (2, .inl v2_8), (3, .inl v3_8)], [], sh, gc_h sh I6 J7 A)
          refine gv_run 3 true hD (pc' := 73) (lv' := [(1, .inl (v1_8 + 1)), (0, .inr (.inr (some 86))), (2, .inl v2_8), (3, .inl v3_8)]) (st' := [.inl 20000, .inl (v1_8 + 1)]) (h' := gc_h sh I6 J7 A) (C := (((True ∧ True) ∧ True) ∧ True)) rfl ⟨⟨⟨trivial, trivial⟩, trivial⟩, trivial⟩ ?_
          refine gv_icmp_le (t := 78) hD rfl rfl ⟨⟨by exact gz_m 11 (by omega), by exact gz_m 12 (by omega)⟩, ⟨by exact gz_m 13 (by omega), by exact gz_m 14 (by omega)⟩⟩ (fun c30 => ?_) (fun c30 => ?_)
          · show gv_X _ _ (78, [(1, .inl (v1_8 + 1)), (0, .inr (.inr (some 86))), (2, .inl v2_8), (3, .inl v3_8)], [], sh, gc_h sh I6 J7 A)
            refine gv_run 1 true hD (pc' := 79) (lv' := [(1, .inl (v1_8 + 1)), (0, .inr (.inr (some 86))), (2, .inl v2_8), (3, .inl v3_8)]) (st' := [.inr (.inr (some 86))]) (h' := gc_h sh I6 J7 A) (C := (True ∧ True)) rfl ⟨trivial, trivial⟩ ?_
            obtain ⟨r31, h31, E31, P31⟩ := d_X10_lookAt (ws0 := ws0) (tb := tb) hws htb sh ro I6 J7 A hI6  ((86 + 1 + 2 * Int.toNat (I 86 2)))  hb    (by exact gz_m 15 (by omega)) (by exact gz_m 16 (by omega)) (by rw [show I6 (86 + 1 + 2 * Int.toNat (I 86 2)) = I (86 + 1 + 2 * Int.toNat (I 86 2)) from funext (fun k => (FI6 (86 + 1 + 2 * Int.toNat (I 86 2)) k).resolve_left (by exact gz_m 17 (by omega))), show I6 86 1 = I 86 1 from by exact gz_m 18 (by omega)]; exact x0) (by exact gz_m 19 (by omega)) (by exact gz_m 20 (by omega)) e0_8 
            obtain ⟨I32, J33, rfl, hI32, g31, k31, ⟨z31, rfl, q31⟩⟩ := P31
            have FI32 := gc_frc (W := fun q j => q = 95 ∨ q = 96 ∨ q = 98 ∨ (q = 86 ∧ j = 9) ∨ (q = 86 ∧ j = 16) ∨ (q = 86 ∧ j = 17) ∨ (q = 86 ∧ j = 18) ∨ q = 97 ∨ q = 99) (V := fun q j => q = 95 ∨ q = 96 ∨ q = 98 ∨ (q = 86 ∧ j = 9) ∨ (q = 86 ∧ j = 16) ∨ (q = 86 ∧ j = 17) ∨ (q = 86 ∧ j = 18) ∨ q = 97 ∨ q = 99) FI6 (fun q j h => (h.elim (fun h => (Or.inl h)) (fun h => (h.elim (fun h => (Or.inr (Or.inl h))) (fun h => (h.elim (fun h => (Or.inr (Or.inr (Or.inl h)))) (fun h => (h.elim (fun h => (Or.inr (Or.inr (Or.inr (Or.inl h))))) (fun h => (h.elim (fun h => (Or.inr (Or.inr (Or.inr (Or.inr (Or.inl h)))))) (fun h => (h.elim (fun h => (Or.inr (Or.inr (Or.inr (Or.inr (Or.inr (Or.inl h))))))) (fun h => (h.elim (fun h => (Or.inr (Or.inr (Or.inr (Or.inr (Or.inr (Or.inr (Or.inl h)))))))) (fun h => (h.elim (fun h => (Or.inr (Or.inr (Or.inr (Or.inr (Or.inr (Or.inr (Or.inr (Or.inl h))))))))) (fun h => (Or.inr (Or.inr (Or.inr (Or.inr (Or.inr (Or.inr (Or.inr (Or.inr h))))))))))))))))))))))))) g31
            have FJ33 := gc_frc (W := fun q j => q = 94) (V := fun q j => q = 94) FJ7 (fun q j h => h) k31
            have t34 := (g31 86 1).resolve_left (fun h => h.elim (fun h => absurd h (by decide)) (fun h => h.elim (fun h => absurd h (by decide)) (fun h => h.elim (fun h => absurd h (by decide)) (fun h => h.elim (fun h => absurd h.2 (by decide)) (fun h => h.elim (fun h => absurd h.2 (by decide)) (fun h => h.elim (fun h => absurd h.2 (by decide)) (fun h => h.elim (fun h => absurd h.2 (by decide)) (fun h => h.elim (fun h => absurd h (by decide)) (fun h => absurd h (by decide))))))))))
            have t35 := (g31 86 2).resolve_left (fun h => h.elim (fun h => absurd h (by decide)) (fun h => h.elim (fun h => absurd h (by decide)) (fun h => h.elim (fun h => absurd h (by decide)) (fun h => h.elim (fun h => absurd h.2 (by decide)) (fun h => h.elim (fun h => absurd h.2 (by decide)) (fun h => h.elim (fun h => absurd h.2 (by decide)) (fun h => h.elim (fun h => absurd h.2 (by decide)) (fun h => h.elim (fun h => absurd h (by decide)) (fun h => absurd h (by decide))))))))))
            have f36 := (show 0 ≤ I32 86 9 ∧ I32 86 9 ≤ 300 from gc_in hI32 R_86 rfl rfl)
            have f37 := (show (-1) ≤ I32 86 16 ∧ I32 86 16 ≤ 301 from gc_in hI32 R_86 rfl rfl)
            have f38 := (show 0 ≤ I32 86 17 ∧ I32 86 17 ≤ 300 from gc_in hI32 R_86 rfl rfl)
            refine gv_callV hD rfl (As := []) (st := []) rfl B_86 S_86 rfl (gc_lV10 hws rfl) (Nat.le_of_ble_eq_true rfl) (gz_Ev_mono (d := 3) (by decide) E31) ?_
            show gv_X _ _ (82, [(1, .inl (v1_8 + 1)), (0, .inr (.inr (some 86))), (2, .inl v2_8), (3, .inl v3_8)], [.inl z31], sh, gc_h sh I32 J33 A)
            refine gv_run 1 true hD (pc' := 83) (lv' := [(2, .inl z31), (1, .inl (v1_8 + 1)), (0, .inr (.inr (some 86))), (3, .inl v3_8)]) (st' := []) (h' := gc_h sh I32 J33 A) (C := (True ∧ True)) rfl ⟨trivial, trivial⟩ ?_
            refine gv_pick [2, 1, 0, 3] rfl ?_
            exact L83 I32 J33 (v1_8 + 1) z31 hI32 FI32 FJ33 (by exact gz_m 21 (by omega)) q31.2.2.1
          · show gv_X _ _ (76, [(1, .inl (v1_8 + 1)), (0, .inr (.inr (some 86))), (2, .inl v2_8), (3, .inl v3_8)], [], sh, gc_h sh I6 J7 A)
            refine gv_run 1 true hD (pc' := 77) (lv' := [(1, .inl (v1_8 + 1)), (0, .inr (.inr (some 86))), (2, .inl v2_8), (3, .inl v3_8)]) (st' := [.inl (-1)]) (h' := gc_h sh I6 J7 A) (C := (True ∧ True)) rfl ⟨trivial, trivial⟩ ?_
            exact gv_iret hD rfl ⟨I6, J7, rfl, hI6, FI6, FJ7, ⟨_, rfl, by exact gz_m 22 (by omega)⟩⟩
        · show gv_X _ _ (36, [(0, .inr (.inr (some 86))), (1, .inl v1_8), (2, .inl v2_8), (3, .inl v3_8)], [], sh, gc_h sh I6 J7 A)
          refine gv_run 1 true hD (pc' := 37) (lv' := [(0, .inr (.inr (some 86))), (1, .inl v1_8), (2, .inl v2_8), (3, .inl v3_8)]) (st' := [.inr (.inr (some 86))]) (h' := gc_h sh I6 J7 A) (C := (True ∧ True)) rfl ⟨trivial, trivial⟩ ?_
          have f39 := (show 0 ≤ I6 86 9 ∧ I6 86 9 ≤ 300 from gc_in hI6 R_86 rfl rfl)
          refine gv_get hD rfl rfl S_86 ⟨by decide, B_86⟩ (gc_hI S_86 rfl) ?_
          show gv_X _ _ (40, [(0, .inr (.inr (some 86))), (1, .inl v1_8), (2, .inl v2_8), (3, .inl v3_8)], [.inl (I6 86 9)], sh, gc_h sh I6 J7 A)
          refine gv_if_ne (t := 57) hD rfl rfl ⟨by exact gz_m 23 (by omega), by exact gz_m 24 (by omega)⟩ (fun c40 => ?_) (fun c40 => ?_)
          · show gv_X _ _ (57, [(0, .inr (.inr (some 86))), (1, .inl v1_8), (2, .inl v2_8), (3, .inl v3_8)], [], sh, gc_h sh I6 J7 A)
            refine gv_run 2 true hD (pc' := 59) (lv' := [(0, .inr (.inr (some 86))), (1, .inl v1_8), (2, .inl v2_8), (3, .inl v3_8)]) (st' := [.inl v2_8, .inr (.inr (some 86))]) (h' := gc_h sh I6 J7 A) (C := ((True ∧ True) ∧ True)) rfl ⟨⟨trivial, trivial⟩, trivial⟩ ?_
            obtain ⟨r41, h41, E41, P41⟩ := d_X10_goOn (ws0 := ws0) (tb := tb) hws htb sh ro I6 J7 A hI6  v2_8 hb   ⟨by exact gz_m 25 (by omega), by exact gz_m 26 (by omega)⟩ e0_8 (by exact gz_m 27 (by omega)) 
            obtain ⟨I42, J43, rfl, hI42, g41, k41, ⟨z41, rfl, q41⟩⟩ := P41
            have FI42 := gc_frc (W := fun q j => q = 95 ∨ q = 96 ∨ q = 98 ∨ (q = 86 ∧ j = 9) ∨ (q = 86 ∧ j = 16) ∨ (q = 86 ∧ j = 17) ∨ (q = 86 ∧ j = 18) ∨ q = 97 ∨ q = 99) (V := fun q j => (q = 96 ∧ j = (Int.toNat (((I6 86 9) - 1)))) ∨ q = 97 ∨ q = 99 ∨ (q = 86 ∧ j = 9) ∨ (q = 86 ∧ j = 16) ∨ (q = 86 ∧ j = 17)) FI6 (fun q j h => (h.elim (fun h => (Or.inr (Or.inl h.1))) (fun h => (h.elim (fun h => (Or.inr (Or.inr (Or.inr (Or.inr (Or.inr (Or.inr (Or.inr (Or.inl h))))))))) (fun h => (h.elim (fun h => (Or.inr (Or.inr (Or.inr (Or.inr (Or.inr (Or.inr (Or.inr (Or.inr h))))))))) (fun h => (h.elim (fun h => (Or.inr (Or.inr (Or.inr (Or.inl h))))) (fun h => (h.elim (fun h => (Or.inr (Or.inr (Or.inr (Or.inr (Or.inl h)))))) (fun h => (Or.inr (Or.inr (Or.inr (Or.inr (Or.inr (Or.inl h))))))))))))))))) g41
            have t44 := (g41 86 1).resolve_left (fun h => h.elim (fun h => absurd h.1 (by decide)) (fun h => h.elim (fun h => absurd h (by decide)) (fun h => h.elim (fun h => absurd h (by decide)) (fun h => h.elim (fun h => absurd h.2 (by decide)) (fun h => h.elim (fun h => absurd h.2 (by decide)) (fun h => absurd h.2 (by decide)))))))
            have t45 := (g41 86 2).resolve_left (fun h => h.elim (fun h => absurd h.1 (by decide)) (fun h => h.elim (fun h => absurd h (by decide)) (fun h => h.elim (fun h => absurd h (by decide)) (fun h => h.elim (fun h => absurd h.2 (by decide)) (fun h => h.elim (fun h => absurd h.2 (by decide)) (fun h => absurd h.2 (by decide)))))))
            have f46 := (show 0 ≤ I42 86 9 ∧ I42 86 9 ≤ 300 from gc_in hI42 R_86 rfl rfl)
            have f47 := (show (-1) ≤ I42 86 16 ∧ I42 86 16 ≤ 301 from gc_in hI42 R_86 rfl rfl)
            have f48 := (show 0 ≤ I42 86 17 ∧ I42 86 17 ≤ 300 from gc_in hI42 R_86 rfl rfl)
            obtain rfl : J7 = J43 := funext fun q => funext fun j => ((k41 q j).resolve_left id).symm
            refine gv_callV hD rfl (As := [.inl v2_8]) (st := []) rfl B_86 S_86 rfl (gc_lV10 hws rfl) (Nat.le_of_ble_eq_true rfl) (gz_Ev_mono (d := 1) (by decide) E41) ?_
            show gv_X _ _ (62, [(0, .inr (.inr (some 86))), (1, .inl v1_8), (2, .inl v2_8), (3, .inl v3_8)], [.inl z41], sh, gc_h sh I42 J7 A)
            refine gv_run 2 true hD (pc' := 83) (lv' := [(2, .inl z41), (0, .inr (.inr (some 86))), (1, .inl v1_8), (3, .inl v3_8)]) (st' := []) (h' := gc_h sh I42 J7 A) (C := ((True ∧ True) ∧ True)) rfl ⟨⟨trivial, trivial⟩, trivial⟩ ?_
            refine gv_pick [1, 2, 0, 3] rfl ?_
            exact L83 I42 J7 v1_8 z41 hI42 FI42 FJ7 (by exact gz_m 28 (by omega)) q41.2.2.1
          · show gv_X _ _ (43, [(0, .inr (.inr (some 86))), (1, .inl v1_8), (2, .inl v2_8), (3, .inl v3_8)], [], sh, gc_h sh I6 J7 A)
            refine gv_run 1 true hD (pc' := 44) (lv' := [(0, .inr (.inr (some 86))), (1, .inl v1_8), (2, .inl v2_8), (3, .inl v3_8)]) (st' := [.inr (.inr (some 86))]) (h' := gc_h sh I6 J7 A) (C := (True ∧ True)) rfl ⟨trivial, trivial⟩ ?_
            have f49 := (show 0 ≤ I6 86 18 ∧ I6 86 18 ≤ 1 from gc_in hI6 R_86 rfl rfl)
            refine gv_get hD rfl rfl S_86 ⟨by decide, B_86⟩ (gc_hI S_86 rfl) ?_
            show gv_X _ _ (47, [(0, .inr (.inr (some 86))), (1, .inl v1_8), (2, .inl v2_8), (3, .inl v3_8)], [.inl (I6 86 18)], sh, gc_h sh I6 J7 A)
            refine gv_if_eq (t := 55) hD rfl rfl ⟨by exact gz_m 29 (by omega), by exact gz_m 30 (by omega)⟩ (fun c50 => ?_) (fun c50 => ?_)
            · show gv_X _ _ (55, [(0, .inr (.inr (some 86))), (1, .inl v1_8), (2, .inl v2_8), (3, .inl v3_8)], [], sh, gc_h sh I6 J7 A)
              refine gv_run 1 true hD (pc' := 56) (lv' := [(0, .inr (.inr (some 86))), (1, .inl v1_8), (2, .inl v2_8), (3, .inl v3_8)]) (st' := [.inl v2_8]) (h' := gc_h sh I6 J7 A) (C := (True ∧ True)) rfl ⟨trivial, trivial⟩ ?_
              refine gv_pick [] rfl ?_
              exact L56 v2_8 (by exact gz_m 31 (by omega))
            · show gv_X _ _ (50, [(0, .inr (.inr (some 86))), (1, .inl v1_8), (2, .inl v2_8), (3, .inl v3_8)], [], sh, gc_h sh I6 J7 A)
              refine gv_run 2 true hD (pc' := 56) (lv' := [(0, .inr (.inr (some 86))), (1, .inl v1_8), (2, .inl v2_8), (3, .inl v3_8)]) (st' := [.inl (-3)]) (h' := gc_h sh I6 J7 A) (C := ((True ∧ True) ∧ True)) rfl ⟨⟨trivial, trivial⟩, trivial⟩ ?_
              refine gv_pick [] rfl ?_
              exact L56 (-3) (by exact gz_m 32 (by omega))
  refine gv_run 6 true hD (pc' := 6) (lv' := [(2, .inl (-1)), (1, .inl 0), (0, .inr (.inr (some 86)))]) (st' := [.inl 0, .inr (.inr (some 86))]) (h' := gc_h sh I J A) (C := ((((((True ∧ True) ∧ True) ∧ True) ∧ True) ∧ True) ∧ True)) rfl ⟨⟨⟨⟨⟨⟨trivial, trivial⟩, trivial⟩, trivial⟩, trivial⟩, trivial⟩, trivial⟩ ?_
  refine gv_put hD rfl rfl S_86 ⟨by decide, B_86⟩ rfl trivial ?_
  refine gc_st (k := 16) hI S_86 rfl R_86 (lo := (-1)) (hi := 301) rfl rfl (by exact gz_m 33 (by omega)) (by exact gz_m 34 (by omega)) (fun I51 hI51 q52 p52 => ?_)
  have FI51 := gc_frs (W := fun q j => q = 95 ∨ q = 96 ∨ q = 98 ∨ (q = 86 ∧ j = 9) ∨ (q = 86 ∧ j = 16) ∨ (q = 86 ∧ j = 17) ∨ (q = 86 ∧ j = 18) ∨ q = 97 ∨ q = 99) FI (Or.inr (Or.inr (Or.inr (Or.inr (Or.inl ⟨rfl, rfl⟩))))) p52
  have t53 := p52 86 1 (fun h => absurd h.2 (by decide))
  have t54 := p52 86 2 (fun h => absurd h.2 (by decide))
  have t55 := p52 86 9 (fun h => absurd h.2 (by decide))
  have t56 := p52 86 17 (fun h => absurd h.2 (by decide))
  have f57 := (show (-1) ≤ I51 86 16 ∧ I51 86 16 ≤ 301 from gc_in hI51 R_86 rfl rfl)
  show gv_X _ _ (9, [(2, .inl (-1)), (1, .inl 0), (0, .inr (.inr (some 86)))], [], sh, gc_h sh I51 J A)
  refine gv_run 2 true hD (pc' := 11) (lv' := [(2, .inl (-1)), (1, .inl 0), (0, .inr (.inr (some 86)))]) (st' := [.inl 0, .inr (.inr (some 86))]) (h' := gc_h sh I51 J A) (C := ((True ∧ True) ∧ True)) rfl ⟨⟨trivial, trivial⟩, trivial⟩ ?_
  refine gv_put hD rfl rfl S_86 ⟨by decide, B_86⟩ rfl trivial ?_
  refine gc_st (k := 17) hI51 S_86 rfl R_86 (lo := 0) (hi := 300) rfl rfl (by exact gz_m 35 (by omega)) (by exact gz_m 36 (by omega)) (fun I58 hI58 q59 p59 => ?_)
  have FI58 := gc_frs (W := fun q j => q = 95 ∨ q = 96 ∨ q = 98 ∨ (q = 86 ∧ j = 9) ∨ (q = 86 ∧ j = 16) ∨ (q = 86 ∧ j = 17) ∨ (q = 86 ∧ j = 18) ∨ q = 97 ∨ q = 99) FI51 (Or.inr (Or.inr (Or.inr (Or.inr (Or.inr (Or.inl ⟨rfl, rfl⟩)))))) p59
  have t60 := p59 86 1 (fun h => absurd h.2 (by decide))
  have t61 := p59 86 2 (fun h => absurd h.2 (by decide))
  have t62 := p59 86 9 (fun h => absurd h.2 (by decide))
  have t63 := p59 86 16 (fun h => absurd h.2 (by decide))
  have f64 := (show 0 ≤ I58 86 17 ∧ I58 86 17 ≤ 300 from gc_in hI58 R_86 rfl rfl)
  show gv_X _ _ (14, [(2, .inl (-1)), (1, .inl 0), (0, .inr (.inr (some 86)))], [], sh, gc_h sh I58 J A)
  refine gv_run 2 true hD (pc' := 16) (lv' := [(2, .inl (-1)), (1, .inl 0), (0, .inr (.inr (some 86)))]) (st' := [.inl 0, .inr (.inr (some 86))]) (h' := gc_h sh I58 J A) (C := ((True ∧ True) ∧ True)) rfl ⟨⟨trivial, trivial⟩, trivial⟩ ?_
  refine gv_put hD rfl rfl S_86 ⟨by decide, B_86⟩ rfl trivial ?_
  refine gc_st (k := 9) hI58 S_86 rfl R_86 (lo := 0) (hi := 300) rfl rfl (by exact gz_m 37 (by omega)) (by exact gz_m 38 (by omega)) (fun I65 hI65 q66 p66 => ?_)
  have FI65 := gc_frs (W := fun q j => q = 95 ∨ q = 96 ∨ q = 98 ∨ (q = 86 ∧ j = 9) ∨ (q = 86 ∧ j = 16) ∨ (q = 86 ∧ j = 17) ∨ (q = 86 ∧ j = 18) ∨ q = 97 ∨ q = 99) FI58 (Or.inr (Or.inr (Or.inr (Or.inl ⟨rfl, rfl⟩)))) p66
  have t67 := p66 86 1 (fun h => absurd h.2 (by decide))
  have t68 := p66 86 2 (fun h => absurd h.2 (by decide))
  have t69 := p66 86 16 (fun h => absurd h.2 (by decide))
  have t70 := p66 86 17 (fun h => absurd h.2 (by decide))
  have f71 := (show 0 ≤ I65 86 9 ∧ I65 86 9 ≤ 300 from gc_in hI65 R_86 rfl rfl)
  show gv_X _ _ (19, [(2, .inl (-1)), (1, .inl 0), (0, .inr (.inr (some 86)))], [], sh, gc_h sh I65 J A)
  refine gv_run 2 true hD (pc' := 21) (lv' := [(2, .inl (-1)), (1, .inl 0), (0, .inr (.inr (some 86)))]) (st' := [.inl 0, .inr (.inr (some 86))]) (h' := gc_h sh I65 J A) (C := ((True ∧ True) ∧ True)) rfl ⟨⟨trivial, trivial⟩, trivial⟩ ?_
  refine gv_put hD rfl rfl S_86 ⟨by decide, B_86⟩ rfl (by exact gz_m 39 (by omega)) ?_
  refine gc_st (k := 18) hI65 S_86 rfl R_86 (lo := 0) (hi := 1) rfl rfl (by exact gz_m 40 (by omega)) (by exact gz_m 41 (by omega)) (fun I72 hI72 q73 p73 => ?_)
  have FI72 := gc_frs (W := fun q j => q = 95 ∨ q = 96 ∨ q = 98 ∨ (q = 86 ∧ j = 9) ∨ (q = 86 ∧ j = 16) ∨ (q = 86 ∧ j = 17) ∨ (q = 86 ∧ j = 18) ∨ q = 97 ∨ q = 99) FI65 (Or.inr (Or.inr (Or.inr (Or.inr (Or.inr (Or.inr (Or.inl ⟨rfl, rfl⟩))))))) p73
  have t74 := p73 86 1 (fun h => absurd h.2 (by decide))
  have t75 := p73 86 2 (fun h => absurd h.2 (by decide))
  have t76 := p73 86 9 (fun h => absurd h.2 (by decide))
  have t77 := p73 86 16 (fun h => absurd h.2 (by decide))
  have t78 := p73 86 17 (fun h => absurd h.2 (by decide))
  show gv_X _ _ (24, [(2, .inl (-1)), (1, .inl 0), (0, .inr (.inr (some 86)))], [], sh, gc_h sh I72 J A)
  refine gv_run 2 true hD (pc' := 26) (lv' := [(3, .inl 0), (2, .inl (-1)), (1, .inl 0), (0, .inr (.inr (some 86)))]) (st' := []) (h' := gc_h sh I72 J A) (C := ((True ∧ True) ∧ True)) rfl ⟨⟨trivial, trivial⟩, trivial⟩ ?_
  refine gv_pick [3, 2, 1, 0] rfl ?_
  exact L26 _ I72 J 0 (-1) 0 (Nat.lt_succ_self _) hI72 FI72 FJ (by exact gz_m 42 (by omega)) (fun k hk => by exact gz_m 43 (by omega))
