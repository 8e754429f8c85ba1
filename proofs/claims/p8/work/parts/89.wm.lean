set_option maxHeartbeats 8000000 in
set_option maxRecDepth 100000 in
theorem d_X10_ponder_m {ws0 : List Cond} {tb : String → gz_T} (hws : gc_Ws ws0) (htb : gc_tbs tb) (sh : gz_Sh) (ro : Nat → Nat) (I : gr_I) (J : gr_J) (A : gc_A) (hI : gc_Inv ro I) (m : Nat) (a1 : Nat) (a2 : Int) (hb : gc_Base sh ro A) (S_a1 : sh[a1]? = some (true, 1, m)) (R_a1 : ro a1 = 37) (B_a1 : a1 < 1000000) (M_a1 : m < 2147483648) (ha2 : 0 ≤ a2 ∧ a2 ≤ 60) (x0 : I 86 2 + I 86 4 = 1) (x1 : gc_wtr I a1 a2) (x2 : a2 ≤ m) (x3 : m = 60) (x4 : 115 ≤ a1 ∧ a1 ≤ 123) (x5 : ∀ i : Nat, (i : Int) < a2 → 0 < I 15 (Int.toNat (I a1 i)) → gc_MT I (Int.toNat (I a1 i))) : ∃ r h', gz_Ev ws0 tb 5 (yX10_ponder, cX10_ponder, 4, (some .int)) [.inr (.inr (some 86)), .inr (.inr (some a1)), .inl a2] sh (gc_h sh I J A) r sh h' 0 0 ∧ (∃ (I' : gr_I) (J' : gr_J), h' = gc_h sh I' J' A ∧ gc_Inv ro I' ∧ (∀ q j : Nat, (q = 87 ∨ q = 89 ∨ (q = 86 ∧ j = 1) ∨ (q = 86 ∧ j = 2) ∨ (q = 86 ∧ j = 3) ∨ (q = 86 ∧ j = 4) ∨ (q = 86 ∧ j = 5) ∨ q = 91 ∨ q = 22 ∨ q = 92 ∨ q = 93) ∨ I' q j = I q j) ∧ (∀ q j : Nat, (q = 88 ∨ q = 90) ∨ J' q j = J q j) ∧ (∃ z : Int, r = some (.inl z) ∧ (-2) ≤ z ∧ z ≤ 0 ∧ (I' 86 2 + I' 86 4 = 1) ∧ (z < 0 ∨ gc_TC (I' (86 + 1 + 2 * Int.toNat (I' 86 2))) (I' 86 1)))) := by
  have FI : ∀ q j : Nat, (q = 87 ∨ q = 89 ∨ (q = 86 ∧ j = 1) ∨ (q = 86 ∧ j = 2) ∨ (q = 86 ∧ j = 3) ∨ (q = 86 ∧ j = 4) ∨ (q = 86 ∧ j = 5) ∨ q = 91 ∨ q = 22 ∨ q = 92 ∨ q = 93) ∨ I q j = I q j := fun _ _ => Or.inr rfl
  have FJ : ∀ q j : Nat, (q = 88 ∨ q = 90) ∨ J q j = J q j := fun _ _ => Or.inr rfl
  have A_1_10 : A 1 10 = some 15 := gc_bA hb rfl
  have A_86_0 : A 86 0 = some 1 := gc_bA hb rfl
  have B_1 : 1 < 1000000 := by decide
  have B_15 : 15 < 1000000 := by decide
  have B_86 : 86 < 1000000 := by decide
  have R_15 : ro 15 = 28 := gc_bR hb (by decide) rfl
  have R_86 : ro 86 = 74 := gc_bR hb (by decide) rfl
  have S_1 : sh[1]? = some (false, 8, 21) := gc_bS hb rfl
  have S_15 : sh[15]? = some (true, 1, 96) := gc_bS hb rfl
  have S_86 : sh[86]? = some (false, 10, 19) := gc_bS hb rfl
  have hD : gv_D (gc_E10 ws0 tb 4 (yX10_ponder, cX10_ponder, 4, (some .int)) kX10_ponder) := gq_of oX10_ponder
  refine gc_ev10 (d := 4) (l := kX10_ponder) (Po := fun r h' => (∃ (I' : gr_I) (J' : gr_J), h' = gc_h sh I' J' A ∧ gc_Inv ro I' ∧ (∀ q j : Nat, (q = 87 ∨ q = 89 ∨ (q = 86 ∧ j = 1) ∨ (q = 86 ∧ j = 2) ∨ (q = 86 ∧ j = 3) ∨ (q = 86 ∧ j = 4) ∨ (q = 86 ∧ j = 5) ∨ q = 91 ∨ q = 22 ∨ q = 92 ∨ q = 93) ∨ I' q j = I q j) ∧ (∀ q j : Nat, (q = 88 ∨ q = 90) ∨ J' q j = J q j) ∧ (∃ z : Int, r = some (.inl z) ∧ (-2) ≤ z ∧ z ≤ 0 ∧ (I' 86 2 + I' 86 4 = 1) ∧ (z < 0 ∨ gc_TC (I' (86 + 1 + 2 * Int.toNat (I' 86 2))) (I' 86 1))))) htb rfl (Nat.le_of_ble_eq_true rfl) ?_
  have f1 := (show 0 ≤ I 86 1 ∧ I 86 1 ≤ 300 from gc_in hI R_86 rfl rfl)
  have f2 := (show 0 ≤ I 86 2 ∧ I 86 2 ≤ 1 from gc_in hI R_86 rfl rfl)
  have f3 := (show 0 ≤ I 86 4 ∧ I 86 4 ≤ 1 from gc_in hI R_86 rfl rfl)
  have L2 : ∀ (n9 : Nat) (v3_4 : Int), (61 - v3_4).toNat < n9 → ((0 ≤ a2 ∧ a2 ≤ 60) ∧ (0 ≤ v3_4 ∧ v3_4 ≤ 60)) → (∀ k : Nat, (k : Int) < v3_4 → 0 < I 15 (Int.toNat (I a1 k))) → gv_X (gc_E10 ws0 tb 4 (yX10_ponder, cX10_ponder, 4, (some .int)) kX10_ponder) (gv_Q cX10_ponder (some .int) sh (fun r h' => (∃ (I' : gr_I) (J' : gr_J), h' = gc_h sh I' J' A ∧ gc_Inv ro I' ∧ (∀ q j : Nat, (q = 87 ∨ q = 89 ∨ (q = 86 ∧ j = 1) ∨ (q = 86 ∧ j = 2) ∨ (q = 86 ∧ j = 3) ∨ (q = 86 ∧ j = 4) ∨ (q = 86 ∧ j = 5) ∨ q = 91 ∨ q = 22 ∨ q = 92 ∨ q = 93) ∨ I' q j = I q j) ∧ (∀ q j : Nat, (q = 88 ∨ q = 90) ∨ J' q j = J q j) ∧ (∃ z : Int, r = some (.inl z) ∧ (-2) ≤ z ∧ z ≤ 0 ∧ (I' 86 2 + I' 86 4 = 1) ∧ (z < 0 ∨ gc_TC (I' (86 + 1 + 2 * Int.toNat (I' 86 2))) (I' 86 1)))))) (2, [(0, .inr (.inr (some 86))), (1, .inr (.inr (some a1))), (2, .inl a2), (3, .inl v3_4)], [], sh, gc_h sh I J A) := by
    intro n9
    induction n9 with
    | zero => intro v3_4 hn; exact gz_m 0 (by omega)
    | succ n9 ih2 =>
      intro v3_4 hn m_4 e0_4
      obtain ⟨ha2_4, hv3_4⟩ := m_4
      have f5 := (show 0 ≤ I 86 1 ∧ I 86 1 ≤ 300 from gc_in hI R_86 rfl rfl)
      have f6 := (show 0 ≤ I 86 2 ∧ I 86 2 ≤ 1 from gc_in hI R_86 rfl rfl)
      have f7 := (show 0 ≤ I 86 4 ∧ I 86 4 ≤ 1 from gc_in hI R_86 rfl rfl)
      have L51 : ∀ (I8 : gr_I) (J9 : gr_J) (s0_10 : Int), gc_Inv ro I8 → (∀ q j : Nat, (q = 87 ∨ q = 89 ∨ (q = 86 ∧ j = 1) ∨ (q = 86 ∧ j = 2) ∨ (q = 86 ∧ j = 3) ∨ (q = 86 ∧ j = 4) ∨ (q = 86 ∧ j = 5) ∨ q = 91 ∨ q = 22 ∨ q = 92 ∨ q = 93) ∨ I8 q j = I q j) → (∀ q j : Nat, (q = 88 ∨ q = 90) ∨ J9 q j = J q j) → (((-1) ≤ s0_10 ∧ s0_10 ≤ 0) ∧ (I8 86 2 + I8 86 4 = 1)) → (s0_10 = -1 ∨ gc_TC (I8 (86 + 1 + 2 * Int.toNat (I8 86 2))) (I8 86 1)) → gv_X (gc_E10 ws0 tb 4 (yX10_ponder, cX10_ponder, 4, (some .int)) kX10_ponder) (gv_Q cX10_ponder (some .int) sh (fun r h' => (∃ (I' : gr_I) (J' : gr_J), h' = gc_h sh I' J' A ∧ gc_Inv ro I' ∧ (∀ q j : Nat, (q = 87 ∨ q = 89 ∨ (q = 86 ∧ j = 1) ∨ (q = 86 ∧ j = 2) ∨ (q = 86 ∧ j = 3) ∨ (q = 86 ∧ j = 4) ∨ (q = 86 ∧ j = 5) ∨ q = 91 ∨ q = 22 ∨ q = 92 ∨ q = 93) ∨ I' q j = I q j) ∧ (∀ q j : Nat, (q = 88 ∨ q = 90) ∨ J' q j = J q j) ∧ (∃ z : Int, r = some (.inl z) ∧ (-2) ≤ z ∧ z ≤ 0 ∧ (I' 86 2 + I' 86 4 = 1) ∧ (z < 0 ∨ gc_TC (I' (86 + 1 + 2 * Int.toNat (I' 86 2))) (I' 86 1)))))) (51, [], [.inl s0_10], sh, gc_h sh I8 J9 A) := by
        intro I8 J9 s0_10 hI8 FI8 FJ9 m_10 e1_10
        clear ha2_4 hv3_4 f5 f6 f7
        obtain ⟨hs0_10, e0_10⟩ := m_10
        have f11 := (show 0 ≤ I8 86 1 ∧ I8 86 1 ≤ 300 from gc_in hI8 R_86 rfl rfl)
        have f12 := (show 0 ≤ I8 86 2 ∧ I8 86 2 ≤ 1 from gc_in hI8 R_86 rfl rfl)
        have f13 := (show 0 ≤ I8 86 4 ∧ I8 86 4 ≤ 1 from gc_in hI8 R_86 rfl rfl)
        exact gv_iret hD rfl ⟨I8, J9, rfl, hI8, FI8, FJ9, ⟨_, rfl, by exact gz_m 1 (by omega), by exact gz_m 2 (by omega), by exact gz_m 3 (by omega), (e1_10.imp (fun h => by exact gz_m 4 (by omega)) id)⟩⟩
      have L50 : ∀ (I14 : gr_I) (J15 : gr_J) , gc_Inv ro I14 → (∀ q j : Nat, (q = 87 ∨ q = 89 ∨ (q = 86 ∧ j = 1) ∨ (q = 86 ∧ j = 2) ∨ (q = 86 ∧ j = 3) ∨ (q = 86 ∧ j = 4) ∨ (q = 86 ∧ j = 5) ∨ q = 91 ∨ q = 22 ∨ q = 92 ∨ q = 93) ∨ I14 q j = I q j) → (∀ q j : Nat, (q = 88 ∨ q = 90) ∨ J15 q j = J q j) → ((I14 86 2 + I14 86 4 = 1)) → gv_X (gc_E10 ws0 tb 4 (yX10_ponder, cX10_ponder, 4, (some .int)) kX10_ponder) (gv_Q cX10_ponder (some .int) sh (fun r h' => (∃ (I' : gr_I) (J' : gr_J), h' = gc_h sh I' J' A ∧ gc_Inv ro I' ∧ (∀ q j : Nat, (q = 87 ∨ q = 89 ∨ (q = 86 ∧ j = 1) ∨ (q = 86 ∧ j = 2) ∨ (q = 86 ∧ j = 3) ∨ (q = 86 ∧ j = 4) ∨ (q = 86 ∧ j = 5) ∨ q = 91 ∨ q = 22 ∨ q = 92 ∨ q = 93) ∨ I' q j = I q j) ∧ (∀ q j : Nat, (q = 88 ∨ q = 90) ∨ J' q j = J q j) ∧ (∃ z : Int, r = some (.inl z) ∧ (-2) ≤ z ∧ z ≤ 0 ∧ (I' 86 2 + I' 86 4 = 1) ∧ (z < 0 ∨ gc_TC (I' (86 + 1 + 2 * Int.toNat (I' 86 2))) (I' 86 1)))))) (50, [], [], sh, gc_h sh I14 J15 A) := by
        intro I14 J15 hI14 FI14 FJ15 m_16
        clear ha2_4 hv3_4 f5 f6 f7
        have e0_16 := m_16
        have f17 := (show 0 ≤ I14 86 1 ∧ I14 86 1 ≤ 300 from gc_in hI14 R_86 rfl rfl)
        have f18 := (show 0 ≤ I14 86 2 ∧ I14 86 2 ≤ 1 from gc_in hI14 R_86 rfl rfl)
        have f19 := (show 0 ≤ I14 86 4 ∧ I14 86 4 ≤ 1 from gc_in hI14 R_86 rfl rfl)
        refine gv_run 1 true hD (pc' := 51) (lv' := []) (st' := [.inl (-1)]) (h' := gc_h sh I14 J15 A) (C := (True ∧ True)) rfl ⟨trivial, trivial⟩ ?_
        exact L51 I14 J15 (-1) hI14 FI14 FJ15 (by exact gz_m 5 (by omega)) (Or.inl (by exact gz_m 6 (by omega)))
      refine gv_run 2 true hD (pc' := 4) (lv' := [(0, .inr (.inr (some 86))), (1, .inr (.inr (some a1))), (2, .inl a2), (3, .inl v3_4)]) (st' := [.inl a2, .inl v3_4]) (h' := gc_h sh I J A) (C := ((True ∧ True) ∧ True)) rfl ⟨⟨trivial, trivial⟩, trivial⟩ ?_
      refine gv_icmp_ge (t := 30) hD rfl rfl ⟨⟨by exact gz_m 7 (by omega), by exact gz_m 8 (by omega)⟩, ⟨by exact gz_m 9 (by omega), by exact gz_m 10 (by omega)⟩⟩ (fun c20 => ?_) (fun c20 => ?_)
      · show gv_X _ _ (30, [(0, .inr (.inr (some 86))), (1, .inr (.inr (some a1))), (2, .inl a2), (3, .inl v3_4)], [], sh, gc_h sh I J A)
        refine gv_run 3 true hD (pc' := 33) (lv' := [(0, .inr (.inr (some 86))), (1, .inr (.inr (some a1))), (2, .inl a2), (3, .inl v3_4)]) (st' := [.inl a2, .inr (.inr (some a1)), .inr (.inr (some 86))]) (h' := gc_h sh I J A) (C := (((True ∧ True) ∧ True) ∧ True)) rfl ⟨⟨⟨trivial, trivial⟩, trivial⟩, trivial⟩ ?_
        obtain ⟨r21, h21, E21, P21⟩ := d_X10_putTogether (ws0 := ws0) (tb := tb) hws htb sh ro I J A hI  m ((86 + 1 + 2 * Int.toNat (I 86 2))) a1 a2 hb S_a1 R_a1 B_a1 (by exact gz_m 11 (by omega))  ⟨by exact gz_m 12 (by omega), by exact gz_m 13 (by omega)⟩ (by exact gz_m 14 (by omega)) (by exact gz_m 15 (by omega)) x1 (by exact gz_m 16 (by omega)) (by exact gz_m 17 (by omega)) (by exact gz_m 18 (by omega)) (fun i hi => x5 i hi (e0_4 i (by exact gz_m 19 (by omega)))) 
        obtain ⟨I22, J23, rfl, hI22, g21, k21, ⟨z21, rfl, q21⟩⟩ := P21
        have FI22 := gc_frc (W := fun q j => q = 87 ∨ q = 89 ∨ (q = 86 ∧ j = 1) ∨ (q = 86 ∧ j = 2) ∨ (q = 86 ∧ j = 3) ∨ (q = 86 ∧ j = 4) ∨ (q = 86 ∧ j = 5) ∨ q = 91 ∨ q = 22 ∨ q = 92 ∨ q = 93) (V := fun q j => q = (86 + 1 + 2 * Int.toNat (I 86 2)) ∨ (q = 86 ∧ j = 1) ∨ q = 91 ∨ q = 22 ∨ q = 92 ∨ q = 93) FI (fun q j h => (h.elim (fun h => (show q = 87 ∨ q = 89 ∨ (q = 86 ∧ j = 1) ∨ (q = 86 ∧ j = 2) ∨ (q = 86 ∧ j = 3) ∨ (q = 86 ∧ j = 4) ∨ (q = 86 ∧ j = 5) ∨ q = 91 ∨ q = 22 ∨ q = 92 ∨ q = 93 from by exact gz_m 20 (by omega))) (fun h => (h.elim (fun h => (Or.inr (Or.inr (Or.inl h)))) (fun h => (h.elim (fun h => (Or.inr (Or.inr (Or.inr (Or.inr (Or.inr (Or.inr (Or.inr (Or.inl h))))))))) (fun h => (h.elim (fun h => (Or.inr (Or.inr (Or.inr (Or.inr (Or.inr (Or.inr (Or.inr (Or.inr (Or.inl h)))))))))) (fun h => (h.elim (fun h => (Or.inr (Or.inr (Or.inr (Or.inr (Or.inr (Or.inr (Or.inr (Or.inr (Or.inr (Or.inl h))))))))))) (fun h => (Or.inr (Or.inr (Or.inr (Or.inr (Or.inr (Or.inr (Or.inr (Or.inr (Or.inr (Or.inr h))))))))))))))))))))) g21
        have FJ23 := gc_frc (W := fun q j => q = 88 ∨ q = 90) (V := fun q j => q = 88 ∨ q = 90) FJ (fun q j h => (h.elim (fun h => (Or.inl h)) (fun h => (Or.inr h)))) k21
        have t24 := (g21 86 2).resolve_left (by exact gz_m 21 (by omega))
        have t25 := (g21 86 4).resolve_left (by exact gz_m 22 (by omega))
        have f26 := (show 0 ≤ I22 86 1 ∧ I22 86 1 ≤ 300 from gc_in hI22 R_86 rfl rfl)
        refine gv_callV hD rfl (As := [.inr (.inr (some a1)), .inl a2]) (st := []) rfl B_86 S_86 rfl (gc_lV10 hws rfl) (Nat.le_of_ble_eq_true rfl) (gz_Ev_mono (d := 2) (by decide) E21) ?_
        show gv_X _ _ (36, [(0, .inr (.inr (some 86))), (1, .inr (.inr (some a1))), (2, .inl a2), (3, .inl v3_4)], [.inl z21], sh, gc_h sh I22 J23 A)
        refine gv_if_eq (t := 50) hD rfl rfl ⟨by exact gz_m 23 (by omega), by exact gz_m 24 (by omega)⟩ (fun c27 => ?_) (fun c27 => ?_)
        · show gv_X _ _ (50, [(0, .inr (.inr (some 86))), (1, .inr (.inr (some a1))), (2, .inl a2), (3, .inl v3_4)], [], sh, gc_h sh I22 J23 A)
          refine gv_pick [] rfl ?_
          exact L50 I22 J23 hI22 FI22 FJ23 (by exact gz_m 25 (by omega))
        · show gv_X _ _ (39, [(0, .inr (.inr (some 86))), (1, .inr (.inr (some a1))), (2, .inl a2), (3, .inl v3_4)], [], sh, gc_h sh I22 J23 A)
          refine gv_run 1 true hD (pc' := 40) (lv' := [(0, .inr (.inr (some 86))), (1, .inr (.inr (some a1))), (2, .inl a2), (3, .inl v3_4)]) (st' := [.inr (.inr (some 86))]) (h' := gc_h sh I22 J23 A) (C := (True ∧ True)) rfl ⟨trivial, trivial⟩ ?_
          obtain ⟨r28, h28, E28, P28⟩ := d_X10_reduce (ws0 := ws0) (tb := tb) hws htb sh ro I22 J23 A hI22   hb    (by exact gz_m 26 (by omega)) (by rw [show (86 + 1 + 2 * Int.toNat (I22 86 2)) = (86 + 1 + 2 * Int.toNat (I 86 2)) from by exact gz_m 27 (by omega)]; exact q21.2.2.1.resolve_left (by exact gz_m 28 (by omega))) (by rw [show (86 + 1 + 2 * Int.toNat (I22 86 2)) = (86 + 1 + 2 * Int.toNat (I 86 2)) from by exact gz_m 29 (by omega)]; exact q21.2.2.2.1.resolve_left (by exact gz_m 30 (by omega))) 
          obtain ⟨I29, J30, rfl, hI29, g28, k28, ⟨z28, rfl, q28⟩⟩ := P28
          have FI29 := gc_frc (W := fun q j => q = 87 ∨ q = 89 ∨ (q = 86 ∧ j = 1) ∨ (q = 86 ∧ j = 2) ∨ (q = 86 ∧ j = 3) ∨ (q = 86 ∧ j = 4) ∨ (q = 86 ∧ j = 5) ∨ q = 91 ∨ q = 22 ∨ q = 92 ∨ q = 93) (V := fun q j => q = 87 ∨ q = 89 ∨ (q = 86 ∧ j = 1) ∨ (q = 86 ∧ j = 2) ∨ (q = 86 ∧ j = 3) ∨ (q = 86 ∧ j = 4) ∨ (q = 86 ∧ j = 5) ∨ q = 92 ∨ q = 93) FI22 (fun q j h => (h.elim (fun h => (Or.inl h)) (fun h => (h.elim (fun h => (Or.inr (Or.inl h))) (fun h => (h.elim (fun h => (Or.inr (Or.inr (Or.inl h)))) (fun h => (h.elim (fun h => (Or.inr (Or.inr (Or.inr (Or.inl h))))) (fun h => (h.elim (fun h => (Or.inr (Or.inr (Or.inr (Or.inr (Or.inl h)))))) (fun h => (h.elim (fun h => (Or.inr (Or.inr (Or.inr (Or.inr (Or.inr (Or.inl h))))))) (fun h => (h.elim (fun h => (Or.inr (Or.inr (Or.inr (Or.inr (Or.inr (Or.inr (Or.inl h)))))))) (fun h => (h.elim (fun h => (Or.inr (Or.inr (Or.inr (Or.inr (Or.inr (Or.inr (Or.inr (Or.inr (Or.inr (Or.inl h))))))))))) (fun h => (Or.inr (Or.inr (Or.inr (Or.inr (Or.inr (Or.inr (Or.inr (Or.inr (Or.inr (Or.inr h))))))))))))))))))))))))))) g28
          have FJ30 := gc_frc (W := fun q j => q = 88 ∨ q = 90) (V := fun q j => q = 88 ∨ q = 90) FJ23 (fun q j h => (h.elim (fun h => (Or.inl h)) (fun h => (Or.inr h)))) k28
          have f31 := (show 0 ≤ I29 86 1 ∧ I29 86 1 ≤ 300 from gc_in hI29 R_86 rfl rfl)
          have f32 := (show 0 ≤ I29 86 2 ∧ I29 86 2 ≤ 1 from gc_in hI29 R_86 rfl rfl)
          have f33 := (show 0 ≤ I29 86 4 ∧ I29 86 4 ≤ 1 from gc_in hI29 R_86 rfl rfl)
          refine gv_callV hD rfl (As := []) (st := []) rfl B_86 S_86 rfl (gc_lV10 hws rfl) (Nat.le_of_ble_eq_true rfl) (gz_Ev_mono (d := 4) (by decide) E28) ?_
          show gv_X _ _ (43, [(0, .inr (.inr (some 86))), (1, .inr (.inr (some a1))), (2, .inl a2), (3, .inl v3_4)], [.inl z28], sh, gc_h sh I29 J30 A)
          refine gv_if_eq (t := 50) hD rfl rfl ⟨by exact gz_m 31 (by omega), by exact gz_m 32 (by omega)⟩ (fun c34 => ?_) (fun c34 => ?_)
          · show gv_X _ _ (50, [(0, .inr (.inr (some 86))), (1, .inr (.inr (some a1))), (2, .inl a2), (3, .inl v3_4)], [], sh, gc_h sh I29 J30 A)
            refine gv_pick [] rfl ?_
            exact L50 I29 J30 hI29 FI29 FJ30 (by exact gz_m 33 (by omega))
          · show gv_X _ _ (46, [(0, .inr (.inr (some 86))), (1, .inr (.inr (some a1))), (2, .inl a2), (3, .inl v3_4)], [], sh, gc_h sh I29 J30 A)
            refine gv_run 2 true hD (pc' := 51) (lv' := [(0, .inr (.inr (some 86))), (1, .inr (.inr (some a1))), (2, .inl a2), (3, .inl v3_4)]) (st' := [.inl 0]) (h' := gc_h sh I29 J30 A) (C := ((True ∧ True) ∧ True)) rfl ⟨⟨trivial, trivial⟩, trivial⟩ ?_
            refine gv_pick [] rfl ?_
            exact L51 I29 J30 0 hI29 FI29 FJ30 (by exact gz_m 34 (by omega)) (Or.inr (q28.2.2.2.resolve_left (by exact gz_m 35 (by omega))))
      · show gv_X _ _ (7, [(0, .inr (.inr (some 86))), (1, .inr (.inr (some a1))), (2, .inl a2), (3, .inl v3_4)], [], sh, gc_h sh I J A)
        refine gv_run 1 true hD (pc' := 8) (lv' := [(0, .inr (.inr (some 86))), (1, .inr (.inr (some a1))), (2, .inl a2), (3, .inl v3_4)]) (st' := [.inr (.inr (some 86))]) (h' := gc_h sh I J A) (C := (True ∧ True)) rfl ⟨trivial, trivial⟩ ?_
        refine gv_get hD rfl rfl S_86 ⟨by decide, B_86⟩ (gc_hA S_86 rfl A_86_0) ?_
        show gv_X _ _ (11, [(0, .inr (.inr (some 86))), (1, .inr (.inr (some a1))), (2, .inl a2), (3, .inl v3_4)], [.inr (.inr (some 1))], sh, gc_h sh I J A)
        refine gv_get hD rfl rfl S_1 ⟨by decide, B_1⟩ (gc_hA S_1 rfl A_1_10) ?_
        show gv_X _ _ (14, [(0, .inr (.inr (some 86))), (1, .inr (.inr (some a1))), (2, .inl a2), (3, .inl v3_4)], [.inr (.inr (some 15))], sh, gc_h sh I J A)
        refine gv_run 2 true hD (pc' := 16) (lv' := [(0, .inr (.inr (some 86))), (1, .inr (.inr (some a1))), (2, .inl a2), (3, .inl v3_4)]) (st' := [.inl v3_4, .inr (.inr (some a1)), .inr (.inr (some 15))]) (h' := gc_h sh I J A) (C := ((True ∧ True) ∧ True)) rfl ⟨⟨trivial, trivial⟩, trivial⟩ ?_
        have f35 := (show 0 ≤ I a1 (Int.toNat v3_4) ∧ I a1 (Int.toNat v3_4) ≤ 95 from gc_in hI R_a1 rfl rfl)
        refine gv_iald hD rfl S_a1 rfl ⟨by exact gz_m 36 (by omega), B_a1⟩ ⟨by exact gz_m 37 (by omega), by exact gz_m 38 (by omega)⟩ (gc_iI S_a1 rfl) ?_
        show gv_X _ _ (17, [(0, .inr (.inr (some 86))), (1, .inr (.inr (some a1))), (2, .inl a2), (3, .inl v3_4)], [.inl (I a1 (Int.toNat v3_4)), .inr (.inr (some 15))], sh, gc_h sh I J A)
        have f36 := (show 0 ≤ I 15 (Int.toNat ((I a1 (Int.toNat v3_4)))) ∧ I 15 (Int.toNat ((I a1 (Int.toNat v3_4)))) ≤ 40 from gc_in hI R_15 rfl rfl)
        refine gv_iald hD rfl S_15 rfl ⟨by decide, B_15⟩ ⟨by exact gz_m 39 (by omega), by exact gz_m 40 (by omega)⟩ (gc_iI S_15 rfl) ?_
        show gv_X _ _ (18, [(0, .inr (.inr (some 86))), (1, .inr (.inr (some a1))), (2, .inl a2), (3, .inl v3_4)], [.inl (I 15 (Int.toNat ((I a1 (Int.toNat v3_4)))))], sh, gc_h sh I J A)
        refine gv_if_ne (t := 24) hD rfl rfl ⟨by exact gz_m 41 (by omega), by exact gz_m 42 (by omega)⟩ (fun c37 => ?_) (fun c37 => ?_)
        · show gv_X _ _ (24, [(0, .inr (.inr (some 86))), (1, .inr (.inr (some a1))), (2, .inl a2), (3, .inl v3_4)], [], sh, gc_h sh I J A)
          refine gv_run 2 true hD (pc' := 2) (lv' := [(3, .inl (v3_4 + 1)), (0, .inr (.inr (some 86))), (1, .inr (.inr (some a1))), (2, .inl a2)]) (st' := []) (h' := gc_h sh I J A) (C := ((True ∧ True) ∧ True)) rfl ⟨⟨trivial, trivial⟩, trivial⟩ ?_
          refine gv_pick [1, 2, 3, 0] rfl ?_
          exact ih2 (v3_4 + 1) (by exact gz_m 43 (by omega)) (by exact gz_m 44 (by omega)) (fun k hk => by rcases Int.lt_or_le (k : Int) v3_4 with h9 | h9; (· exact e0_4 k h9); (· have e9 : k = Int.toNat v3_4 := (by exact gz_m 45 (by omega)); rw [e9]; exact gz_m 46 (by omega)))
        · show gv_X _ _ (21, [(0, .inr (.inr (some 86))), (1, .inr (.inr (some a1))), (2, .inl a2), (3, .inl v3_4)], [], sh, gc_h sh I J A)
          refine gv_run 1 true hD (pc' := 23) (lv' := [(0, .inr (.inr (some 86))), (1, .inr (.inr (some a1))), (2, .inl a2), (3, .inl v3_4)]) (st' := [.inl (-2)]) (h' := gc_h sh I J A) (C := (True ∧ True)) rfl ⟨trivial, trivial⟩ ?_
          exact gv_iret hD rfl ⟨I, J, rfl, hI, FI, FJ, ⟨_, rfl, by exact gz_m 47 (by omega), by exact gz_m 48 (by omega), by exact gz_m 49 (by omega), (Or.inl (by exact gz_m 50 (by omega)))⟩⟩
  refine gv_run 2 true hD (pc' := 2) (lv' := [(3, .inl 0), (0, .inr (.inr (some 86))), (1, .inr (.inr (some a1))), (2, .inl a2)]) (st' := []) (h' := gc_h sh I J A) (C := ((True ∧ True) ∧ True)) rfl ⟨⟨trivial, trivial⟩, trivial⟩ ?_
  refine gv_pick [1, 2, 3, 0] rfl ?_
  exact L2 _ 0 (Nat.lt_succ_self _) (by exact gz_m 51 (by omega)) (fun k hk => by exact gz_m 52 (by omega))
