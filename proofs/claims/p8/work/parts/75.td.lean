set_option maxHeartbeats 8000000 in
set_option maxRecDepth 100000 in
theorem d_X10_reduce {ws0 : List Cond} {tb : String → gz_T} (hws : gc_Ws ws0) (htb : gc_tbs tb) (sh : gz_Sh) (ro : Nat → Nat) (I : gr_I) (J : gr_J) (A : gc_A) (hI : gc_Inv ro I)  (hb : gc_Base sh ro A)  (x0 : I 86 2 + I 86 4 = 1) (x1 : gc_TC (I (86 + 1 + 2 * Int.toNat (I 86 2))) (I 86 1)) (x2 : gc_ub (I (86 + 1 + 2 * Int.toNat (I 86 2))) (I 86 1) 41) : ∃ r h', gz_Ev ws0 tb 4 (yX10_reduce, cX10_reduce, 3, (some .boolean)) [.inr (.inr (some 86))] sh (gc_h sh I J A) r sh h' 0 0 ∧ (∃ (I' : gr_I) (J' : gr_J), h' = gc_h sh I' J' A ∧ gc_Inv ro I' ∧ (∀ q j : Nat, (q = 87 ∨ q = 89 ∨ (q = 86 ∧ j = 1) ∨ (q = 86 ∧ j = 2) ∨ (q = 86 ∧ j = 3) ∨ (q = 86 ∧ j = 4) ∨ (q = 86 ∧ j = 5) ∨ q = 92 ∨ q = 93) ∨ I' q j = I q j) ∧ (∀ q j : Nat, (q = 88 ∨ q = 90) ∨ J' q j = J q j) ∧ (∃ z : Int, r = some (.inl z) ∧ 0 ≤ z ∧ z ≤ 1 ∧ (I' 86 2 + I' 86 4 = 1) ∧ (z = 0 ∨ gc_TC (I' (86 + 1 + 2 * Int.toNat (I' 86 2))) (I' 86 1)))) := by
  have FI : ∀ q j : Nat, (q = 87 ∨ q = 89 ∨ (q = 86 ∧ j = 1) ∨ (q = 86 ∧ j = 2) ∨ (q = 86 ∧ j = 3) ∨ (q = 86 ∧ j = 4) ∨ (q = 86 ∧ j = 5) ∨ q = 92 ∨ q = 93) ∨ I q j = I q j := fun _ _ => Or.inr rfl
  have FJ : ∀ q j : Nat, (q = 88 ∨ q = 90) ∨ J q j = J q j := fun _ _ => Or.inr rfl
  have B_86 : 86 < 1000000 := by decide
  have B_87 : 87 < 1000000 := by decide
  have B_89 : 89 < 1000000 := by decide
  have R_86 : ro 86 = 74 := gc_bR hb (by decide) rfl
  have R_87 : ro 87 = 77 := gc_bR hb (by decide) rfl
  have R_89 : ro 89 = 77 := gc_bR hb (by decide) rfl
  have S_86 : sh[86]? = some (false, 10, 19) := gc_bS hb rfl
  have S_87 : sh[87]? = some (true, 1, 300) := gc_bS hb rfl
  have S_89 : sh[89]? = some (true, 1, 300) := gc_bS hb rfl
  have hD : gv_D (gc_E10 ws0 tb 3 (yX10_reduce, cX10_reduce, 3, (some .boolean)) kX10_reduce) := gq_of oX10_reduce
  refine gc_ev10 (d := 3) (l := kX10_reduce) (Po := fun r h' => (∃ (I' : gr_I) (J' : gr_J), h' = gc_h sh I' J' A ∧ gc_Inv ro I' ∧ (∀ q j : Nat, (q = 87 ∨ q = 89 ∨ (q = 86 ∧ j = 1) ∨ (q = 86 ∧ j = 2) ∨ (q = 86 ∧ j = 3) ∨ (q = 86 ∧ j = 4) ∨ (q = 86 ∧ j = 5) ∨ q = 92 ∨ q = 93) ∨ I' q j = I q j) ∧ (∀ q j : Nat, (q = 88 ∨ q = 90) ∨ J' q j = J q j) ∧ (∃ z : Int, r = some (.inl z) ∧ 0 ≤ z ∧ z ≤ 1 ∧ (I' 86 2 + I' 86 4 = 1) ∧ (z = 0 ∨ gc_TC (I' (86 + 1 + 2 * Int.toNat (I' 86 2))) (I' 86 1))))) htb rfl (Nat.le_of_ble_eq_true rfl) ?_
  have f1 := (show 0 ≤ I 86 1 ∧ I 86 1 ≤ 300 from gc_in hI R_86 rfl rfl)
  have f2 := (show 0 ≤ I 86 2 ∧ I 86 2 ≤ 1 from gc_in hI R_86 rfl rfl)
  have f3 := (show 0 ≤ I 86 4 ∧ I 86 4 ≤ 1 from gc_in hI R_86 rfl rfl)
  have L2 : ∀ (n9 : Nat) (I4 : gr_I) (J5 : gr_J) (v1_6 : Int), (401 - v1_6).toNat < n9 → gc_Inv ro I4 → (∀ q j : Nat, (q = 87 ∨ q = 89 ∨ (q = 86 ∧ j = 1) ∨ (q = 86 ∧ j = 2) ∨ (q = 86 ∧ j = 3) ∨ (q = 86 ∧ j = 4) ∨ (q = 86 ∧ j = 5) ∨ q = 92 ∨ q = 93) ∨ I4 q j = I q j) → (∀ q j : Nat, (q = 88 ∨ q = 90) ∨ J5 q j = J q j) → ((0 ≤ v1_6 ∧ v1_6 ≤ 400) ∧ (I4 86 2 + I4 86 4 = 1)) → (gc_TC (I4 (86 + 1 + 2 * Int.toNat (I4 86 2))) (I4 86 1)) → (gc_ub (I4 (86 + 1 + 2 * Int.toNat (I4 86 2))) (I4 86 1) (41 + 300 * v1_6)) → gv_X (gc_E10 ws0 tb 3 (yX10_reduce, cX10_reduce, 3, (some .boolean)) kX10_reduce) (gv_Q cX10_reduce (some .boolean) sh (fun r h' => (∃ (I' : gr_I) (J' : gr_J), h' = gc_h sh I' J' A ∧ gc_Inv ro I' ∧ (∀ q j : Nat, (q = 87 ∨ q = 89 ∨ (q = 86 ∧ j = 1) ∨ (q = 86 ∧ j = 2) ∨ (q = 86 ∧ j = 3) ∨ (q = 86 ∧ j = 4) ∨ (q = 86 ∧ j = 5) ∨ q = 92 ∨ q = 93) ∨ I' q j = I q j) ∧ (∀ q j : Nat, (q = 88 ∨ q = 90) ∨ J' q j = J q j) ∧ (∃ z : Int, r = some (.inl z) ∧ 0 ≤ z ∧ z ≤ 1 ∧ (I' 86 2 + I' 86 4 = 1) ∧ (z = 0 ∨ gc_TC (I' (86 + 1 + 2 * Int.toNat (I' 86 2))) (I' 86 1)))))) (2, [(0, .inr (.inr (some 86))), (1, .inl v1_6)], [], sh, gc_h sh I4 J5 A) := by
    intro n9
    induction n9 with
    | zero => intro I4 J5 v1_6 hn; exact gz_m 0 (by omega)
    | succ n9 ih2 =>
      intro I4 J5 v1_6 hn hI4 FI4 FJ5 m_6 e1_6 e2_6
      obtain ⟨hv1_6, e0_6⟩ := m_6
      have f7 := (show 0 ≤ I4 86 1 ∧ I4 86 1 ≤ 300 from gc_in hI4 R_86 rfl rfl)
      have f8 := (show 0 ≤ I4 86 2 ∧ I4 86 2 ≤ 1 from gc_in hI4 R_86 rfl rfl)
      have f9 := (show 0 ≤ I4 86 4 ∧ I4 86 4 ≤ 1 from gc_in hI4 R_86 rfl rfl)
      have L11 : ∀ (n9 : Nat) (v2_10 : Int), (300 - v2_10).toNat < n9 → ((0 ≤ v1_6 ∧ v1_6 ≤ 400) ∧ (0 ≤ v2_10 ∧ v2_10 ≤ 299)) → gv_X (gc_E10 ws0 tb 3 (yX10_reduce, cX10_reduce, 3, (some .boolean)) kX10_reduce) (gv_Q cX10_reduce (some .boolean) sh (fun r h' => (∃ (I' : gr_I) (J' : gr_J), h' = gc_h sh I' J' A ∧ gc_Inv ro I' ∧ (∀ q j : Nat, (q = 87 ∨ q = 89 ∨ (q = 86 ∧ j = 1) ∨ (q = 86 ∧ j = 2) ∨ (q = 86 ∧ j = 3) ∨ (q = 86 ∧ j = 4) ∨ (q = 86 ∧ j = 5) ∨ q = 92 ∨ q = 93) ∨ I' q j = I q j) ∧ (∀ q j : Nat, (q = 88 ∨ q = 90) ∨ J' q j = J q j) ∧ (∃ z : Int, r = some (.inl z) ∧ 0 ≤ z ∧ z ≤ 1 ∧ (I' 86 2 + I' 86 4 = 1) ∧ (z = 0 ∨ gc_TC (I' (86 + 1 + 2 * Int.toNat (I' 86 2))) (I' 86 1)))))) (11, [(0, .inr (.inr (some 86))), (1, .inl v1_6), (2, .inl v2_10)], [], sh, gc_h sh I4 J5 A) := by
        intro n9
        induction n9 with
        | zero => intro v2_10 hn; exact gz_m 1 (by omega)
        | succ n9 ih11 =>
          intro v2_10 hn m_10
          obtain ⟨hv1_6_10, hv2_10⟩ := m_10
          have f11 := (show 0 ≤ I4 86 1 ∧ I4 86 1 ≤ 300 from gc_in hI4 R_86 rfl rfl)
          have f12 := (show 0 ≤ I4 86 2 ∧ I4 86 2 ≤ 1 from gc_in hI4 R_86 rfl rfl)
          have f13 := (show 0 ≤ I4 86 4 ∧ I4 86 4 ≤ 1 from gc_in hI4 R_86 rfl rfl)
          have L44 : ((0 ≤ v1_6 ∧ v1_6 ≤ 400) ∧ (0 ≤ v2_10 ∧ v2_10 ≤ 299) ∧ (v2_10 + 1 < I4 86 1)) → gv_X (gc_E10 ws0 tb 3 (yX10_reduce, cX10_reduce, 3, (some .boolean)) kX10_reduce) (gv_Q cX10_reduce (some .boolean) sh (fun r h' => (∃ (I' : gr_I) (J' : gr_J), h' = gc_h sh I' J' A ∧ gc_Inv ro I' ∧ (∀ q j : Nat, (q = 87 ∨ q = 89 ∨ (q = 86 ∧ j = 1) ∨ (q = 86 ∧ j = 2) ∨ (q = 86 ∧ j = 3) ∨ (q = 86 ∧ j = 4) ∨ (q = 86 ∧ j = 5) ∨ q = 92 ∨ q = 93) ∨ I' q j = I q j) ∧ (∀ q j : Nat, (q = 88 ∨ q = 90) ∨ J' q j = J q j) ∧ (∃ z : Int, r = some (.inl z) ∧ 0 ≤ z ∧ z ≤ 1 ∧ (I' 86 2 + I' 86 4 = 1) ∧ (z = 0 ∨ gc_TC (I' (86 + 1 + 2 * Int.toNat (I' 86 2))) (I' 86 1)))))) (44, [(0, .inr (.inr (some 86))), (1, .inl v1_6), (2, .inl v2_10)], [], sh, gc_h sh I4 J5 A) := by
            intro m_14
            obtain ⟨hv1_6_14, hv2_10_14, e0_14⟩ := m_14
            have f15 := (show 0 ≤ I4 86 1 ∧ I4 86 1 ≤ 300 from gc_in hI4 R_86 rfl rfl)
            have f16 := (show 0 ≤ I4 86 2 ∧ I4 86 2 ≤ 1 from gc_in hI4 R_86 rfl rfl)
            have f17 := (show 0 ≤ I4 86 4 ∧ I4 86 4 ≤ 1 from gc_in hI4 R_86 rfl rfl)
            refine gv_run 2 true hD (pc' := 11) (lv' := [(2, .inl (v2_10 + 1)), (0, .inr (.inr (some 86))), (1, .inl v1_6)]) (st' := []) (h' := gc_h sh I4 J5 A) (C := ((True ∧ True) ∧ True)) rfl ⟨⟨trivial, trivial⟩, trivial⟩ ?_
            refine gv_pick [1, 2, 0] rfl ?_
            exact ih11 (v2_10 + 1) (by exact gz_m 2 (by omega)) (by exact gz_m 3 (by omega))
          have L50 : ((0 ≤ v1_6 ∧ v1_6 ≤ 400) ∧ (0 ≤ v2_10 ∧ v2_10 ≤ 299) ∧ (I4 86 1 ≤ v2_10 + 1 ∨ (I4 (86 + 1 + 2 * Int.toNat (I4 86 2)) (Int.toNat v2_10) = -1 ∧ I4 (86 + 1 + 2 * Int.toNat (I4 86 2)) (Int.toNat (v2_10 + 1)) = -2))) → gv_X (gc_E10 ws0 tb 3 (yX10_reduce, cX10_reduce, 3, (some .boolean)) kX10_reduce) (gv_Q cX10_reduce (some .boolean) sh (fun r h' => (∃ (I' : gr_I) (J' : gr_J), h' = gc_h sh I' J' A ∧ gc_Inv ro I' ∧ (∀ q j : Nat, (q = 87 ∨ q = 89 ∨ (q = 86 ∧ j = 1) ∨ (q = 86 ∧ j = 2) ∨ (q = 86 ∧ j = 3) ∨ (q = 86 ∧ j = 4) ∨ (q = 86 ∧ j = 5) ∨ q = 92 ∨ q = 93) ∨ I' q j = I q j) ∧ (∀ q j : Nat, (q = 88 ∨ q = 90) ∨ J' q j = J q j) ∧ (∃ z : Int, r = some (.inl z) ∧ 0 ≤ z ∧ z ≤ 1 ∧ (I' 86 2 + I' 86 4 = 1) ∧ (z = 0 ∨ gc_TC (I' (86 + 1 + 2 * Int.toNat (I' 86 2))) (I' 86 1)))))) (50, [(0, .inr (.inr (some 86))), (1, .inl v1_6), (2, .inl v2_10)], [], sh, gc_h sh I4 J5 A) := by
            intro m_18
            obtain ⟨hv1_6_18, hv2_10_18, e0_18⟩ := m_18
            have f19 := (show 0 ≤ I4 86 1 ∧ I4 86 1 ≤ 300 from gc_in hI4 R_86 rfl rfl)
            have f20 := (show 0 ≤ I4 86 2 ∧ I4 86 2 ≤ 1 from gc_in hI4 R_86 rfl rfl)
            have f21 := (show 0 ≤ I4 86 4 ∧ I4 86 4 ≤ 1 from gc_in hI4 R_86 rfl rfl)
            have L77 : ∀ (I22 : gr_I) (J23 : gr_J) , gc_Inv ro I22 → (∀ q j : Nat, (q = 87 ∨ q = 89 ∨ (q = 86 ∧ j = 1) ∨ (q = 86 ∧ j = 2) ∨ (q = 86 ∧ j = 3) ∨ (q = 86 ∧ j = 4) ∨ (q = 86 ∧ j = 5) ∨ q = 92 ∨ q = 93) ∨ I22 q j = I q j) → (∀ q j : Nat, (q = 88 ∨ q = 90) ∨ J23 q j = J q j) → ((I22 86 2 + I22 86 4 = 1)) → gv_X (gc_E10 ws0 tb 3 (yX10_reduce, cX10_reduce, 3, (some .boolean)) kX10_reduce) (gv_Q cX10_reduce (some .boolean) sh (fun r h' => (∃ (I' : gr_I) (J' : gr_J), h' = gc_h sh I' J' A ∧ gc_Inv ro I' ∧ (∀ q j : Nat, (q = 87 ∨ q = 89 ∨ (q = 86 ∧ j = 1) ∨ (q = 86 ∧ j = 2) ∨ (q = 86 ∧ j = 3) ∨ (q = 86 ∧ j = 4) ∨ (q = 86 ∧ j = 5) ∨ q = 92 ∨ q = 93) ∨ I' q j = I q j) ∧ (∀ q j : Nat, (q = 88 ∨ q = 90) ∨ J' q j = J q j) ∧ (∃ z : Int, r = some (.inl z) ∧ 0 ≤ z ∧ z ≤ 1 ∧ (I' 86 2 + I' 86 4 = 1) ∧ (z = 0 ∨ gc_TC (I' (86 + 1 + 2 * Int.toNat (I' 86 2))) (I' 86 1)))))) (77, [], [], sh, gc_h sh I22 J23 A) := by
              intro I22 J23 hI22 FI22 FJ23 m_24
              clear hv1_6_18 hv2_10_18 e0_18 f19 f20 f21 hv1_6_10 hv2_10 f11 f12 f13 hv1_6 e0_6 f7 f8 f9
              have e0_24 := m_24
              have f25 := (show 0 ≤ I22 86 1 ∧ I22 86 1 ≤ 300 from gc_in hI22 R_86 rfl rfl)
              have f26 := (show 0 ≤ I22 86 2 ∧ I22 86 2 ≤ 1 from gc_in hI22 R_86 rfl rfl)
              have f27 := (show 0 ≤ I22 86 4 ∧ I22 86 4 ≤ 1 from gc_in hI22 R_86 rfl rfl)
              refine gv_run 1 true hD (pc' := 78) (lv' := []) (st' := [.inl 0]) (h' := gc_h sh I22 J23 A) (C := (True ∧ True)) rfl ⟨trivial, trivial⟩ ?_
              exact gv_zret hD rfl (by exact gz_m 4 (by omega)) ⟨I22, J23, rfl, hI22, FI22, FJ23, ⟨_, rfl, by exact gz_m 5 (by omega), by exact gz_m 6 (by omega), by exact gz_m 7 (by omega), (Or.inl rfl)⟩⟩
            refine gv_run 4 true hD (pc' := 54) (lv' := [(0, .inr (.inr (some 86))), (1, .inl v1_6), (2, .inl v2_10)]) (st' := [.inr (.inr (some 86)), .inl (v2_10 + 1)]) (h' := gc_h sh I4 J5 A) (C := ((((True ∧ True) ∧ True) ∧ True) ∧ True)) rfl ⟨⟨⟨⟨trivial, trivial⟩, trivial⟩, trivial⟩, trivial⟩ ?_
            have f28 := (show 0 ≤ I4 86 1 ∧ I4 86 1 ≤ 300 from gc_in hI4 R_86 rfl rfl)
            refine gv_get hD rfl rfl S_86 ⟨by decide, B_86⟩ (gc_hI S_86 rfl) ?_
            show gv_X _ _ (57, [(0, .inr (.inr (some 86))), (1, .inl v1_6), (2, .inl v2_10)], [.inl (I4 86 1), .inl (v2_10 + 1)], sh, gc_h sh I4 J5 A)
            refine gv_icmp_lt (t := 62) hD rfl rfl ⟨⟨by exact gz_m 8 (by omega), by exact gz_m 9 (by omega)⟩, ⟨by exact gz_m 10 (by omega), by exact gz_m 11 (by omega)⟩⟩ (fun c29 => ?_) (fun c29 => ?_)
            · show gv_X _ _ (62, [(0, .inr (.inr (some 86))), (1, .inl v1_6), (2, .inl v2_10)], [], sh, gc_h sh I4 J5 A)
              refine gv_run 2 true hD (pc' := 66) (lv' := [(0, .inr (.inr (some 86))), (1, .inl v1_6), (2, .inl v2_10)]) (st' := [.inl 400, .inl v1_6]) (h' := gc_h sh I4 J5 A) (C := ((True ∧ True) ∧ True)) rfl ⟨⟨trivial, trivial⟩, trivial⟩ ?_
              refine gv_icmp_eq (t := 77) hD rfl rfl ⟨⟨by exact gz_m 12 (by omega), by exact gz_m 13 (by omega)⟩, ⟨by exact gz_m 14 (by omega), by exact gz_m 15 (by omega)⟩⟩ (fun c30 => ?_) (fun c30 => ?_)
              · show gv_X _ _ (77, [(0, .inr (.inr (some 86))), (1, .inl v1_6), (2, .inl v2_10)], [], sh, gc_h sh I4 J5 A)
                refine gv_pick [] rfl ?_
                exact L77 I4 J5 hI4 FI4 FJ5 (by exact gz_m 16 (by omega))
              · show gv_X _ _ (69, [(0, .inr (.inr (some 86))), (1, .inl v1_6), (2, .inl v2_10)], [], sh, gc_h sh I4 J5 A)
                refine gv_run 2 true hD (pc' := 71) (lv' := [(0, .inr (.inr (some 86))), (1, .inl v1_6), (2, .inl v2_10)]) (st' := [.inl v2_10, .inr (.inr (some 86))]) (h' := gc_h sh I4 J5 A) (C := ((True ∧ True) ∧ True)) rfl ⟨⟨trivial, trivial⟩, trivial⟩ ?_
                obtain ⟨r31, h31, E31, P31⟩ := d_X10_contract (ws0 := ws0) (tb := tb) hws htb sh ro I4 J5 A hI4  ((86 + 1 + 2 * Int.toNat (I4 86 2))) ((86 + 1 + 2 * Int.toNat (I4 86 4))) (41 + 300 * v1_6) v2_10 hb   ⟨by exact gz_m 17 (by omega), by exact gz_m 18 (by omega)⟩ (by exact gz_m 19 (by omega)) (by exact gz_m 20 (by omega)) (by exact gz_m 21 (by omega)) (by exact gz_m 22 (by omega)) e1_6 e2_6 (by exact gz_m 23 (by omega)) (by exact gz_m 24 (by omega)) (by exact gz_m 25 (by omega)) (by exact gz_m 26 (by omega)) 
                obtain ⟨I32, J33, rfl, hI32, g31, k31, ⟨z31, rfl, q31⟩⟩ := P31
                have FI32 := gc_frc (W := fun q j => q = 87 ∨ q = 89 ∨ (q = 86 ∧ j = 1) ∨ (q = 86 ∧ j = 2) ∨ (q = 86 ∧ j = 3) ∨ (q = 86 ∧ j = 4) ∨ (q = 86 ∧ j = 5) ∨ q = 92 ∨ q = 93) (V := fun q j => q = (86 + 1 + 2 * Int.toNat (I4 86 4)) ∨ (q = 86 ∧ j = 1) ∨ (q = 86 ∧ j = 2) ∨ (q = 86 ∧ j = 3) ∨ (q = 86 ∧ j = 4) ∨ (q = 86 ∧ j = 5) ∨ q = 92 ∨ q = 93) FI4 (fun q j h => (h.elim (fun h => (show q = 87 ∨ q = 89 ∨ (q = 86 ∧ j = 1) ∨ (q = 86 ∧ j = 2) ∨ (q = 86 ∧ j = 3) ∨ (q = 86 ∧ j = 4) ∨ (q = 86 ∧ j = 5) ∨ q = 92 ∨ q = 93 from by exact gz_m 27 (by omega))) (fun h => (h.elim (fun h => (Or.inr (Or.inr (Or.inl h)))) (fun h => (h.elim (fun h => (Or.inr (Or.inr (Or.inr (Or.inl h))))) (fun h => (h.elim (fun h => (Or.inr (Or.inr (Or.inr (Or.inr (Or.inl h)))))) (fun h => (h.elim (fun h => (Or.inr (Or.inr (Or.inr (Or.inr (Or.inr (Or.inl h))))))) (fun h => (h.elim (fun h => (Or.inr (Or.inr (Or.inr (Or.inr (Or.inr (Or.inr (Or.inl h)))))))) (fun h => (h.elim (fun h => (Or.inr (Or.inr (Or.inr (Or.inr (Or.inr (Or.inr (Or.inr (Or.inl h))))))))) (fun h => (Or.inr (Or.inr (Or.inr (Or.inr (Or.inr (Or.inr (Or.inr (Or.inr h))))))))))))))))))))))) g31
                have FJ33 := gc_frc (W := fun q j => q = 88 ∨ q = 90) (V := fun q j => q = 88 ∨ q = 90) FJ5 (fun q j h => (h.elim (fun h => (Or.inl h)) (fun h => (Or.inr h)))) k31
                have f34 := (show 0 ≤ I32 86 1 ∧ I32 86 1 ≤ 300 from gc_in hI32 R_86 rfl rfl)
                have f35 := (show 0 ≤ I32 86 2 ∧ I32 86 2 ≤ 1 from gc_in hI32 R_86 rfl rfl)
                have f36 := (show 0 ≤ I32 86 4 ∧ I32 86 4 ≤ 1 from gc_in hI32 R_86 rfl rfl)
                refine gv_callV hD rfl (As := [.inl v2_10]) (st := []) rfl B_86 S_86 rfl (gc_lV10 hws rfl) (Nat.le_of_ble_eq_true rfl) (gz_Ev_mono (d := 3) (by decide) E31) ?_
                show gv_X _ _ (74, [(0, .inr (.inr (some 86))), (1, .inl v1_6), (2, .inl v2_10)], [.inl z31], sh, gc_h sh I32 J33 A)
                refine gv_if_ne (t := 79) hD rfl rfl ⟨by exact gz_m 28 (by omega), by exact gz_m 29 (by omega)⟩ (fun c37 => ?_) (fun c37 => ?_)
                · show gv_X _ _ (79, [(0, .inr (.inr (some 86))), (1, .inl v1_6), (2, .inl v2_10)], [], sh, gc_h sh I32 J33 A)
                  refine gv_run 2 true hD (pc' := 2) (lv' := [(1, .inl (v1_6 + 1)), (0, .inr (.inr (some 86))), (2, .inl v2_10)]) (st' := []) (h' := gc_h sh I32 J33 A) (C := ((True ∧ True) ∧ True)) rfl ⟨⟨trivial, trivial⟩, trivial⟩ ?_
                  refine gv_pick [1, 0] rfl ?_
                  exact ih2 I32 J33 (v1_6 + 1) (by exact gz_m 30 (by omega)) hI32 FI32 FJ33 (by exact gz_m 31 (by omega)) (by rw [show I32 86 2 = I4 86 4 from by exact gz_m 32 (by omega)]; exact q31.2.2.2.1.resolve_left (by exact gz_m 33 (by omega))) (by rw [show I32 86 2 = I4 86 4 from by exact gz_m 34 (by omega)]; have h9 := q31.2.2.2.2.resolve_left (by exact gz_m 35 (by omega)); exact (fun k hk => by have := h9 k hk; exact gz_m 36 (by omega)))
                · show gv_X _ _ (77, [(0, .inr (.inr (some 86))), (1, .inl v1_6), (2, .inl v2_10)], [], sh, gc_h sh I32 J33 A)
                  refine gv_pick [] rfl ?_
                  exact L77 I32 J33 hI32 FI32 FJ33 (by exact gz_m 37 (by omega))
            · show gv_X _ _ (60, [(0, .inr (.inr (some 86))), (1, .inl v1_6), (2, .inl v2_10)], [], sh, gc_h sh I4 J5 A)
              refine gv_run 1 true hD (pc' := 61) (lv' := [(0, .inr (.inr (some 86))), (1, .inl v1_6), (2, .inl v2_10)]) (st' := [.inl 1]) (h' := gc_h sh I4 J5 A) (C := (True ∧ True)) rfl ⟨trivial, trivial⟩ ?_
              exact gv_zret hD rfl (by exact gz_m 38 (by omega)) ⟨I4, J5, rfl, hI4, FI4, FJ5, ⟨_, rfl, by exact gz_m 39 (by omega), by exact gz_m 40 (by omega), by exact gz_m 41 (by omega), (Or.inr e1_6)⟩⟩
          refine gv_run 4 true hD (pc' := 15) (lv' := [(0, .inr (.inr (some 86))), (1, .inl v1_6), (2, .inl v2_10)]) (st' := [.inr (.inr (some 86)), .inl (v2_10 + 1)]) (h' := gc_h sh I4 J5 A) (C := ((((True ∧ True) ∧ True) ∧ True) ∧ True)) rfl ⟨⟨⟨⟨trivial, trivial⟩, trivial⟩, trivial⟩, trivial⟩ ?_
          have f38 := (show 0 ≤ I4 86 1 ∧ I4 86 1 ≤ 300 from gc_in hI4 R_86 rfl rfl)
          refine gv_get hD rfl rfl S_86 ⟨by decide, B_86⟩ (gc_hI S_86 rfl) ?_
          show gv_X _ _ (18, [(0, .inr (.inr (some 86))), (1, .inl v1_6), (2, .inl v2_10)], [.inl (I4 86 1), .inl (v2_10 + 1)], sh, gc_h sh I4 J5 A)
          refine gv_icmp_ge (t := 50) hD rfl rfl ⟨⟨by exact gz_m 42 (by omega), by exact gz_m 43 (by omega)⟩, ⟨by exact gz_m 44 (by omega), by exact gz_m 45 (by omega)⟩⟩ (fun c39 => ?_) (fun c39 => ?_)
          · show gv_X _ _ (50, [(0, .inr (.inr (some 86))), (1, .inl v1_6), (2, .inl v2_10)], [], sh, gc_h sh I4 J5 A)
            exact L50 (by exact gz_m 46 (by omega))
          · show gv_X _ _ (21, [(0, .inr (.inr (some 86))), (1, .inl v1_6), (2, .inl v2_10)], [], sh, gc_h sh I4 J5 A)
            refine gv_run 1 true hD (pc' := 22) (lv' := [(0, .inr (.inr (some 86))), (1, .inl v1_6), (2, .inl v2_10)]) (st' := [.inr (.inr (some 86))]) (h' := gc_h sh I4 J5 A) (C := (True ∧ True)) rfl ⟨trivial, trivial⟩ ?_
            have f41 := (show 0 ≤ I4 86 2 ∧ I4 86 2 ≤ 1 from gc_in hI4 R_86 rfl rfl)
            obtain ⟨f40_, hq_f40_, S_f40, R_f40, B_f40, D_f40⟩ := gc_sw (p := 86) (d := 1) (s := 2) (z := I4 86 2) (show 0 ≤ I4 86 2 ∧ I4 86 2 ≤ 1 from gc_in hI4 R_86 rfl rfl) S_87 R_87 B_87 S_89 R_89 B_89
            refine gv_get hD rfl rfl S_86 ⟨by decide, B_86⟩ (gc_hS (n := 1001) S_86 rfl hq_f40_) ?_
            show gv_X _ _ (25, [(0, .inr (.inr (some 86))), (1, .inl v1_6), (2, .inl v2_10)], [.inr (.inr (some f40_))], sh, gc_h sh I4 J5 A)
            refine gv_run 1 true hD (pc' := 26) (lv' := [(0, .inr (.inr (some 86))), (1, .inl v1_6), (2, .inl v2_10)]) (st' := [.inl v2_10, .inr (.inr (some f40_))]) (h' := gc_h sh I4 J5 A) (C := (True ∧ True)) rfl ⟨trivial, trivial⟩ ?_
            have t42 := (show I4 (86 + 1 + 2 * Int.toNat (I4 86 2)) (Int.toNat v2_10) = I4 f40_ (Int.toNat v2_10) from by rw [hq_f40_])
            have f43 := (show (-3) ≤ I4 f40_ (Int.toNat v2_10) ∧ I4 f40_ (Int.toNat v2_10) ≤ 1000000 from gc_in hI4 R_f40 rfl rfl)
            refine gv_iald hD rfl S_f40 rfl ⟨by decide, B_f40⟩ ⟨by exact gz_m 47 (by omega), by exact gz_m 48 (by omega)⟩ (gc_iI S_f40 rfl) ?_
            show gv_X _ _ (27, [(0, .inr (.inr (some 86))), (1, .inl v1_6), (2, .inl v2_10)], [.inl (I4 f40_ (Int.toNat v2_10))], sh, gc_h sh I4 J5 A)
            refine gv_run 1 true hD (pc' := 28) (lv' := [(0, .inr (.inr (some 86))), (1, .inl v1_6), (2, .inl v2_10)]) (st' := [.inl (-1), .inl (I4 f40_ (Int.toNat v2_10))]) (h' := gc_h sh I4 J5 A) (C := (True ∧ True)) rfl ⟨trivial, trivial⟩ ?_
            refine gv_icmp_ne (t := 44) hD rfl rfl ⟨⟨by exact gz_m 49 (by omega), by exact gz_m 50 (by omega)⟩, ⟨by exact gz_m 51 (by omega), by exact gz_m 52 (by omega)⟩⟩ (fun c44 => ?_) (fun c44 => ?_)
            · show gv_X _ _ (44, [(0, .inr (.inr (some 86))), (1, .inl v1_6), (2, .inl v2_10)], [], sh, gc_h sh I4 J5 A)
              exact L44 (by exact gz_m 53 (by omega))
            · show gv_X _ _ (31, [(0, .inr (.inr (some 86))), (1, .inl v1_6), (2, .inl v2_10)], [], sh, gc_h sh I4 J5 A)
              refine gv_run 1 true hD (pc' := 32) (lv' := [(0, .inr (.inr (some 86))), (1, .inl v1_6), (2, .inl v2_10)]) (st' := [.inr (.inr (some 86))]) (h' := gc_h sh I4 J5 A) (C := (True ∧ True)) rfl ⟨trivial, trivial⟩ ?_
              have f46 := (show 0 ≤ I4 86 2 ∧ I4 86 2 ≤ 1 from gc_in hI4 R_86 rfl rfl)
              obtain ⟨f45_, hq_f45_, S_f45, R_f45, B_f45, D_f45⟩ := gc_sw (p := 86) (d := 1) (s := 2) (z := I4 86 2) (show 0 ≤ I4 86 2 ∧ I4 86 2 ≤ 1 from gc_in hI4 R_86 rfl rfl) S_87 R_87 B_87 S_89 R_89 B_89
              refine gv_get hD rfl rfl S_86 ⟨by decide, B_86⟩ (gc_hS (n := 1001) S_86 rfl hq_f45_) ?_
              show gv_X _ _ (35, [(0, .inr (.inr (some 86))), (1, .inl v1_6), (2, .inl v2_10)], [.inr (.inr (some f45_))], sh, gc_h sh I4 J5 A)
              refine gv_run 3 true hD (pc' := 38) (lv' := [(0, .inr (.inr (some 86))), (1, .inl v1_6), (2, .inl v2_10)]) (st' := [.inl (v2_10 + 1), .inr (.inr (some f45_))]) (h' := gc_h sh I4 J5 A) (C := (((True ∧ True) ∧ True) ∧ True)) rfl ⟨⟨⟨trivial, trivial⟩, trivial⟩, trivial⟩ ?_
              have t47 := (show I4 (86 + 1 + 2 * Int.toNat (I4 86 2)) (Int.toNat (v2_10 + 1)) = I4 f45_ (Int.toNat (v2_10 + 1)) from by rw [hq_f45_])
              have f48 := (show (-3) ≤ I4 f45_ (Int.toNat (v2_10 + 1)) ∧ I4 f45_ (Int.toNat (v2_10 + 1)) ≤ 1000000 from gc_in hI4 R_f45 rfl rfl)
              refine gv_iald hD rfl S_f45 rfl ⟨by decide, B_f45⟩ ⟨by exact gz_m 54 (by omega), by exact gz_m 55 (by omega)⟩ (gc_iI S_f45 rfl) ?_
              show gv_X _ _ (39, [(0, .inr (.inr (some 86))), (1, .inl v1_6), (2, .inl v2_10)], [.inl (I4 f45_ (Int.toNat (v2_10 + 1)))], sh, gc_h sh I4 J5 A)
              refine gv_run 1 true hD (pc' := 41) (lv' := [(0, .inr (.inr (some 86))), (1, .inl v1_6), (2, .inl v2_10)]) (st' := [.inl (-2), .inl (I4 f45_ (Int.toNat (v2_10 + 1)))]) (h' := gc_h sh I4 J5 A) (C := (True ∧ True)) rfl ⟨trivial, trivial⟩ ?_
              refine gv_icmp_eq (t := 50) hD rfl rfl ⟨⟨by exact gz_m 56 (by omega), by exact gz_m 57 (by omega)⟩, ⟨by exact gz_m 58 (by omega), by exact gz_m 59 (by omega)⟩⟩ (fun c49 => ?_) (fun c49 => ?_)
              · show gv_X _ _ (50, [(0, .inr (.inr (some 86))), (1, .inl v1_6), (2, .inl v2_10)], [], sh, gc_h sh I4 J5 A)
                exact L50 (by exact gz_m 60 (by omega))
              · show gv_X _ _ (44, [(0, .inr (.inr (some 86))), (1, .inl v1_6), (2, .inl v2_10)], [], sh, gc_h sh I4 J5 A)
                exact L44 (by exact gz_m 61 (by omega))
      refine gv_run 2 true hD (pc' := 6) (lv' := [(0, .inr (.inr (some 86))), (1, .inl v1_6)]) (st' := [.inl 400, .inl v1_6]) (h' := gc_h sh I4 J5 A) (C := ((True ∧ True) ∧ True)) rfl ⟨⟨trivial, trivial⟩, trivial⟩ ?_
      refine gv_icmp_gt (t := 85) hD rfl rfl ⟨⟨by exact gz_m 62 (by omega), by exact gz_m 63 (by omega)⟩, ⟨by exact gz_m 64 (by omega), by exact gz_m 65 (by omega)⟩⟩ (fun c50 => ?_) (fun c50 => ?_)
      · exfalso; exact gz_m 66 (by omega)
      · show gv_X _ _ (9, [(0, .inr (.inr (some 86))), (1, .inl v1_6)], [], sh, gc_h sh I4 J5 A)
        refine gv_run 2 true hD (pc' := 11) (lv' := [(2, .inl 0), (0, .inr (.inr (some 86))), (1, .inl v1_6)]) (st' := []) (h' := gc_h sh I4 J5 A) (C := ((True ∧ True) ∧ True)) rfl ⟨⟨trivial, trivial⟩, trivial⟩ ?_
        refine gv_pick [1, 2, 0] rfl ?_
        exact L11 _ 0 (Nat.lt_succ_self _) (by exact gz_m 67 (by omega))
  refine gv_run 2 true hD (pc' := 2) (lv' := [(1, .inl 0), (0, .inr (.inr (some 86)))]) (st' := []) (h' := gc_h sh I J A) (C := ((True ∧ True) ∧ True)) rfl ⟨⟨trivial, trivial⟩, trivial⟩ ?_
  refine gv_pick [1, 0] rfl ?_
  exact L2 _ I J 0 (Nat.lt_succ_self _) hI FI FJ (by exact gz_m 68 (by omega)) x1 (fun k hk => by have := x2 k hk; exact gz_m 69 (by omega))
