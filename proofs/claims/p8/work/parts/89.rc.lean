set_option maxHeartbeats 8000000 in
set_option maxRecDepth 100000 in
theorem d_X5_putList {ws0 : List Cond} {tb : String → gz_T} (hws : gc_Ws ws0) (htb : gc_tbs tb) (sh : gz_Sh) (ro : Nat → Nat) (I : gr_I) (J : gr_J) (A : gc_A) (hI : gc_Inv ro I) (σ : Nat → Int) (a1 : Int) (a2 : Int) (a3 : Int) (hb : gc_Base sh ro A) (ha1 : 0 ≤ a1 ∧ a1 ≤ 8999) (ha2 : (-2147483648) ≤ a2 ∧ a2 ≤ 2147483647) (ha3 : 0 ≤ a3 ∧ a3 ≤ 65535) (x0 : gc_LH σ (-1) I) (x1 : gc_va σ I a1 a3) (x2 : I 53 (Int.toNat a1) < I 48 3) : ∃ r h', gz_Ev ws0 tb 1 (yX5_putList, cX5_putList, 8, none) [.inr (.inr (some 61)), .inl a1, .inl a2, .inl a3] sh (gc_h sh I J A) r sh h' 0 0 ∧ (∃ (I' : gr_I) (J' : gr_J), h' = gc_h sh I' J' A ∧ gc_Inv ro I' ∧ (∀ q j : Nat, (q = 67 ∨ q = 68 ∨ q = 69 ∨ q = 70) ∨ I' q j = I q j) ∧ (∀ q j : Nat, (False) ∨ J' q j = J q j) ∧ r = none ∧ (gc_LH σ (-1) I') ∧ (∀ k : Nat, I 67 k ≤ I' 67 k)) := by
  have FI : ∀ q j : Nat, (q = 67 ∨ q = 68 ∨ q = 69 ∨ q = 70) ∨ I q j = I q j := fun _ _ => Or.inr rfl
  have FJ : ∀ q j : Nat, (False) ∨ J q j = J q j := fun _ _ => Or.inr rfl
  have A_48_7 : A 48 7 = some 53 := gc_bA hb rfl
  have A_61_1 : A 61 1 = some 48 := gc_bA hb rfl
  have A_61_11 : A 61 11 = some 67 := gc_bA hb rfl
  have A_61_12 : A 61 12 = some 68 := gc_bA hb rfl
  have A_61_13 : A 61 13 = some 69 := gc_bA hb rfl
  have A_61_14 : A 61 14 = some 70 := gc_bA hb rfl
  have B_48 : 48 < 1000000 := by decide
  have B_53 : 53 < 1000000 := by decide
  have B_61 : 61 < 1000000 := by decide
  have B_67 : 67 < 1000000 := by decide
  have B_68 : 68 < 1000000 := by decide
  have B_69 : 69 < 1000000 := by decide
  have B_70 : 70 < 1000000 := by decide
  have R_48 : ro 48 = 49 := gc_bR hb (by decide) rfl
  have R_53 : ro 53 = 44 := gc_bR hb (by decide) rfl
  have R_67 : ro 67 = 52 := gc_bR hb (by decide) rfl
  have R_68 : ro 68 = 0 := gc_bR hb (by decide) rfl
  have R_69 : ro 69 = 51 := gc_bR hb (by decide) rfl
  have R_70 : ro 70 = 53 := gc_bR hb (by decide) rfl
  have S_48 : sh[48]? = some (false, 0, 22) := gc_bS hb rfl
  have S_53 : sh[53]? = some (true, 1, 9000) := gc_bS hb rfl
  have S_61 : sh[61]? = some (false, 5, 19) := gc_bS hb rfl
  have S_67 : sh[67]? = some (true, 1, 3000) := gc_bS hb rfl
  have S_68 : sh[68]? = some (true, 1, 48000) := gc_bS hb rfl
  have S_69 : sh[69]? = some (true, 1, 48000) := gc_bS hb rfl
  have S_70 : sh[70]? = some (true, 1, 48000) := gc_bS hb rfl
  have hD : gv_D (gc_E5 ws0 tb 0 (yX5_putList, cX5_putList, 8, none) kX5_putList) := gq_of oX5_putList
  refine gc_ev5 (d := 0) (l := kX5_putList) (Po := fun r h' => (∃ (I' : gr_I) (J' : gr_J), h' = gc_h sh I' J' A ∧ gc_Inv ro I' ∧ (∀ q j : Nat, (q = 67 ∨ q = 68 ∨ q = 69 ∨ q = 70) ∨ I' q j = I q j) ∧ (∀ q j : Nat, (False) ∨ J' q j = J q j) ∧ r = none ∧ (gc_LH σ (-1) I') ∧ (∀ k : Nat, I 67 k ≤ I' 67 k))) htb rfl (Nat.le_of_ble_eq_true rfl) ?_
  have f1 := (show 0 ≤ I 48 3 ∧ I 48 3 ≤ 3000 from gc_in hI R_48 rfl rfl)
  have L30 : ∀ (n9 : Nat) (v4_2 : Int) (v5_2 : Int) (v6_2 : Int), (v6_2 - (-1)).toNat < n9 → ((0 ≤ a1 ∧ a1 ≤ 8999) ∧ ((-2147483648) ≤ a2 ∧ a2 ≤ 2147483647) ∧ (0 ≤ a3 ∧ a3 ≤ 65535) ∧ (0 ≤ v4_2 ∧ v4_2 ≤ 2999) ∧ (0 ≤ v5_2 ∧ v5_2 ≤ 47984) ∧ (0 ≤ v6_2 ∧ v6_2 ≤ 48000) ∧ (v5_2 = v4_2 * 16) ∧ (v5_2 ≤ v6_2) ∧ (v6_2 ≤ v5_2 + I 67 (Int.toNat v4_2)) ∧ (v4_2 < I 48 3)) → gv_X (gc_E5 ws0 tb 0 (yX5_putList, cX5_putList, 8, none) kX5_putList) (gv_Q cX5_putList none sh (fun r h' => (∃ (I' : gr_I) (J' : gr_J), h' = gc_h sh I' J' A ∧ gc_Inv ro I' ∧ (∀ q j : Nat, (q = 67 ∨ q = 68 ∨ q = 69 ∨ q = 70) ∨ I' q j = I q j) ∧ (∀ q j : Nat, (False) ∨ J' q j = J q j) ∧ r = none ∧ (gc_LH σ (-1) I') ∧ (∀ k : Nat, I 67 k ≤ I' 67 k)))) (30, [(0, .inr (.inr (some 61))), (1, .inl a1), (2, .inl a2), (3, .inl a3), (4, .inl v4_2), (5, .inl v5_2), (6, .inl v6_2)], [], sh, gc_h sh I J A) := by
    intro n9
    induction n9 with
    | zero => intro v4_2 v5_2 v6_2 hn; exact gz_m 0 (by omega)
    | succ n9 ih30 =>
      intro v4_2 v5_2 v6_2 hn m_2
      obtain ⟨ha1_2, ha2_2, ha3_2, hv4_2, hv5_2, hv6_2, e0_2, e1_2, e2_2, e3_2⟩ := m_2
      have f3 := (show 0 ≤ I 48 3 ∧ I 48 3 ≤ 3000 from gc_in hI R_48 rfl rfl)
      have L56 : ((0 ≤ a1 ∧ a1 ≤ 8999) ∧ ((-2147483648) ≤ a2 ∧ a2 ≤ 2147483647) ∧ (0 ≤ a3 ∧ a3 ≤ 65535) ∧ (0 ≤ v4_2 ∧ v4_2 ≤ 2999) ∧ (0 ≤ v5_2 ∧ v5_2 ≤ 47984) ∧ (0 ≤ v6_2 ∧ v6_2 ≤ 48000) ∧ (v5_2 = v4_2 * 16) ∧ (v5_2 ≤ v6_2) ∧ (v6_2 ≤ v5_2 + I 67 (Int.toNat v4_2)) ∧ (v4_2 < I 48 3)) → gv_X (gc_E5 ws0 tb 0 (yX5_putList, cX5_putList, 8, none) kX5_putList) (gv_Q cX5_putList none sh (fun r h' => (∃ (I' : gr_I) (J' : gr_J), h' = gc_h sh I' J' A ∧ gc_Inv ro I' ∧ (∀ q j : Nat, (q = 67 ∨ q = 68 ∨ q = 69 ∨ q = 70) ∨ I' q j = I q j) ∧ (∀ q j : Nat, (False) ∨ J' q j = J q j) ∧ r = none ∧ (gc_LH σ (-1) I') ∧ (∀ k : Nat, I 67 k ≤ I' 67 k)))) (56, [(0, .inr (.inr (some 61))), (1, .inl a1), (2, .inl a2), (3, .inl a3), (4, .inl v4_2), (5, .inl v5_2), (6, .inl v6_2)], [], sh, gc_h sh I J A) := by
        intro m_4
        obtain ⟨ha1_4, ha2_4, ha3_4, hv4_2_4, hv5_2_4, hv6_2_4, e0_4, e1_4, e2_4, e3_4⟩ := m_4
        have f5 := (show 0 ≤ I 48 3 ∧ I 48 3 ≤ 3000 from gc_in hI R_48 rfl rfl)
        have L90 : ∀ (I6 : gr_I) (J7 : gr_J) , gc_Inv ro I6 → (∀ q j : Nat, (q = 67 ∨ q = 68 ∨ q = 69 ∨ q = 70) ∨ I6 q j = I q j) → (∀ q j : Nat, (False) ∨ J7 q j = J q j) → ((0 ≤ a1 ∧ a1 ≤ 8999) ∧ ((-2147483648) ≤ a2 ∧ a2 ≤ 2147483647) ∧ (0 ≤ a3 ∧ a3 ≤ 65535) ∧ (0 ≤ v4_2 ∧ v4_2 ≤ 2999) ∧ (0 ≤ v5_2 ∧ v5_2 ≤ 47984) ∧ (0 ≤ v6_2 ∧ v6_2 ≤ 47999) ∧ (v5_2 = v4_2 * 16) ∧ (v5_2 ≤ v6_2) ∧ (I6 67 (Int.toNat v4_2) ≤ 16) ∧ (v6_2 < v5_2 + I6 67 (Int.toNat v4_2)) ∧ (v4_2 < I6 48 3) ∧ (I6 48 3 = I 48 3)) → (gc_LH σ (v5_2 + I6 67 (Int.toNat v4_2) - 1) I6) → (∀ k : Nat, I 67 k ≤ I6 67 k) → gv_X (gc_E5 ws0 tb 0 (yX5_putList, cX5_putList, 8, none) kX5_putList) (gv_Q cX5_putList none sh (fun r h' => (∃ (I' : gr_I) (J' : gr_J), h' = gc_h sh I' J' A ∧ gc_Inv ro I' ∧ (∀ q j : Nat, (q = 67 ∨ q = 68 ∨ q = 69 ∨ q = 70) ∨ I' q j = I q j) ∧ (∀ q j : Nat, (False) ∨ J' q j = J q j) ∧ r = none ∧ (gc_LH σ (-1) I') ∧ (∀ k : Nat, I 67 k ≤ I' 67 k)))) (90, [(0, .inr (.inr (some 61))), (1, .inl a1), (2, .inl a2), (3, .inl a3), (4, .inl v4_2), (5, .inl v5_2), (6, .inl v6_2)], [], sh, gc_h sh I6 J7 A) := by
          intro I6 J7 hI6 FI6 FJ7 m_8 e0_8 e1_8
          clear ha1_4 ha2_4 ha3_4 hv4_2_4 hv5_2_4 hv6_2_4 e0_4 e1_4 e2_4 e3_4 f5 ha1_2 ha2_2 ha3_2 hv4_2 hv5_2 hv6_2 e0_2 e1_2 e2_2 e3_2 f3
          obtain ⟨ha1_8, ha2_8, ha3_8, hv4_2_8, hv5_2_8, hv6_2_8, e2_8, e3_8, e4_8, e5_8, e6_8, e7_8⟩ := m_8
          have f9 := (show 0 ≤ I6 48 3 ∧ I6 48 3 ≤ 3000 from gc_in hI6 R_48 rfl rfl)
          have L104 : ∀ (n9 : Nat) (I10 : gr_I) (J11 : gr_J) (v7_12 : Int), (v7_12 - (-1)).toNat < n9 → gc_Inv ro I10 → (∀ q j : Nat, (q = 67 ∨ q = 68 ∨ q = 69 ∨ q = 70) ∨ I10 q j = I q j) → (∀ q j : Nat, (False) ∨ J11 q j = J q j) → ((0 ≤ a1 ∧ a1 ≤ 8999) ∧ ((-2147483648) ≤ a2 ∧ a2 ≤ 2147483647) ∧ (0 ≤ a3 ∧ a3 ≤ 65535) ∧ (0 ≤ v4_2 ∧ v4_2 ≤ 2999) ∧ (0 ≤ v5_2 ∧ v5_2 ≤ 47984) ∧ (0 ≤ v6_2 ∧ v6_2 ≤ 47999) ∧ (0 ≤ v7_12 ∧ v7_12 ≤ 47999) ∧ (v5_2 = v4_2 * 16) ∧ (v5_2 ≤ v6_2) ∧ (I10 67 (Int.toNat v4_2) ≤ 16) ∧ (v6_2 ≤ v7_12) ∧ (v7_12 < v5_2 + I10 67 (Int.toNat v4_2)) ∧ (v4_2 < I10 48 3) ∧ (I10 48 3 = I 48 3)) → (gc_LH σ v7_12 I10) → (∀ k : Nat, I 67 k ≤ I10 67 k) → gv_X (gc_E5 ws0 tb 0 (yX5_putList, cX5_putList, 8, none) kX5_putList) (gv_Q cX5_putList none sh (fun r h' => (∃ (I' : gr_I) (J' : gr_J), h' = gc_h sh I' J' A ∧ gc_Inv ro I' ∧ (∀ q j : Nat, (q = 67 ∨ q = 68 ∨ q = 69 ∨ q = 70) ∨ I' q j = I q j) ∧ (∀ q j : Nat, (False) ∨ J' q j = J q j) ∧ r = none ∧ (gc_LH σ (-1) I') ∧ (∀ k : Nat, I 67 k ≤ I' 67 k)))) (104, [(0, .inr (.inr (some 61))), (1, .inl a1), (2, .inl a2), (3, .inl a3), (4, .inl v4_2), (5, .inl v5_2), (6, .inl v6_2), (7, .inl v7_12)], [], sh, gc_h sh I10 J11 A) := by
            intro n9
            induction n9 with
            | zero => intro I10 J11 v7_12 hn; exact gz_m 1 (by omega)
            | succ n9 ih104 =>
              intro I10 J11 v7_12 hn hI10 FI10 FJ11 m_12 e0_12 e1_12
              clear ha1_8 ha2_8 ha3_8 hv4_2_8 hv5_2_8 hv6_2_8 e2_8 e3_8 e4_8 e5_8 e6_8 e7_8 f9
              obtain ⟨ha1_12, ha2_12, ha3_12, hv4_2_12, hv5_2_12, hv6_2_12, hv7_12, e2_12, e3_12, e4_12, e5_12, e6_12, e7_12, e8_12⟩ := m_12
              have f13 := (show 0 ≤ I10 48 3 ∧ I10 48 3 ≤ 3000 from gc_in hI10 R_48 rfl rfl)
              refine gv_run 2 true hD (pc' := 108) (lv' := [(0, .inr (.inr (some 61))), (1, .inl a1), (2, .inl a2), (3, .inl a3), (4, .inl v4_2), (5, .inl v5_2), (6, .inl v6_2), (7, .inl v7_12)]) (st' := [.inl v6_2, .inl v7_12]) (h' := gc_h sh I10 J11 A) (C := ((True ∧ True) ∧ True)) rfl ⟨⟨trivial, trivial⟩, trivial⟩ ?_
              refine gv_icmp_le (t := 165) hD rfl rfl ⟨⟨by exact gz_m 2 (by omega), by exact gz_m 3 (by omega)⟩, ⟨by exact gz_m 4 (by omega), by exact gz_m 5 (by omega)⟩⟩ (fun c14 => ?_) (fun c14 => ?_)
              · show gv_X _ _ (165, [(0, .inr (.inr (some 61))), (1, .inl a1), (2, .inl a2), (3, .inl a3), (4, .inl v4_2), (5, .inl v5_2), (6, .inl v6_2), (7, .inl v7_12)], [], sh, gc_h sh I10 J11 A)
                refine gv_run 1 true hD (pc' := 166) (lv' := [(0, .inr (.inr (some 61))), (1, .inl a1), (2, .inl a2), (3, .inl a3), (4, .inl v4_2), (5, .inl v5_2), (6, .inl v6_2), (7, .inl v7_12)]) (st' := [.inr (.inr (some 61))]) (h' := gc_h sh I10 J11 A) (C := (True ∧ True)) rfl ⟨trivial, trivial⟩ ?_
                refine gv_get hD rfl rfl S_61 ⟨by decide, B_61⟩ (gc_hA S_61 rfl A_61_12) ?_
                show gv_X _ _ (169, [(0, .inr (.inr (some 61))), (1, .inl a1), (2, .inl a2), (3, .inl a3), (4, .inl v4_2), (5, .inl v5_2), (6, .inl v6_2), (7, .inl v7_12)], [.inr (.inr (some 68))], sh, gc_h sh I10 J11 A)
                refine gv_run 2 true hD (pc' := 172) (lv' := [(0, .inr (.inr (some 61))), (1, .inl a1), (2, .inl a2), (3, .inl a3), (4, .inl v4_2), (5, .inl v5_2), (6, .inl v6_2), (7, .inl v7_12)]) (st' := [.inl a2, .inl v6_2, .inr (.inr (some 68))]) (h' := gc_h sh I10 J11 A) (C := ((True ∧ True) ∧ True)) rfl ⟨⟨trivial, trivial⟩, trivial⟩ ?_
                refine gv_iast hD rfl S_68 ⟨by decide, B_68⟩ ⟨by exact gz_m 6 (by omega), by exact gz_m 7 (by omega)⟩ ?_
                refine gc_st hI10 S_68 rfl R_68 (lo := (-2147483648)) (hi := 2147483647) rfl rfl (by exact gz_m 8 (by omega)) (by exact gz_m 9 (by omega)) (fun I15 hI15 q16 p16 => ?_)
                have FI15 := gc_frs (W := fun q j => q = 67 ∨ q = 68 ∨ q = 69 ∨ q = 70) FI10 (Or.inr (Or.inl rfl)) p16
                have t17 := p16 48 3 (fun h => absurd h.1 (by decide))
                have t18 := p16 67 (Int.toNat v4_2) (fun h => absurd h.1 (by decide))
                show gv_X _ _ (173, [(0, .inr (.inr (some 61))), (1, .inl a1), (2, .inl a2), (3, .inl a3), (4, .inl v4_2), (5, .inl v5_2), (6, .inl v6_2), (7, .inl v7_12)], [], sh, gc_h sh I15 J11 A)
                refine gv_run 1 true hD (pc' := 174) (lv' := [(0, .inr (.inr (some 61))), (1, .inl a1), (2, .inl a2), (3, .inl a3), (4, .inl v4_2), (5, .inl v5_2), (6, .inl v6_2), (7, .inl v7_12)]) (st' := [.inr (.inr (some 61))]) (h' := gc_h sh I15 J11 A) (C := (True ∧ True)) rfl ⟨trivial, trivial⟩ ?_
                refine gv_get hD rfl rfl S_61 ⟨by decide, B_61⟩ (gc_hA S_61 rfl A_61_13) ?_
                show gv_X _ _ (177, [(0, .inr (.inr (some 61))), (1, .inl a1), (2, .inl a2), (3, .inl a3), (4, .inl v4_2), (5, .inl v5_2), (6, .inl v6_2), (7, .inl v7_12)], [.inr (.inr (some 69))], sh, gc_h sh I15 J11 A)
                refine gv_run 2 true hD (pc' := 180) (lv' := [(0, .inr (.inr (some 61))), (1, .inl a1), (2, .inl a2), (3, .inl a3), (4, .inl v4_2), (5, .inl v5_2), (6, .inl v6_2), (7, .inl v7_12)]) (st' := [.inl a1, .inl v6_2, .inr (.inr (some 69))]) (h' := gc_h sh I15 J11 A) (C := ((True ∧ True) ∧ True)) rfl ⟨⟨trivial, trivial⟩, trivial⟩ ?_
                refine gv_iast hD rfl S_69 ⟨by decide, B_69⟩ ⟨by exact gz_m 10 (by omega), by exact gz_m 11 (by omega)⟩ ?_
                refine gc_st hI15 S_69 rfl R_69 (lo := 0) (hi := 8999) rfl rfl (by exact gz_m 12 (by omega)) (by exact gz_m 13 (by omega)) (fun I19 hI19 q20 p20 => ?_)
                have FI19 := gc_frs (W := fun q j => q = 67 ∨ q = 68 ∨ q = 69 ∨ q = 70) FI15 (Or.inr (Or.inr (Or.inl rfl))) p20
                have t21 := p20 48 3 (fun h => absurd h.1 (by decide))
                have t22 := p20 67 (Int.toNat v4_2) (fun h => absurd h.1 (by decide))
                show gv_X _ _ (181, [(0, .inr (.inr (some 61))), (1, .inl a1), (2, .inl a2), (3, .inl a3), (4, .inl v4_2), (5, .inl v5_2), (6, .inl v6_2), (7, .inl v7_12)], [], sh, gc_h sh I19 J11 A)
                refine gv_run 1 true hD (pc' := 182) (lv' := [(0, .inr (.inr (some 61))), (1, .inl a1), (2, .inl a2), (3, .inl a3), (4, .inl v4_2), (5, .inl v5_2), (6, .inl v6_2), (7, .inl v7_12)]) (st' := [.inr (.inr (some 61))]) (h' := gc_h sh I19 J11 A) (C := (True ∧ True)) rfl ⟨trivial, trivial⟩ ?_
                refine gv_get hD rfl rfl S_61 ⟨by decide, B_61⟩ (gc_hA S_61 rfl A_61_14) ?_
                show gv_X _ _ (185, [(0, .inr (.inr (some 61))), (1, .inl a1), (2, .inl a2), (3, .inl a3), (4, .inl v4_2), (5, .inl v5_2), (6, .inl v6_2), (7, .inl v7_12)], [.inr (.inr (some 70))], sh, gc_h sh I19 J11 A)
                refine gv_run 2 true hD (pc' := 188) (lv' := [(0, .inr (.inr (some 61))), (1, .inl a1), (2, .inl a2), (3, .inl a3), (4, .inl v4_2), (5, .inl v5_2), (6, .inl v6_2), (7, .inl v7_12)]) (st' := [.inl a3, .inl v6_2, .inr (.inr (some 70))]) (h' := gc_h sh I19 J11 A) (C := ((True ∧ True) ∧ True)) rfl ⟨⟨trivial, trivial⟩, trivial⟩ ?_
                refine gv_iast hD rfl S_70 ⟨by decide, B_70⟩ ⟨by exact gz_m 14 (by omega), by exact gz_m 15 (by omega)⟩ ?_
                refine gc_st hI19 S_70 rfl R_70 (lo := 0) (hi := 65535) rfl rfl (by exact gz_m 16 (by omega)) (by exact gz_m 17 (by omega)) (fun I23 hI23 q24 p24 => ?_)
                have FI23 := gc_frs (W := fun q j => q = 67 ∨ q = 68 ∨ q = 69 ∨ q = 70) FI19 (Or.inr (Or.inr (Or.inr rfl))) p24
                have t25 := p24 48 3 (fun h => absurd h.1 (by decide))
                have t26 := p24 67 (Int.toNat v4_2) (fun h => absurd h.1 (by decide))
                show gv_X _ _ (189, [(0, .inr (.inr (some 61))), (1, .inl a1), (2, .inl a2), (3, .inl a3), (4, .inl v4_2), (5, .inl v5_2), (6, .inl v6_2), (7, .inl v7_12)], [], sh, gc_h sh I23 J11 A)
                exact gv_vret hD rfl ⟨I23, J11, rfl, hI23, FI23, FJ11, ⟨rfl, (gc_LH_pt (o := v6_2) (by rw [show v6_2 = v7_12 from by exact gz_m 18 (by omega)]; exact e0_12) ((((p24 48 6 (fun h => absurd h.1 (by exact gz_m 19 (by omega)))).trans (p20 48 6 (fun h => absurd h.1 (by exact gz_m 20 (by omega))))).trans (p16 48 6 (fun h => absurd h.1 (by exact gz_m 21 (by omega)))))) ((((p24 48 3 (fun h => absurd h.1 (by exact gz_m 22 (by omega)))).trans (p20 48 3 (fun h => absurd h.1 (by exact gz_m 23 (by omega))))).trans (p16 48 3 (fun h => absurd h.1 (by exact gz_m 24 (by omega)))))) (fun k => (((p24 54 k (fun h => absurd h.1 (by exact gz_m 25 (by omega)))).trans (p20 54 k (fun h => absurd h.1 (by exact gz_m 26 (by omega))))).trans (p16 54 k (fun h => absurd h.1 (by exact gz_m 27 (by omega)))))) (fun k => (((p24 55 k (fun h => absurd h.1 (by exact gz_m 28 (by omega)))).trans (p20 55 k (fun h => absurd h.1 (by exact gz_m 29 (by omega))))).trans (p16 55 k (fun h => absurd h.1 (by exact gz_m 30 (by omega)))))) (fun k => (((p24 67 k (fun h => absurd h.1 (by exact gz_m 31 (by omega)))).trans (p20 67 k (fun h => absurd h.1 (by exact gz_m 32 (by omega))))).trans (p16 67 k (fun h => absurd h.1 (by exact gz_m 33 (by omega)))))) (fun k hk => (((p24 69 k (fun h => absurd h.1 (by exact gz_m 34 (by omega)))).trans (p20 69 k (fun h => by have := h.2; exact gz_m 35 (by omega)))).trans (p16 69 k (fun h => absurd h.1 (by exact gz_m 36 (by omega)))))) (fun k hk => (((p24 70 k (fun h => by have := h.2; exact gz_m 37 (by omega))).trans (p20 70 k (fun h => absurd h.1 (by exact gz_m 38 (by omega))))).trans (p16 70 k (fun h => absurd h.1 (by exact gz_m 39 (by omega)))))) (by exact gz_m 40 (by omega)) (by rw [show I23 69 (Int.toNat v6_2) = a1 from (((p24 69 (Int.toNat v6_2) (fun h => absurd h.1 (by exact gz_m 41 (by omega))))).trans q20), show I23 70 (Int.toNat v6_2) = a3 from ((rfl).trans q24)]; exact gc_va_fr x1 ((FI23 48 6).resolve_left (by exact gz_m 42 (by omega))) (fun k => (FI23 54 k).resolve_left (by exact gz_m 43 (by omega))) (fun k => (FI23 55 k).resolve_left (by exact gz_m 44 (by omega))) (fun k => by rw [show I23 67 k = I10 67 k from (((p24 67 k (fun h => absurd h.1 (by exact gz_m 45 (by omega)))).trans (p20 67 k (fun h => absurd h.1 (by exact gz_m 46 (by omega))))).trans (p16 67 k (fun h => absurd h.1 (by exact gz_m 47 (by omega)))))]; exact e1_12 k))), (fun k => by rw [show I23 67 k = I10 67 k from (((p24 67 k (fun h => absurd h.1 (by exact gz_m 48 (by omega)))).trans (p20 67 k (fun h => absurd h.1 (by exact gz_m 49 (by omega))))).trans (p16 67 k (fun h => absurd h.1 (by exact gz_m 50 (by omega)))))]; exact e1_12 k)⟩⟩
              · show gv_X _ _ (111, [(0, .inr (.inr (some 61))), (1, .inl a1), (2, .inl a2), (3, .inl a3), (4, .inl v4_2), (5, .inl v5_2), (6, .inl v6_2), (7, .inl v7_12)], [], sh, gc_h sh I10 J11 A)
                refine gv_run 1 true hD (pc' := 112) (lv' := [(0, .inr (.inr (some 61))), (1, .inl a1), (2, .inl a2), (3, .inl a3), (4, .inl v4_2), (5, .inl v5_2), (6, .inl v6_2), (7, .inl v7_12)]) (st' := [.inr (.inr (some 61))]) (h' := gc_h sh I10 J11 A) (C := (True ∧ True)) rfl ⟨trivial, trivial⟩ ?_
                refine gv_get hD rfl rfl S_61 ⟨by decide, B_61⟩ (gc_hA S_61 rfl A_61_12) ?_
                show gv_X _ _ (115, [(0, .inr (.inr (some 61))), (1, .inl a1), (2, .inl a2), (3, .inl a3), (4, .inl v4_2), (5, .inl v5_2), (6, .inl v6_2), (7, .inl v7_12)], [.inr (.inr (some 68))], sh, gc_h sh I10 J11 A)
                refine gv_run 2 true hD (pc' := 118) (lv' := [(0, .inr (.inr (some 61))), (1, .inl a1), (2, .inl a2), (3, .inl a3), (4, .inl v4_2), (5, .inl v5_2), (6, .inl v6_2), (7, .inl v7_12)]) (st' := [.inr (.inr (some 61)), .inl v7_12, .inr (.inr (some 68))]) (h' := gc_h sh I10 J11 A) (C := ((True ∧ True) ∧ True)) rfl ⟨⟨trivial, trivial⟩, trivial⟩ ?_
                refine gv_get hD rfl rfl S_61 ⟨by decide, B_61⟩ (gc_hA S_61 rfl A_61_12) ?_
                show gv_X _ _ (121, [(0, .inr (.inr (some 61))), (1, .inl a1), (2, .inl a2), (3, .inl a3), (4, .inl v4_2), (5, .inl v5_2), (6, .inl v6_2), (7, .inl v7_12)], [.inr (.inr (some 68)), .inl v7_12, .inr (.inr (some 68))], sh, gc_h sh I10 J11 A)
                refine gv_run 3 true hD (pc' := 125) (lv' := [(0, .inr (.inr (some 61))), (1, .inl a1), (2, .inl a2), (3, .inl a3), (4, .inl v4_2), (5, .inl v5_2), (6, .inl v6_2), (7, .inl v7_12)]) (st' := [.inl (v7_12 - 1), .inr (.inr (some 68)), .inl v7_12, .inr (.inr (some 68))]) (h' := gc_h sh I10 J11 A) (C := (((True ∧ True) ∧ True) ∧ True)) rfl ⟨⟨⟨trivial, trivial⟩, trivial⟩, trivial⟩ ?_
                have f27 := (show (-2147483648) ≤ I10 68 (Int.toNat (v7_12 - 1)) ∧ I10 68 (Int.toNat (v7_12 - 1)) ≤ 2147483647 from gc_in hI10 R_68 rfl rfl)
                refine gv_iald hD rfl S_68 rfl ⟨by decide, B_68⟩ ⟨by exact gz_m 51 (by omega), by exact gz_m 52 (by omega)⟩ (gc_iI S_68 rfl) ?_
                show gv_X _ _ (126, [(0, .inr (.inr (some 61))), (1, .inl a1), (2, .inl a2), (3, .inl a3), (4, .inl v4_2), (5, .inl v5_2), (6, .inl v6_2), (7, .inl v7_12)], [.inl (I10 68 (Int.toNat (v7_12 - 1))), .inl v7_12, .inr (.inr (some 68))], sh, gc_h sh I10 J11 A)
                refine gv_iast hD rfl S_68 ⟨by decide, B_68⟩ ⟨by exact gz_m 53 (by omega), by exact gz_m 54 (by omega)⟩ ?_
                refine gc_st hI10 S_68 rfl R_68 (lo := (-2147483648)) (hi := 2147483647) rfl rfl (by exact gz_m 55 (by omega)) (by exact gz_m 56 (by omega)) (fun I28 hI28 q29 p29 => ?_)
                have FI28 := gc_frs (W := fun q j => q = 67 ∨ q = 68 ∨ q = 69 ∨ q = 70) FI10 (Or.inr (Or.inl rfl)) p29
                have t30 := p29 48 3 (fun h => absurd h.1 (by decide))
                have t31 := p29 67 (Int.toNat v4_2) (fun h => absurd h.1 (by decide))
                show gv_X _ _ (127, [(0, .inr (.inr (some 61))), (1, .inl a1), (2, .inl a2), (3, .inl a3), (4, .inl v4_2), (5, .inl v5_2), (6, .inl v6_2), (7, .inl v7_12)], [], sh, gc_h sh I28 J11 A)
                refine gv_run 1 true hD (pc' := 128) (lv' := [(0, .inr (.inr (some 61))), (1, .inl a1), (2, .inl a2), (3, .inl a3), (4, .inl v4_2), (5, .inl v5_2), (6, .inl v6_2), (7, .inl v7_12)]) (st' := [.inr (.inr (some 61))]) (h' := gc_h sh I28 J11 A) (C := (True ∧ True)) rfl ⟨trivial, trivial⟩ ?_
                refine gv_get hD rfl rfl S_61 ⟨by decide, B_61⟩ (gc_hA S_61 rfl A_61_13) ?_
                show gv_X _ _ (131, [(0, .inr (.inr (some 61))), (1, .inl a1), (2, .inl a2), (3, .inl a3), (4, .inl v4_2), (5, .inl v5_2), (6, .inl v6_2), (7, .inl v7_12)], [.inr (.inr (some 69))], sh, gc_h sh I28 J11 A)
                refine gv_run 2 true hD (pc' := 134) (lv' := [(0, .inr (.inr (some 61))), (1, .inl a1), (2, .inl a2), (3, .inl a3), (4, .inl v4_2), (5, .inl v5_2), (6, .inl v6_2), (7, .inl v7_12)]) (st' := [.inr (.inr (some 61)), .inl v7_12, .inr (.inr (some 69))]) (h' := gc_h sh I28 J11 A) (C := ((True ∧ True) ∧ True)) rfl ⟨⟨trivial, trivial⟩, trivial⟩ ?_
                refine gv_get hD rfl rfl S_61 ⟨by decide, B_61⟩ (gc_hA S_61 rfl A_61_13) ?_
                show gv_X _ _ (137, [(0, .inr (.inr (some 61))), (1, .inl a1), (2, .inl a2), (3, .inl a3), (4, .inl v4_2), (5, .inl v5_2), (6, .inl v6_2), (7, .inl v7_12)], [.inr (.inr (some 69)), .inl v7_12, .inr (.inr (some 69))], sh, gc_h sh I28 J11 A)
                refine gv_run 3 true hD (pc' := 141) (lv' := [(0, .inr (.inr (some 61))), (1, .inl a1), (2, .inl a2), (3, .inl a3), (4, .inl v4_2), (5, .inl v5_2), (6, .inl v6_2), (7, .inl v7_12)]) (st' := [.inl (v7_12 - 1), .inr (.inr (some 69)), .inl v7_12, .inr (.inr (some 69))]) (h' := gc_h sh I28 J11 A) (C := (((True ∧ True) ∧ True) ∧ True)) rfl ⟨⟨⟨trivial, trivial⟩, trivial⟩, trivial⟩ ?_
                have f32 := (show 0 ≤ I28 69 (Int.toNat (v7_12 - 1)) ∧ I28 69 (Int.toNat (v7_12 - 1)) ≤ 8999 from gc_in hI28 R_69 rfl rfl)
                refine gv_iald hD rfl S_69 rfl ⟨by decide, B_69⟩ ⟨by exact gz_m 57 (by omega), by exact gz_m 58 (by omega)⟩ (gc_iI S_69 rfl) ?_
                show gv_X _ _ (142, [(0, .inr (.inr (some 61))), (1, .inl a1), (2, .inl a2), (3, .inl a3), (4, .inl v4_2), (5, .inl v5_2), (6, .inl v6_2), (7, .inl v7_12)], [.inl (I28 69 (Int.toNat (v7_12 - 1))), .inl v7_12, .inr (.inr (some 69))], sh, gc_h sh I28 J11 A)
                refine gv_iast hD rfl S_69 ⟨by decide, B_69⟩ ⟨by exact gz_m 59 (by omega), by exact gz_m 60 (by omega)⟩ ?_
                refine gc_st hI28 S_69 rfl R_69 (lo := 0) (hi := 8999) rfl rfl (by exact gz_m 61 (by omega)) (by exact gz_m 62 (by omega)) (fun I33 hI33 q34 p34 => ?_)
                have FI33 := gc_frs (W := fun q j => q = 67 ∨ q = 68 ∨ q = 69 ∨ q = 70) FI28 (Or.inr (Or.inr (Or.inl rfl))) p34
                have t35 := p34 48 3 (fun h => absurd h.1 (by decide))
                have t36 := p34 67 (Int.toNat v4_2) (fun h => absurd h.1 (by decide))
                show gv_X _ _ (143, [(0, .inr (.inr (some 61))), (1, .inl a1), (2, .inl a2), (3, .inl a3), (4, .inl v4_2), (5, .inl v5_2), (6, .inl v6_2), (7, .inl v7_12)], [], sh, gc_h sh I33 J11 A)
                refine gv_run 1 true hD (pc' := 144) (lv' := [(0, .inr (.inr (some 61))), (1, .inl a1), (2, .inl a2), (3, .inl a3), (4, .inl v4_2), (5, .inl v5_2), (6, .inl v6_2), (7, .inl v7_12)]) (st' := [.inr (.inr (some 61))]) (h' := gc_h sh I33 J11 A) (C := (True ∧ True)) rfl ⟨trivial, trivial⟩ ?_
                refine gv_get hD rfl rfl S_61 ⟨by decide, B_61⟩ (gc_hA S_61 rfl A_61_14) ?_
                show gv_X _ _ (147, [(0, .inr (.inr (some 61))), (1, .inl a1), (2, .inl a2), (3, .inl a3), (4, .inl v4_2), (5, .inl v5_2), (6, .inl v6_2), (7, .inl v7_12)], [.inr (.inr (some 70))], sh, gc_h sh I33 J11 A)
                refine gv_run 2 true hD (pc' := 150) (lv' := [(0, .inr (.inr (some 61))), (1, .inl a1), (2, .inl a2), (3, .inl a3), (4, .inl v4_2), (5, .inl v5_2), (6, .inl v6_2), (7, .inl v7_12)]) (st' := [.inr (.inr (some 61)), .inl v7_12, .inr (.inr (some 70))]) (h' := gc_h sh I33 J11 A) (C := ((True ∧ True) ∧ True)) rfl ⟨⟨trivial, trivial⟩, trivial⟩ ?_
                refine gv_get hD rfl rfl S_61 ⟨by decide, B_61⟩ (gc_hA S_61 rfl A_61_14) ?_
                show gv_X _ _ (153, [(0, .inr (.inr (some 61))), (1, .inl a1), (2, .inl a2), (3, .inl a3), (4, .inl v4_2), (5, .inl v5_2), (6, .inl v6_2), (7, .inl v7_12)], [.inr (.inr (some 70)), .inl v7_12, .inr (.inr (some 70))], sh, gc_h sh I33 J11 A)
                refine gv_run 3 true hD (pc' := 157) (lv' := [(0, .inr (.inr (some 61))), (1, .inl a1), (2, .inl a2), (3, .inl a3), (4, .inl v4_2), (5, .inl v5_2), (6, .inl v6_2), (7, .inl v7_12)]) (st' := [.inl (v7_12 - 1), .inr (.inr (some 70)), .inl v7_12, .inr (.inr (some 70))]) (h' := gc_h sh I33 J11 A) (C := (((True ∧ True) ∧ True) ∧ True)) rfl ⟨⟨⟨trivial, trivial⟩, trivial⟩, trivial⟩ ?_
                have f37 := (show 0 ≤ I33 70 (Int.toNat (v7_12 - 1)) ∧ I33 70 (Int.toNat (v7_12 - 1)) ≤ 65535 from gc_in hI33 R_70 rfl rfl)
                refine gv_iald hD rfl S_70 rfl ⟨by decide, B_70⟩ ⟨by exact gz_m 63 (by omega), by exact gz_m 64 (by omega)⟩ (gc_iI S_70 rfl) ?_
                show gv_X _ _ (158, [(0, .inr (.inr (some 61))), (1, .inl a1), (2, .inl a2), (3, .inl a3), (4, .inl v4_2), (5, .inl v5_2), (6, .inl v6_2), (7, .inl v7_12)], [.inl (I33 70 (Int.toNat (v7_12 - 1))), .inl v7_12, .inr (.inr (some 70))], sh, gc_h sh I33 J11 A)
                refine gv_iast hD rfl S_70 ⟨by decide, B_70⟩ ⟨by exact gz_m 65 (by omega), by exact gz_m 66 (by omega)⟩ ?_
                refine gc_st hI33 S_70 rfl R_70 (lo := 0) (hi := 65535) rfl rfl (by exact gz_m 67 (by omega)) (by exact gz_m 68 (by omega)) (fun I38 hI38 q39 p39 => ?_)
                have FI38 := gc_frs (W := fun q j => q = 67 ∨ q = 68 ∨ q = 69 ∨ q = 70) FI33 (Or.inr (Or.inr (Or.inr rfl))) p39
                have t40 := p39 48 3 (fun h => absurd h.1 (by decide))
                have t41 := p39 67 (Int.toNat v4_2) (fun h => absurd h.1 (by decide))
                show gv_X _ _ (159, [(0, .inr (.inr (some 61))), (1, .inl a1), (2, .inl a2), (3, .inl a3), (4, .inl v4_2), (5, .inl v5_2), (6, .inl v6_2), (7, .inl v7_12)], [], sh, gc_h sh I38 J11 A)
                refine gv_run 2 true hD (pc' := 104) (lv' := [(7, .inl (v7_12 + (-1))), (0, .inr (.inr (some 61))), (1, .inl a1), (2, .inl a2), (3, .inl a3), (4, .inl v4_2), (5, .inl v5_2), (6, .inl v6_2)]) (st' := []) (h' := gc_h sh I38 J11 A) (C := ((True ∧ True) ∧ True)) rfl ⟨⟨trivial, trivial⟩, trivial⟩ ?_
                refine gv_pick [1, 2, 3, 4, 5, 6, 7, 0] rfl ?_
                exact ih104 I38 J11 ((v7_12 + (-1))) (by exact gz_m 69 (by omega)) hI38 FI38 FJ11 (by exact gz_m 70 (by omega)) (gc_LH_mv (n := Int.toNat v4_2) e0_12 ((((p39 48 6 (fun h => absurd h.1 (by exact gz_m 71 (by omega)))).trans (p34 48 6 (fun h => absurd h.1 (by exact gz_m 72 (by omega))))).trans (p29 48 6 (fun h => absurd h.1 (by exact gz_m 73 (by omega)))))) ((((p39 48 3 (fun h => absurd h.1 (by exact gz_m 74 (by omega)))).trans (p34 48 3 (fun h => absurd h.1 (by exact gz_m 75 (by omega))))).trans (p29 48 3 (fun h => absurd h.1 (by exact gz_m 76 (by omega)))))) (fun k => (((p39 54 k (fun h => absurd h.1 (by exact gz_m 77 (by omega)))).trans (p34 54 k (fun h => absurd h.1 (by exact gz_m 78 (by omega))))).trans (p29 54 k (fun h => absurd h.1 (by exact gz_m 79 (by omega)))))) (fun k => (((p39 55 k (fun h => absurd h.1 (by exact gz_m 80 (by omega)))).trans (p34 55 k (fun h => absurd h.1 (by exact gz_m 81 (by omega))))).trans (p29 55 k (fun h => absurd h.1 (by exact gz_m 82 (by omega)))))) (fun k => (((p39 67 k (fun h => absurd h.1 (by exact gz_m 83 (by omega)))).trans (p34 67 k (fun h => absurd h.1 (by exact gz_m 84 (by omega))))).trans (p29 67 k (fun h => absurd h.1 (by exact gz_m 85 (by omega)))))) (fun k hk => (((p39 69 k (fun h => absurd h.1 (by exact gz_m 86 (by omega)))).trans (p34 69 k (fun h => by have := h.2; exact gz_m 87 (by omega)))).trans (p29 69 k (fun h => absurd h.1 (by exact gz_m 88 (by omega)))))) (fun k hk => (((p39 70 k (fun h => by have := h.2; exact gz_m 89 (by omega))).trans (p34 70 k (fun h => absurd h.1 (by exact gz_m 90 (by omega))))).trans (p29 70 k (fun h => absurd h.1 (by exact gz_m 91 (by omega)))))) (by have h9 := (((p39 69 (Int.toNat v7_12) (fun h => absurd h.1 (by exact gz_m 92 (by omega))))).trans q34); rw [h9]; exact (p29 69 (Int.toNat (v7_12 - 1)) (fun h => absurd h.1 (by exact gz_m 93 (by omega))))) (by have h9 := ((rfl).trans q39); rw [h9]; exact ((p34 70 (Int.toNat (v7_12 - 1)) (fun h => absurd h.1 (by exact gz_m 94 (by omega)))).trans (p29 70 (Int.toNat (v7_12 - 1)) (fun h => absurd h.1 (by exact gz_m 95 (by omega)))))) (by exact gz_m 96 (by omega)) (by exact gz_m 97 (by omega)) (by exact gz_m 98 (by omega))) (fun k => by rw [show I38 67 k = I10 67 k from (((p39 67 k (fun h => absurd h.1 (by exact gz_m 99 (by omega)))).trans (p34 67 k (fun h => absurd h.1 (by exact gz_m 100 (by omega))))).trans (p29 67 k (fun h => absurd h.1 (by exact gz_m 101 (by omega)))))]; exact e1_12 k)
          refine gv_run 2 true hD (pc' := 93) (lv' := [(0, .inr (.inr (some 61))), (1, .inl a1), (2, .inl a2), (3, .inl a3), (4, .inl v4_2), (5, .inl v5_2), (6, .inl v6_2)]) (st' := [.inr (.inr (some 61)), .inl v5_2]) (h' := gc_h sh I6 J7 A) (C := ((True ∧ True) ∧ True)) rfl ⟨⟨trivial, trivial⟩, trivial⟩ ?_
          refine gv_get hD rfl rfl S_61 ⟨by decide, B_61⟩ (gc_hA S_61 rfl A_61_11) ?_
          show gv_X _ _ (96, [(0, .inr (.inr (some 61))), (1, .inl a1), (2, .inl a2), (3, .inl a3), (4, .inl v4_2), (5, .inl v5_2), (6, .inl v6_2)], [.inr (.inr (some 67)), .inl v5_2], sh, gc_h sh I6 J7 A)
          refine gv_run 1 true hD (pc' := 98) (lv' := [(0, .inr (.inr (some 61))), (1, .inl a1), (2, .inl a2), (3, .inl a3), (4, .inl v4_2), (5, .inl v5_2), (6, .inl v6_2)]) (st' := [.inl v4_2, .inr (.inr (some 67)), .inl v5_2]) (h' := gc_h sh I6 J7 A) (C := (True ∧ True)) rfl ⟨trivial, trivial⟩ ?_
          have f42 := (show 0 ≤ I6 67 (Int.toNat v4_2) ∧ I6 67 (Int.toNat v4_2) ≤ 16 from gc_in hI6 R_67 rfl rfl)
          refine gv_iald hD rfl S_67 rfl ⟨by decide, B_67⟩ ⟨by exact gz_m 102 (by omega), by exact gz_m 103 (by omega)⟩ (gc_iI S_67 rfl) ?_
          show gv_X _ _ (99, [(0, .inr (.inr (some 61))), (1, .inl a1), (2, .inl a2), (3, .inl a3), (4, .inl v4_2), (5, .inl v5_2), (6, .inl v6_2)], [.inl (I6 67 (Int.toNat v4_2)), .inl v5_2], sh, gc_h sh I6 J7 A)
          refine gv_run 4 true hD (pc' := 104) (lv' := [(7, .inl ((v5_2 + (I6 67 (Int.toNat v4_2))) - 1)), (0, .inr (.inr (some 61))), (1, .inl a1), (2, .inl a2), (3, .inl a3), (4, .inl v4_2), (5, .inl v5_2), (6, .inl v6_2)]) (st' := []) (h' := gc_h sh I6 J7 A) (C := ((((True ∧ True) ∧ True) ∧ True) ∧ True)) rfl ⟨⟨⟨⟨trivial, trivial⟩, trivial⟩, trivial⟩, trivial⟩ ?_
          refine gv_pick [1, 2, 3, 4, 5, 6, 7, 0] rfl ?_
          exact L104 _ I6 J7 (((v5_2 + (I6 67 (Int.toNat v4_2))) - 1)) (Nat.lt_succ_self _) hI6 FI6 FJ7 (by exact gz_m 104 (by omega)) e0_8 e1_8
        refine gv_run 4 true hD (pc' := 63) (lv' := [(0, .inr (.inr (some 61))), (1, .inl a1), (2, .inl a2), (3, .inl a3), (4, .inl v4_2), (5, .inl v5_2), (6, .inl v6_2)]) (st' := [.inl (v5_2 + 16), .inl v6_2]) (h' := gc_h sh I J A) (C := ((((True ∧ True) ∧ True) ∧ True) ∧ True)) rfl ⟨⟨⟨⟨trivial, trivial⟩, trivial⟩, trivial⟩, trivial⟩ ?_
        refine gv_icmp_lt (t := 67) hD rfl rfl ⟨⟨by exact gz_m 105 (by omega), by exact gz_m 106 (by omega)⟩, ⟨by exact gz_m 107 (by omega), by exact gz_m 108 (by omega)⟩⟩ (fun c43 => ?_) (fun c43 => ?_)
        · show gv_X _ _ (67, [(0, .inr (.inr (some 61))), (1, .inl a1), (2, .inl a2), (3, .inl a3), (4, .inl v4_2), (5, .inl v5_2), (6, .inl v6_2)], [], sh, gc_h sh I J A)
          refine gv_run 1 true hD (pc' := 68) (lv' := [(0, .inr (.inr (some 61))), (1, .inl a1), (2, .inl a2), (3, .inl a3), (4, .inl v4_2), (5, .inl v5_2), (6, .inl v6_2)]) (st' := [.inr (.inr (some 61))]) (h' := gc_h sh I J A) (C := (True ∧ True)) rfl ⟨trivial, trivial⟩ ?_
          refine gv_get hD rfl rfl S_61 ⟨by decide, B_61⟩ (gc_hA S_61 rfl A_61_11) ?_
          show gv_X _ _ (71, [(0, .inr (.inr (some 61))), (1, .inl a1), (2, .inl a2), (3, .inl a3), (4, .inl v4_2), (5, .inl v5_2), (6, .inl v6_2)], [.inr (.inr (some 67))], sh, gc_h sh I J A)
          refine gv_run 1 true hD (pc' := 73) (lv' := [(0, .inr (.inr (some 61))), (1, .inl a1), (2, .inl a2), (3, .inl a3), (4, .inl v4_2), (5, .inl v5_2), (6, .inl v6_2)]) (st' := [.inl v4_2, .inr (.inr (some 67))]) (h' := gc_h sh I J A) (C := (True ∧ True)) rfl ⟨trivial, trivial⟩ ?_
          have f44 := (show 0 ≤ I 67 (Int.toNat v4_2) ∧ I 67 (Int.toNat v4_2) ≤ 16 from gc_in hI R_67 rfl rfl)
          refine gv_iald hD rfl S_67 rfl ⟨by decide, B_67⟩ ⟨by exact gz_m 109 (by omega), by exact gz_m 110 (by omega)⟩ (gc_iI S_67 rfl) ?_
          show gv_X _ _ (74, [(0, .inr (.inr (some 61))), (1, .inl a1), (2, .inl a2), (3, .inl a3), (4, .inl v4_2), (5, .inl v5_2), (6, .inl v6_2)], [.inl (I 67 (Int.toNat v4_2))], sh, gc_h sh I J A)
          refine gv_run 1 true hD (pc' := 76) (lv' := [(0, .inr (.inr (some 61))), (1, .inl a1), (2, .inl a2), (3, .inl a3), (4, .inl v4_2), (5, .inl v5_2), (6, .inl v6_2)]) (st' := [.inl 16, .inl (I 67 (Int.toNat v4_2))]) (h' := gc_h sh I J A) (C := (True ∧ True)) rfl ⟨trivial, trivial⟩ ?_
          refine gv_icmp_ge (t := 90) hD rfl rfl ⟨⟨by exact gz_m 111 (by omega), by exact gz_m 112 (by omega)⟩, ⟨by exact gz_m 113 (by omega), by exact gz_m 114 (by omega)⟩⟩ (fun c45 => ?_) (fun c45 => ?_)
          · show gv_X _ _ (90, [(0, .inr (.inr (some 61))), (1, .inl a1), (2, .inl a2), (3, .inl a3), (4, .inl v4_2), (5, .inl v5_2), (6, .inl v6_2)], [], sh, gc_h sh I J A)
            exact L90 I J hI FI FJ (by exact gz_m 115 (by omega)) (gc_LH_any x0) (fun k => Int.le_refl _)
          · show gv_X _ _ (79, [(0, .inr (.inr (some 61))), (1, .inl a1), (2, .inl a2), (3, .inl a3), (4, .inl v4_2), (5, .inl v5_2), (6, .inl v6_2)], [], sh, gc_h sh I J A)
            refine gv_run 1 true hD (pc' := 80) (lv' := [(0, .inr (.inr (some 61))), (1, .inl a1), (2, .inl a2), (3, .inl a3), (4, .inl v4_2), (5, .inl v5_2), (6, .inl v6_2)]) (st' := [.inr (.inr (some 61))]) (h' := gc_h sh I J A) (C := (True ∧ True)) rfl ⟨trivial, trivial⟩ ?_
            refine gv_get hD rfl rfl S_61 ⟨by decide, B_61⟩ (gc_hA S_61 rfl A_61_11) ?_
            show gv_X _ _ (83, [(0, .inr (.inr (some 61))), (1, .inl a1), (2, .inl a2), (3, .inl a3), (4, .inl v4_2), (5, .inl v5_2), (6, .inl v6_2)], [.inr (.inr (some 67))], sh, gc_h sh I J A)
            refine gv_run 2 true hD (pc' := 86) (lv' := [(0, .inr (.inr (some 61))), (1, .inl a1), (2, .inl a2), (3, .inl a3), (4, .inl v4_2), (5, .inl v5_2), (6, .inl v6_2)]) (st' := [.inl v4_2, .inr (.inr (some 67)), .inl v4_2, .inr (.inr (some 67))]) (h' := gc_h sh I J A) (C := ((True ∧ True) ∧ True)) rfl ⟨⟨trivial, trivial⟩, trivial⟩ ?_
            have f46 := (show 0 ≤ I 67 (Int.toNat v4_2) ∧ I 67 (Int.toNat v4_2) ≤ 16 from gc_in hI R_67 rfl rfl)
            refine gv_iald hD rfl S_67 rfl ⟨by decide, B_67⟩ ⟨by exact gz_m 116 (by omega), by exact gz_m 117 (by omega)⟩ (gc_iI S_67 rfl) ?_
            show gv_X _ _ (87, [(0, .inr (.inr (some 61))), (1, .inl a1), (2, .inl a2), (3, .inl a3), (4, .inl v4_2), (5, .inl v5_2), (6, .inl v6_2)], [.inl (I 67 (Int.toNat v4_2)), .inl v4_2, .inr (.inr (some 67))], sh, gc_h sh I J A)
            refine gv_run 2 true hD (pc' := 89) (lv' := [(0, .inr (.inr (some 61))), (1, .inl a1), (2, .inl a2), (3, .inl a3), (4, .inl v4_2), (5, .inl v5_2), (6, .inl v6_2)]) (st' := [.inl ((I 67 (Int.toNat v4_2)) + 1), .inl v4_2, .inr (.inr (some 67))]) (h' := gc_h sh I J A) (C := ((True ∧ True) ∧ True)) rfl ⟨⟨trivial, trivial⟩, trivial⟩ ?_
            refine gv_iast hD rfl S_67 ⟨by decide, B_67⟩ ⟨by exact gz_m 118 (by omega), by exact gz_m 119 (by omega)⟩ ?_
            refine gc_st hI S_67 rfl R_67 (lo := 0) (hi := 16) rfl rfl (by exact gz_m 120 (by omega)) (by exact gz_m 121 (by omega)) (fun I47 hI47 q48 p48 => ?_)
            have FI47 := gc_frs (W := fun q j => q = 67 ∨ q = 68 ∨ q = 69 ∨ q = 70) FI (Or.inl rfl) p48
            have t49 := p48 48 3 (fun h => absurd h.1 (by decide))
            show gv_X _ _ (90, [(0, .inr (.inr (some 61))), (1, .inl a1), (2, .inl a2), (3, .inl a3), (4, .inl v4_2), (5, .inl v5_2), (6, .inl v6_2)], [], sh, gc_h sh I47 J A)
            exact L90 I47 J hI47 FI47 FJ (by exact gz_m 122 (by omega)) (gc_LH_gr x0 p48 q48 (by exact gz_m 123 (by omega))) (fun k => by by_cases h9 : k = (Int.toNat v4_2); (· rw [h9, q48]; exact gz_m 124 (by omega)); (· rw [p48 67 k (fun h => h9 h.2)]; exact gz_m 125 (by omega)))
        · show gv_X _ _ (66, [(0, .inr (.inr (some 61))), (1, .inl a1), (2, .inl a2), (3, .inl a3), (4, .inl v4_2), (5, .inl v5_2), (6, .inl v6_2)], [], sh, gc_h sh I J A)
          exact gv_vret hD rfl ⟨I, J, rfl, hI, FI, FJ, ⟨rfl, x0, (fun k => Int.le_refl _)⟩⟩
      refine gv_run 2 true hD (pc' := 34) (lv' := [(0, .inr (.inr (some 61))), (1, .inl a1), (2, .inl a2), (3, .inl a3), (4, .inl v4_2), (5, .inl v5_2), (6, .inl v6_2)]) (st' := [.inl v5_2, .inl v6_2]) (h' := gc_h sh I J A) (C := ((True ∧ True) ∧ True)) rfl ⟨⟨trivial, trivial⟩, trivial⟩ ?_
      refine gv_icmp_le (t := 56) hD rfl rfl ⟨⟨by exact gz_m 126 (by omega), by exact gz_m 127 (by omega)⟩, ⟨by exact gz_m 128 (by omega), by exact gz_m 129 (by omega)⟩⟩ (fun c50 => ?_) (fun c50 => ?_)
      · show gv_X _ _ (56, [(0, .inr (.inr (some 61))), (1, .inl a1), (2, .inl a2), (3, .inl a3), (4, .inl v4_2), (5, .inl v5_2), (6, .inl v6_2)], [], sh, gc_h sh I J A)
        exact L56 (by exact gz_m 130 (by omega))
      · show gv_X _ _ (37, [(0, .inr (.inr (some 61))), (1, .inl a1), (2, .inl a2), (3, .inl a3), (4, .inl v4_2), (5, .inl v5_2), (6, .inl v6_2)], [], sh, gc_h sh I J A)
        refine gv_run 1 true hD (pc' := 38) (lv' := [(0, .inr (.inr (some 61))), (1, .inl a1), (2, .inl a2), (3, .inl a3), (4, .inl v4_2), (5, .inl v5_2), (6, .inl v6_2)]) (st' := [.inr (.inr (some 61))]) (h' := gc_h sh I J A) (C := (True ∧ True)) rfl ⟨trivial, trivial⟩ ?_
        refine gv_get hD rfl rfl S_61 ⟨by decide, B_61⟩ (gc_hA S_61 rfl A_61_12) ?_
        show gv_X _ _ (41, [(0, .inr (.inr (some 61))), (1, .inl a1), (2, .inl a2), (3, .inl a3), (4, .inl v4_2), (5, .inl v5_2), (6, .inl v6_2)], [.inr (.inr (some 68))], sh, gc_h sh I J A)
        refine gv_run 3 true hD (pc' := 45) (lv' := [(0, .inr (.inr (some 61))), (1, .inl a1), (2, .inl a2), (3, .inl a3), (4, .inl v4_2), (5, .inl v5_2), (6, .inl v6_2)]) (st' := [.inl (v6_2 - 1), .inr (.inr (some 68))]) (h' := gc_h sh I J A) (C := (((True ∧ True) ∧ True) ∧ True)) rfl ⟨⟨⟨trivial, trivial⟩, trivial⟩, trivial⟩ ?_
        have f51 := (show (-2147483648) ≤ I 68 (Int.toNat (v6_2 - 1)) ∧ I 68 (Int.toNat (v6_2 - 1)) ≤ 2147483647 from gc_in hI R_68 rfl rfl)
        refine gv_iald hD rfl S_68 rfl ⟨by decide, B_68⟩ ⟨by exact gz_m 131 (by omega), by exact gz_m 132 (by omega)⟩ (gc_iI S_68 rfl) ?_
        show gv_X _ _ (46, [(0, .inr (.inr (some 61))), (1, .inl a1), (2, .inl a2), (3, .inl a3), (4, .inl v4_2), (5, .inl v5_2), (6, .inl v6_2)], [.inl (I 68 (Int.toNat (v6_2 - 1)))], sh, gc_h sh I J A)
        refine gv_run 1 true hD (pc' := 47) (lv' := [(0, .inr (.inr (some 61))), (1, .inl a1), (2, .inl a2), (3, .inl a3), (4, .inl v4_2), (5, .inl v5_2), (6, .inl v6_2)]) (st' := [.inl a2, .inl (I 68 (Int.toNat (v6_2 - 1)))]) (h' := gc_h sh I J A) (C := (True ∧ True)) rfl ⟨trivial, trivial⟩ ?_
        refine gv_icmp_le (t := 56) hD rfl rfl ⟨⟨by exact gz_m 133 (by omega), by exact gz_m 134 (by omega)⟩, ⟨by exact gz_m 135 (by omega), by exact gz_m 136 (by omega)⟩⟩ (fun c52 => ?_) (fun c52 => ?_)
        · show gv_X _ _ (56, [(0, .inr (.inr (some 61))), (1, .inl a1), (2, .inl a2), (3, .inl a3), (4, .inl v4_2), (5, .inl v5_2), (6, .inl v6_2)], [], sh, gc_h sh I J A)
          exact L56 (by exact gz_m 137 (by omega))
        · show gv_X _ _ (50, [(0, .inr (.inr (some 61))), (1, .inl a1), (2, .inl a2), (3, .inl a3), (4, .inl v4_2), (5, .inl v5_2), (6, .inl v6_2)], [], sh, gc_h sh I J A)
          refine gv_run 2 true hD (pc' := 30) (lv' := [(6, .inl (v6_2 + (-1))), (0, .inr (.inr (some 61))), (1, .inl a1), (2, .inl a2), (3, .inl a3), (4, .inl v4_2), (5, .inl v5_2)]) (st' := []) (h' := gc_h sh I J A) (C := ((True ∧ True) ∧ True)) rfl ⟨⟨trivial, trivial⟩, trivial⟩ ?_
          refine gv_pick [1, 2, 3, 4, 5, 6, 0] rfl ?_
          exact ih30 v4_2 v5_2 ((v6_2 + (-1))) (by exact gz_m 138 (by omega)) (by exact gz_m 139 (by omega))
  refine gv_run 1 true hD (pc' := 1) (lv' := [(0, .inr (.inr (some 61))), (1, .inl a1), (2, .inl a2), (3, .inl a3)]) (st' := [.inr (.inr (some 61))]) (h' := gc_h sh I J A) (C := (True ∧ True)) rfl ⟨trivial, trivial⟩ ?_
  refine gv_get hD rfl rfl S_61 ⟨by decide, B_61⟩ (gc_hA S_61 rfl A_61_1) ?_
  show gv_X _ _ (4, [(0, .inr (.inr (some 61))), (1, .inl a1), (2, .inl a2), (3, .inl a3)], [.inr (.inr (some 48))], sh, gc_h sh I J A)
  refine gv_get hD rfl rfl S_48 ⟨by decide, B_48⟩ (gc_hA S_48 rfl A_48_7) ?_
  show gv_X _ _ (7, [(0, .inr (.inr (some 61))), (1, .inl a1), (2, .inl a2), (3, .inl a3)], [.inr (.inr (some 53))], sh, gc_h sh I J A)
  refine gv_run 1 true hD (pc' := 8) (lv' := [(0, .inr (.inr (some 61))), (1, .inl a1), (2, .inl a2), (3, .inl a3)]) (st' := [.inl a1, .inr (.inr (some 53))]) (h' := gc_h sh I J A) (C := (True ∧ True)) rfl ⟨trivial, trivial⟩ ?_
  have f53 := (show 0 ≤ I 53 (Int.toNat a1) ∧ I 53 (Int.toNat a1) ≤ 2999 from gc_in hI R_53 rfl rfl)
  refine gv_iald hD rfl S_53 rfl ⟨by decide, B_53⟩ ⟨by exact gz_m 140 (by omega), by exact gz_m 141 (by omega)⟩ (gc_iI S_53 rfl) ?_
  show gv_X _ _ (9, [(0, .inr (.inr (some 61))), (1, .inl a1), (2, .inl a2), (3, .inl a3)], [.inl (I 53 (Int.toNat a1))], sh, gc_h sh I J A)
  refine gv_run 7 true hD (pc' := 21) (lv' := [(5, .inl ((I 53 (Int.toNat a1)) * 16)), (4, .inl (I 53 (Int.toNat a1))), (0, .inr (.inr (some 61))), (1, .inl a1), (2, .inl a2), (3, .inl a3)]) (st' := [.inr (.inr (some 61)), .inl ((I 53 (Int.toNat a1)) * 16)]) (h' := gc_h sh I J A) (C := (((((((True ∧ True) ∧ True) ∧ True) ∧ True) ∧ True) ∧ True) ∧ True)) rfl ⟨⟨⟨⟨⟨⟨⟨trivial, trivial⟩, trivial⟩, trivial⟩, trivial⟩, trivial⟩, trivial⟩, trivial⟩ ?_
  refine gv_get hD rfl rfl S_61 ⟨by decide, B_61⟩ (gc_hA S_61 rfl A_61_11) ?_
  show gv_X _ _ (24, [(5, .inl ((I 53 (Int.toNat a1)) * 16)), (4, .inl (I 53 (Int.toNat a1))), (0, .inr (.inr (some 61))), (1, .inl a1), (2, .inl a2), (3, .inl a3)], [.inr (.inr (some 67)), .inl ((I 53 (Int.toNat a1)) * 16)], sh, gc_h sh I J A)
  refine gv_run 1 true hD (pc' := 26) (lv' := [(5, .inl ((I 53 (Int.toNat a1)) * 16)), (4, .inl (I 53 (Int.toNat a1))), (0, .inr (.inr (some 61))), (1, .inl a1), (2, .inl a2), (3, .inl a3)]) (st' := [.inl (I 53 (Int.toNat a1)), .inr (.inr (some 67)), .inl ((I 53 (Int.toNat a1)) * 16)]) (h' := gc_h sh I J A) (C := (True ∧ True)) rfl ⟨trivial, trivial⟩ ?_
  have f54 := (show 0 ≤ I 67 (Int.toNat ((I 53 (Int.toNat a1)))) ∧ I 67 (Int.toNat ((I 53 (Int.toNat a1)))) ≤ 16 from gc_in hI R_67 rfl rfl)
  refine gv_iald hD rfl S_67 rfl ⟨by decide, B_67⟩ ⟨by exact gz_m 142 (by omega), by exact gz_m 143 (by omega)⟩ (gc_iI S_67 rfl) ?_
  show gv_X _ _ (27, [(5, .inl ((I 53 (Int.toNat a1)) * 16)), (4, .inl (I 53 (Int.toNat a1))), (0, .inr (.inr (some 61))), (1, .inl a1), (2, .inl a2), (3, .inl a3)], [.inl (I 67 (Int.toNat ((I 53 (Int.toNat a1))))), .inl ((I 53 (Int.toNat a1)) * 16)], sh, gc_h sh I J A)
  refine gv_run 2 true hD (pc' := 30) (lv' := [(6, .inl (((I 53 (Int.toNat a1)) * 16) + (I 67 (Int.toNat ((I 53 (Int.toNat a1))))))), (5, .inl ((I 53 (Int.toNat a1)) * 16)), (4, .inl (I 53 (Int.toNat a1))), (0, .inr (.inr (some 61))), (1, .inl a1), (2, .inl a2), (3, .inl a3)]) (st' := []) (h' := gc_h sh I J A) (C := ((True ∧ True) ∧ True)) rfl ⟨⟨trivial, trivial⟩, trivial⟩ ?_
  refine gv_pick [3, 4, 5, 6, 2, 1, 0] rfl ?_
  exact L30 _ ((I 53 (Int.toNat a1))) (((I 53 (Int.toNat a1)) * 16)) ((((I 53 (Int.toNat a1)) * 16) + (I 67 (Int.toNat ((I 53 (Int.toNat a1))))))) (Nat.lt_succ_self _) (by exact gz_m 144 (by omega))
