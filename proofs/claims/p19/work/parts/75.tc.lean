set_option maxHeartbeats 4000000 in
set_option maxRecDepth 100000 in
theorem d_X10_contract {ws0 : List Cond} {tb : String → gz_T} (hws : gc_Ws ws0) (htb : gc_tbs tb) (sh : gz_Sh) (ro : Nat → Nat) (I : gr_I) (J : gr_J) (A : gc_A) (hI : gc_Inv ro I) (o : Nat) (u : Nat) (b : Int) (a1 : Int) (hb : gc_Base sh ro A) (ha1 : 0 ≤ a1 ∧ a1 ≤ 298) (x0 : 86 + 1 + 2 * Int.toNat (I 86 2) = o) (x1 : 86 + 1 + 2 * Int.toNat (I 86 4) = u) (x2 : o = 87 ∨ o = 89) (x3 : o + u = 176) (x4 : gc_TC (I o) (I 86 1)) (x5 : gc_ub (I o) (I 86 1) b) (x6 : a1 + 1 < I 86 1) (x7 : I o (Int.toNat a1) = -1) (x8 : I o (Int.toNat (a1 + 1)) = -2) (x9 : 0 ≤ b ∧ b ≤ 300000) : ∃ r h', gz_Ev ws0 tb 3 (yX10_contract, cX10_contract, 9, (some .boolean)) [.inr (.inr (some 86)), .inl a1] sh (gc_h sh I J A) r sh h' 0 0 ∧ (∃ (I' : gr_I) (J' : gr_J), h' = gc_h sh I' J' A ∧ gc_Inv ro I' ∧ (∀ q j : Nat, (q = u ∨ (q = 86 ∧ j = 1) ∨ (q = 86 ∧ j = 2) ∨ (q = 86 ∧ j = 3) ∨ (q = 86 ∧ j = 4) ∨ (q = 86 ∧ j = 5) ∨ q = 92 ∨ q = 93) ∨ I' q j = I q j) ∧ (∀ q j : Nat, (q = 88 ∨ q = 90) ∨ J' q j = J q j) ∧ (∃ z : Int, r = some (.inl z) ∧ 0 ≤ z ∧ z ≤ 1 ∧ ((z = 0 ∧ I' 86 2 = I 86 2 ∧ I' 86 4 = I 86 4) ∨ (I' 86 2 = I 86 4 ∧ I' 86 4 = I 86 2)) ∧ (z = 0 ∨ gc_TC (I' u) (I' 86 1)) ∧ (z = 0 ∨ gc_ub (I' u) (I' 86 1) (b + 300)))) := by
  have FI : ∀ q j : Nat, (q = u ∨ (q = 86 ∧ j = 1) ∨ (q = 86 ∧ j = 2) ∨ (q = 86 ∧ j = 3) ∨ (q = 86 ∧ j = 4) ∨ (q = 86 ∧ j = 5) ∨ q = 92 ∨ q = 93) ∨ I q j = I q j := fun _ _ => Or.inr rfl
  have FJ : ∀ q j : Nat, (q = 88 ∨ q = 90) ∨ J q j = J q j := fun _ _ => Or.inr rfl
  have A_86_7 : A 86 7 = some 92 := gc_bA hb rfl
  have B_86 : 86 < 1000000 := by decide
  have B_88 : 88 < 1000000 := by decide
  have B_90 : 90 < 1000000 := by decide
  have B_92 : 92 < 1000000 := by decide
  have R_86 : ro 86 = 74 := gc_bR hb (by decide) rfl
  have R_88 : ro 88 = 0 := gc_bR hb (by decide) rfl
  have R_90 : ro 90 = 0 := gc_bR hb (by decide) rfl
  have R_92 : ro 92 = 60 := gc_bR hb (by decide) rfl
  have S_86 : sh[86]? = some (false, 10, 19) := gc_bS hb rfl
  have S_88 : sh[88]? = some (true, 2, 300) := gc_bS hb rfl
  have S_90 : sh[90]? = some (true, 2, 300) := gc_bS hb rfl
  have S_92 : sh[92]? = some (true, 1, 300) := gc_bS hb rfl
  have S_o : sh[o]? = some (true, 1, 300) := by
    rcases (show o = 87 ∨ o = 89 from by omega) with h9 | h9 <;> rw [h9] <;> exact gc_bS hb rfl
  have R_o : ro o = 77 := by
    rcases (show o = 87 ∨ o = 89 from by omega) with h9 | h9 <;> rw [h9] <;> exact gc_bR hb (by decide) rfl
  have B_o : o < 1000000 := by omega
  have S_u : sh[u]? = some (true, 1, 300) := by
    rcases (show u = 87 ∨ u = 89 from by omega) with h9 | h9 <;> rw [h9] <;> exact gc_bS hb rfl
  have R_u : ro u = 77 := by
    rcases (show u = 87 ∨ u = 89 from by omega) with h9 | h9 <;> rw [h9] <;> exact gc_bR hb (by decide) rfl
  have B_u : u < 1000000 := by omega
  have hD : gv_D (gc_E10 ws0 tb 2 (yX10_contract, cX10_contract, 9, (some .boolean)) kX10_contract) := gq_ok oX10_contract
  refine gc_ev10 (d := 2) (l := kX10_contract) (Po := fun r h' => (∃ (I' : gr_I) (J' : gr_J), h' = gc_h sh I' J' A ∧ gc_Inv ro I' ∧ (∀ q j : Nat, (q = u ∨ (q = 86 ∧ j = 1) ∨ (q = 86 ∧ j = 2) ∨ (q = 86 ∧ j = 3) ∨ (q = 86 ∧ j = 4) ∨ (q = 86 ∧ j = 5) ∨ q = 92 ∨ q = 93) ∨ I' q j = I q j) ∧ (∀ q j : Nat, (q = 88 ∨ q = 90) ∨ J' q j = J q j) ∧ (∃ z : Int, r = some (.inl z) ∧ 0 ≤ z ∧ z ≤ 1 ∧ ((z = 0 ∧ I' 86 2 = I 86 2 ∧ I' 86 4 = I 86 4) ∨ (I' 86 2 = I 86 4 ∧ I' 86 4 = I 86 2)) ∧ (z = 0 ∨ gc_TC (I' u) (I' 86 1)) ∧ (z = 0 ∨ gc_ub (I' u) (I' 86 1) (b + 300))))) htb rfl (Nat.le_of_ble_eq_true rfl) ?_
  have N_86__u : ¬ (86 = u) := by omega
  have f1 := (show 0 ≤ I 86 1 ∧ I 86 1 ≤ 300 from gc_in hI R_86 rfl rfl)
  have f2 := (show 0 ≤ I 86 2 ∧ I 86 2 ≤ 1 from gc_in hI R_86 rfl rfl)
  have f3 := (show 0 ≤ I 86 4 ∧ I 86 4 ≤ 1 from gc_in hI R_86 rfl rfl)
  have L56 : ∀ (n9 : Nat) (I4 : gr_I) (J5 : gr_J) (v2_6 : Int) (v3_6 : Int) (v4_6 : Int) (v5_6 : Int) (v6_6 : Int) (v7_6 : Int), (301 - v7_6).toNat < n9 → gc_Inv ro I4 → (∀ q j : Nat, (q = u ∨ (q = 86 ∧ j = 1) ∨ (q = 86 ∧ j = 2) ∨ (q = 86 ∧ j = 3) ∨ (q = 86 ∧ j = 4) ∨ (q = 86 ∧ j = 5) ∨ q = 92 ∨ q = 93) ∨ I4 q j = I q j) → (∀ q j : Nat, (q = 88 ∨ q = 90) ∨ J5 q j = J q j) → ((0 ≤ v2_6 ∧ v2_6 ≤ 300) ∧ (0 ≤ v3_6 ∧ v3_6 ≤ 300) ∧ (0 ≤ v4_6 ∧ v4_6 ≤ 300) ∧ (0 ≤ v5_6 ∧ v5_6 ≤ 300) ∧ (0 ≤ v6_6 ∧ v6_6 ≤ 300) ∧ (2 ≤ v7_6 ∧ v7_6 ≤ 300) ∧ (v2_6 < v3_6) ∧ (v3_6 ≤ I 86 1) ∧ (a1 + 2 < v2_6) ∧ (gc_N (I o) (Int.toNat v2_6) = gc_N (I o) (Int.toNat (a1 + 2)) - 1) ∧ (gc_N (I o) (Int.toNat v3_6) = gc_N (I o) (Int.toNat v2_6) - 1) ∧ (1 ≤ gc_N (I o) (Int.toNat a1)) ∧ (gc_N (I o) (Int.toNat (a1 + 2)) = gc_N (I o) (Int.toNat a1) + 1) ∧ (a1 + 2 ≤ v7_6) ∧ (v5_6 ≤ v7_6) ∧ (v6_6 ≤ v7_6 - a1 - 2) ∧ (v7_6 ≤ v2_6) ∧ (I4 86 1 = I 86 1) ∧ (I4 86 2 = I 86 2) ∧ (I4 86 4 = I 86 4)) → (gc_tg (I4 u) v4_6 (b + 300)) → (gc_N (I4 u) (Int.toNat v4_6) = gc_N (I o) (Int.toNat (v7_6)) - 1) → (gc_rg 92 I4 v6_6 0 (v7_6)) → (gc_sg (I o) (a1 + 2) v2_6) → (gc_sg (I o) v2_6 v3_6) → gv_X (gc_E10 ws0 tb 2 (yX10_contract, cX10_contract, 9, (some .boolean)) kX10_contract) (gv_Q cX10_contract (some .boolean) sh (fun r h' => (∃ (I' : gr_I) (J' : gr_J), h' = gc_h sh I' J' A ∧ gc_Inv ro I' ∧ (∀ q j : Nat, (q = u ∨ (q = 86 ∧ j = 1) ∨ (q = 86 ∧ j = 2) ∨ (q = 86 ∧ j = 3) ∨ (q = 86 ∧ j = 4) ∨ (q = 86 ∧ j = 5) ∨ q = 92 ∨ q = 93) ∨ I' q j = I q j) ∧ (∀ q j : Nat, (q = 88 ∨ q = 90) ∨ J' q j = J q j) ∧ (∃ z : Int, r = some (.inl z) ∧ 0 ≤ z ∧ z ≤ 1 ∧ ((z = 0 ∧ I' 86 2 = I 86 2 ∧ I' 86 4 = I 86 4) ∨ (I' 86 2 = I 86 4 ∧ I' 86 4 = I 86 2)) ∧ (z = 0 ∨ gc_TC (I' u) (I' 86 1)) ∧ (z = 0 ∨ gc_ub (I' u) (I' 86 1) (b + 300)))))) (56, [(0, .inr (.inr (some 86))), (2, .inl v2_6), (3, .inl v3_6), (4, .inl v4_6), (5, .inl v5_6), (6, .inl v6_6), (7, .inl v7_6)], [], sh, gc_h sh I4 J5 A) := by
    intro n9
    induction n9 with
    | zero => intro I4 J5 v2_6 v3_6 v4_6 v5_6 v6_6 v7_6 hn; omega
    | succ n9 ih56 =>
      intro I4 J5 v2_6 v3_6 v4_6 v5_6 v6_6 v7_6 hn hI4 FI4 FJ5 m_6 e0_6 e1_6 e2_6 e3_6 e4_6
      obtain ⟨hv2_6, hv3_6, hv4_6, hv5_6, hv6_6, hv7_6, e5_6, e6_6, e7_6, e8_6, e9_6, e10_6, e11_6, e12_6, e13_6, e14_6, e15_6, e16_6, e17_6, e18_6⟩ := m_6
      have f7 := (show 0 ≤ I4 86 1 ∧ I4 86 1 ≤ 300 from gc_in hI4 R_86 rfl rfl)
      have f8 := (show 0 ≤ I4 86 2 ∧ I4 86 2 ≤ 1 from gc_in hI4 R_86 rfl rfl)
      have f9 := (show 0 ≤ I4 86 4 ∧ I4 86 4 ≤ 1 from gc_in hI4 R_86 rfl rfl)
      have L146 : ∀ (I10 : gr_I) (J11 : gr_J) (v4_12 : Int) (v8_12 : Int), gc_Inv ro I10 → (∀ q j : Nat, (q = u ∨ (q = 86 ∧ j = 1) ∨ (q = 86 ∧ j = 2) ∨ (q = 86 ∧ j = 3) ∨ (q = 86 ∧ j = 4) ∨ (q = 86 ∧ j = 5) ∨ q = 92 ∨ q = 93) ∨ I10 q j = I q j) → (∀ q j : Nat, (q = 88 ∨ q = 90) ∨ J11 q j = J q j) → ((3 ≤ v2_6 ∧ v2_6 ≤ 300) ∧ (0 ≤ v3_6 ∧ v3_6 ≤ 300) ∧ ((-1) ≤ v4_12 ∧ v4_12 ≤ 300) ∧ (0 ≤ v5_6 ∧ v5_6 ≤ 300) ∧ (0 ≤ v6_6 ∧ v6_6 ≤ 300) ∧ (2 ≤ v7_6 ∧ v7_6 ≤ 299) ∧ ((-3) ≤ v8_12 ∧ v8_12 ≤ 1000000) ∧ (v2_6 < v3_6) ∧ (v3_6 ≤ I 86 1) ∧ (a1 + 2 < v2_6) ∧ (gc_N (I o) (Int.toNat v2_6) = gc_N (I o) (Int.toNat (a1 + 2)) - 1) ∧ (gc_N (I o) (Int.toNat v3_6) = gc_N (I o) (Int.toNat v2_6) - 1) ∧ (1 ≤ gc_N (I o) (Int.toNat a1)) ∧ (gc_N (I o) (Int.toNat (a1 + 2)) = gc_N (I o) (Int.toNat a1) + 1) ∧ (a1 + 2 ≤ v7_6) ∧ (v5_6 ≤ v7_6) ∧ (v6_6 ≤ v7_6 - a1 - 2) ∧ (v7_6 < v2_6) ∧ (v8_12 = I o (Int.toNat v7_6)) ∧ (I10 86 1 = I 86 1) ∧ (I10 86 2 = I 86 2) ∧ (I10 86 4 = I 86 4)) → (v4_12 = -1 ∨ gc_tg (I10 u) v4_12 (b + 300)) → (v4_12 = -1 ∨ gc_N (I10 u) (Int.toNat v4_12) = gc_N (I o) (Int.toNat (v7_6 + 1)) - 1) → (gc_rg 92 I10 v6_6 0 (v7_6)) → (gc_sg (I o) (a1 + 2) v2_6) → (gc_sg (I o) v2_6 v3_6) → gv_X (gc_E10 ws0 tb 2 (yX10_contract, cX10_contract, 9, (some .boolean)) kX10_contract) (gv_Q cX10_contract (some .boolean) sh (fun r h' => (∃ (I' : gr_I) (J' : gr_J), h' = gc_h sh I' J' A ∧ gc_Inv ro I' ∧ (∀ q j : Nat, (q = u ∨ (q = 86 ∧ j = 1) ∨ (q = 86 ∧ j = 2) ∨ (q = 86 ∧ j = 3) ∨ (q = 86 ∧ j = 4) ∨ (q = 86 ∧ j = 5) ∨ q = 92 ∨ q = 93) ∨ I' q j = I q j) ∧ (∀ q j : Nat, (q = 88 ∨ q = 90) ∨ J' q j = J q j) ∧ (∃ z : Int, r = some (.inl z) ∧ 0 ≤ z ∧ z ≤ 1 ∧ ((z = 0 ∧ I' 86 2 = I 86 2 ∧ I' 86 4 = I 86 4) ∨ (I' 86 2 = I 86 4 ∧ I' 86 4 = I 86 2)) ∧ (z = 0 ∨ gc_TC (I' u) (I' 86 1)) ∧ (z = 0 ∨ gc_ub (I' u) (I' 86 1) (b + 300)))))) (146, [(0, .inr (.inr (some 86))), (2, .inl v2_6), (3, .inl v3_6), (4, .inl v4_12), (5, .inl v5_6), (6, .inl v6_6), (7, .inl v7_6), (8, .inl v8_12)], [], sh, gc_h sh I10 J11 A) := by
        intro I10 J11 v4_12 v8_12 hI10 FI10 FJ11 m_12 e0_12 e1_12 e2_12 e3_12 e4_12
        clear hv2_6 hv3_6 hv4_6 hv5_6 hv6_6 hv7_6 e5_6 e6_6 e7_6 e8_6 e9_6 e10_6 e11_6 e12_6 e13_6 e14_6 e15_6 e16_6 e17_6 e18_6 f7 f8 f9
        obtain ⟨hv2_6_12, hv3_6_12, hv4_12, hv5_6_12, hv6_6_12, hv7_6_12, hv8_12, e5_12, e6_12, e7_12, e8_12, e9_12, e10_12, e11_12, e12_12, e13_12, e14_12, e15_12, e16_12, e17_12, e18_12, e19_12⟩ := m_12
        have f13 := (show 0 ≤ I10 86 1 ∧ I10 86 1 ≤ 300 from gc_in hI10 R_86 rfl rfl)
        have f14 := (show 0 ≤ I10 86 2 ∧ I10 86 2 ≤ 1 from gc_in hI10 R_86 rfl rfl)
        have f15 := (show 0 ≤ I10 86 4 ∧ I10 86 4 ≤ 1 from gc_in hI10 R_86 rfl rfl)
        have L204 : ∀ (I16 : gr_I) (J17 : gr_J) (v5_18 : Int) (v6_18 : Int), gc_Inv ro I16 → (∀ q j : Nat, (q = u ∨ (q = 86 ∧ j = 1) ∨ (q = 86 ∧ j = 2) ∨ (q = 86 ∧ j = 3) ∨ (q = 86 ∧ j = 4) ∨ (q = 86 ∧ j = 5) ∨ q = 92 ∨ q = 93) ∨ I16 q j = I q j) → (∀ q j : Nat, (q = 88 ∨ q = 90) ∨ J17 q j = J q j) → ((3 ≤ v2_6 ∧ v2_6 ≤ 300) ∧ (0 ≤ v3_6 ∧ v3_6 ≤ 300) ∧ (0 ≤ v4_12 ∧ v4_12 ≤ 300) ∧ (0 ≤ v5_18 ∧ v5_18 ≤ 300) ∧ (0 ≤ v6_18 ∧ v6_18 ≤ 300) ∧ (2 ≤ v7_6 ∧ v7_6 ≤ 299) ∧ (v2_6 < v3_6) ∧ (v3_6 ≤ I 86 1) ∧ (a1 + 2 < v2_6) ∧ (gc_N (I o) (Int.toNat v2_6) = gc_N (I o) (Int.toNat (a1 + 2)) - 1) ∧ (gc_N (I o) (Int.toNat v3_6) = gc_N (I o) (Int.toNat v2_6) - 1) ∧ (1 ≤ gc_N (I o) (Int.toNat a1)) ∧ (gc_N (I o) (Int.toNat (a1 + 2)) = gc_N (I o) (Int.toNat a1) + 1) ∧ (a1 + 2 ≤ v7_6) ∧ (v5_18 ≤ v7_6 + 1) ∧ (v6_18 ≤ v7_6 + 1 - a1 - 2) ∧ (v7_6 < v2_6) ∧ (I16 86 1 = I 86 1) ∧ (I16 86 2 = I 86 2) ∧ (I16 86 4 = I 86 4)) → (gc_tg (I16 u) v4_12 (b + 300)) → (gc_N (I16 u) (Int.toNat v4_12) = gc_N (I o) (Int.toNat (v7_6 + 1)) - 1) → (gc_rg 92 I16 v6_18 0 (v7_6 + 1)) → (gc_sg (I o) (a1 + 2) v2_6) → (gc_sg (I o) v2_6 v3_6) → gv_X (gc_E10 ws0 tb 2 (yX10_contract, cX10_contract, 9, (some .boolean)) kX10_contract) (gv_Q cX10_contract (some .boolean) sh (fun r h' => (∃ (I' : gr_I) (J' : gr_J), h' = gc_h sh I' J' A ∧ gc_Inv ro I' ∧ (∀ q j : Nat, (q = u ∨ (q = 86 ∧ j = 1) ∨ (q = 86 ∧ j = 2) ∨ (q = 86 ∧ j = 3) ∨ (q = 86 ∧ j = 4) ∨ (q = 86 ∧ j = 5) ∨ q = 92 ∨ q = 93) ∨ I' q j = I q j) ∧ (∀ q j : Nat, (q = 88 ∨ q = 90) ∨ J' q j = J q j) ∧ (∃ z : Int, r = some (.inl z) ∧ 0 ≤ z ∧ z ≤ 1 ∧ ((z = 0 ∧ I' 86 2 = I 86 2 ∧ I' 86 4 = I 86 4) ∨ (I' 86 2 = I 86 4 ∧ I' 86 4 = I 86 2)) ∧ (z = 0 ∨ gc_TC (I' u) (I' 86 1)) ∧ (z = 0 ∨ gc_ub (I' u) (I' 86 1) (b + 300)))))) (204, [(0, .inr (.inr (some 86))), (2, .inl v2_6), (3, .inl v3_6), (4, .inl v4_12), (5, .inl v5_18), (6, .inl v6_18), (7, .inl v7_6)], [], sh, gc_h sh I16 J17 A) := by
          intro I16 J17 v5_18 v6_18 hI16 FI16 FJ17 m_18 e0_18 e1_18 e2_18 e3_18 e4_18
          clear hv2_6_12 hv3_6_12 hv4_12 hv5_6_12 hv6_6_12 hv7_6_12 hv8_12 e5_12 e6_12 e7_12 e8_12 e9_12 e10_12 e11_12 e12_12 e13_12 e14_12 e15_12 e16_12 e17_12 e18_12 e19_12 f13 f14 f15
          obtain ⟨hv2_6_18, hv3_6_18, hv4_12_18, hv5_18, hv6_18, hv7_6_18, e5_18, e6_18, e7_18, e8_18, e9_18, e10_18, e11_18, e12_18, e13_18, e14_18, e15_18, e16_18, e17_18, e18_18⟩ := m_18
          have f19 := (show 0 ≤ I16 86 1 ∧ I16 86 1 ≤ 300 from gc_in hI16 R_86 rfl rfl)
          have f20 := (show 0 ≤ I16 86 2 ∧ I16 86 2 ≤ 1 from gc_in hI16 R_86 rfl rfl)
          have f21 := (show 0 ≤ I16 86 4 ∧ I16 86 4 ≤ 1 from gc_in hI16 R_86 rfl rfl)
          refine gv_run 2 true hD (pc' := 56) (lv' := [(7, .inl (v7_6 + 1)), (0, .inr (.inr (some 86))), (2, .inl v2_6), (3, .inl v3_6), (4, .inl v4_12), (5, .inl v5_18), (6, .inl v6_18)]) (st' := []) (h' := gc_h sh I16 J17 A) (C := ((True ∧ True) ∧ True)) rfl ⟨⟨trivial, trivial⟩, trivial⟩ ?_
          refine gv_pick [1, 2, 3, 4, 5, 6, 0] rfl ?_
          exact ih56 I16 J17 v2_6 v3_6 v4_12 v5_18 v6_18 (v7_6 + 1) (by omega) hI16 FI16 FJ17 (by omega) e0_18 e1_18 e2_18 e3_18 e4_18
        refine gv_run 1 true hD (pc' := 148) (lv' := [(0, .inr (.inr (some 86))), (2, .inl v2_6), (3, .inl v3_6), (4, .inl v4_12), (5, .inl v5_6), (6, .inl v6_6), (7, .inl v7_6), (8, .inl v8_12)]) (st' := [.inl v4_12]) (h' := gc_h sh I10 J11 A) (C := (True ∧ True)) rfl ⟨trivial, trivial⟩ ?_
        refine gv_if_ge (t := 153) hD rfl rfl ⟨by omega, by omega⟩ (fun c22 => ?_) (fun c22 => ?_)
        · show gv_X _ _ (153, [(0, .inr (.inr (some 86))), (2, .inl v2_6), (3, .inl v3_6), (4, .inl v4_12), (5, .inl v5_6), (6, .inl v6_6), (7, .inl v7_6), (8, .inl v8_12)], [], sh, gc_h sh I10 J11 A)
          refine gv_run 2 true hD (pc' := 156) (lv' := [(0, .inr (.inr (some 86))), (2, .inl v2_6), (3, .inl v3_6), (4, .inl v4_12), (5, .inl v5_6), (6, .inl v6_6), (7, .inl v7_6), (8, .inl v8_12)]) (st' := [.inl (-1), .inl v8_12]) (h' := gc_h sh I10 J11 A) (C := ((True ∧ True) ∧ True)) rfl ⟨⟨trivial, trivial⟩, trivial⟩ ?_
          refine gv_icmp_ne (t := 174) hD rfl rfl ⟨⟨by omega, by omega⟩, ⟨by omega, by omega⟩⟩ (fun c23 => ?_) (fun c23 => ?_)
          · show gv_X _ _ (174, [(0, .inr (.inr (some 86))), (2, .inl v2_6), (3, .inl v3_6), (4, .inl v4_12), (5, .inl v5_6), (6, .inl v6_6), (7, .inl v7_6), (8, .inl v8_12)], [], sh, gc_h sh I10 J11 A)
            refine gv_run 2 true hD (pc' := 178) (lv' := [(0, .inr (.inr (some 86))), (2, .inl v2_6), (3, .inl v3_6), (4, .inl v4_12), (5, .inl v5_6), (6, .inl v6_6), (7, .inl v7_6), (8, .inl v8_12)]) (st' := [.inl (-2), .inl v8_12]) (h' := gc_h sh I10 J11 A) (C := ((True ∧ True) ∧ True)) rfl ⟨⟨trivial, trivial⟩, trivial⟩ ?_
            refine gv_icmp_ne (t := 187) hD rfl rfl ⟨⟨by omega, by omega⟩, ⟨by omega, by omega⟩⟩ (fun c24 => ?_) (fun c24 => ?_)
            · show gv_X _ _ (187, [(0, .inr (.inr (some 86))), (2, .inl v2_6), (3, .inl v3_6), (4, .inl v4_12), (5, .inl v5_6), (6, .inl v6_6), (7, .inl v7_6), (8, .inl v8_12)], [], sh, gc_h sh I10 J11 A)
              refine gv_run 1 true hD (pc' := 189) (lv' := [(0, .inr (.inr (some 86))), (2, .inl v2_6), (3, .inl v3_6), (4, .inl v4_12), (5, .inl v5_6), (6, .inl v6_6), (7, .inl v7_6), (8, .inl v8_12)]) (st' := [.inl v6_6]) (h' := gc_h sh I10 J11 A) (C := (True ∧ True)) rfl ⟨trivial, trivial⟩ ?_
              refine gv_if_le (t := 204) hD rfl rfl ⟨by omega, by omega⟩ (fun c25 => ?_) (fun c25 => ?_)
              · show gv_X _ _ (204, [(0, .inr (.inr (some 86))), (2, .inl v2_6), (3, .inl v3_6), (4, .inl v4_12), (5, .inl v5_6), (6, .inl v6_6), (7, .inl v7_6), (8, .inl v8_12)], [], sh, gc_h sh I10 J11 A)
                refine gv_pick [0, 1, 2, 3, 4, 5, 6] rfl ?_
                exact L204 I10 J11 v5_6 v6_6 hI10 FI10 FJ11 (by omega) (by exact e0_12.resolve_left (by omega)) (by exact e1_12.resolve_left (by omega)) (gc_rg_hi (gc_rg_m e2_12 (by omega)) (by omega)) e3_12 e4_12
              · show gv_X _ _ (192, [(0, .inr (.inr (some 86))), (2, .inl v2_6), (3, .inl v3_6), (4, .inl v4_12), (5, .inl v5_6), (6, .inl v6_6), (7, .inl v7_6), (8, .inl v8_12)], [], sh, gc_h sh I10 J11 A)
                refine gv_run 1 true hD (pc' := 193) (lv' := [(0, .inr (.inr (some 86))), (2, .inl v2_6), (3, .inl v3_6), (4, .inl v4_12), (5, .inl v5_6), (6, .inl v6_6), (7, .inl v7_6), (8, .inl v8_12)]) (st' := [.inr (.inr (some 86))]) (h' := gc_h sh I10 J11 A) (C := (True ∧ True)) rfl ⟨trivial, trivial⟩ ?_
                refine gv_get hD rfl rfl S_86 ⟨by decide, B_86⟩ (gc_hA S_86 rfl A_86_7) ?_
                show gv_X _ _ (196, [(0, .inr (.inr (some 86))), (2, .inl v2_6), (3, .inl v3_6), (4, .inl v4_12), (5, .inl v5_6), (6, .inl v6_6), (7, .inl v7_6), (8, .inl v8_12)], [.inr (.inr (some 92))], sh, gc_h sh I10 J11 A)
                refine gv_run 2 true hD (pc' := 201) (lv' := [(6, .inl (v6_6 + (-1))), (0, .inr (.inr (some 86))), (2, .inl v2_6), (3, .inl v3_6), (4, .inl v4_12), (5, .inl v5_6), (7, .inl v7_6), (8, .inl v8_12)]) (st' := [.inl (v6_6 + (-1)), .inr (.inr (some 92))]) (h' := gc_h sh I10 J11 A) (C := ((True ∧ True) ∧ True)) rfl ⟨⟨trivial, trivial⟩, trivial⟩ ?_
                have t26 := e2_12 ((v6_6 + (-1))) (by omega) (by omega)
                have f27 := (show 0 ≤ I10 92 (Int.toNat ((v6_6 + (-1)))) ∧ I10 92 (Int.toNat ((v6_6 + (-1)))) ≤ 400 from gc_in hI10 R_92 rfl rfl)
                refine gv_iald hD rfl S_92 rfl ⟨by decide, B_92⟩ ⟨by omega, by omega⟩ (gc_iI S_92 rfl) ?_
                show gv_X _ _ (202, [(6, .inl (v6_6 + (-1))), (0, .inr (.inr (some 86))), (2, .inl v2_6), (3, .inl v3_6), (4, .inl v4_12), (5, .inl v5_6), (7, .inl v7_6), (8, .inl v8_12)], [.inl (I10 92 (Int.toNat ((v6_6 + (-1)))))], sh, gc_h sh I10 J11 A)
                refine gv_run 1 true hD (pc' := 204) (lv' := [(5, .inl (I10 92 (Int.toNat ((v6_6 + (-1)))))), (6, .inl (v6_6 + (-1))), (0, .inr (.inr (some 86))), (2, .inl v2_6), (3, .inl v3_6), (4, .inl v4_12), (7, .inl v7_6), (8, .inl v8_12)]) (st' := []) (h' := gc_h sh I10 J11 A) (C := (True ∧ True)) rfl ⟨trivial, trivial⟩ ?_
                refine gv_pick [2, 3, 4, 5, 0, 1, 6] rfl ?_
                exact L204 I10 J11 ((I10 92 (Int.toNat ((v6_6 + (-1)))))) ((v6_6 + (-1))) hI10 FI10 FJ11 (by omega) (by exact e0_12.resolve_left (by omega)) (by exact e1_12.resolve_left (by omega)) (gc_rg_hi (gc_rg_m e2_12 (by omega)) (by omega)) e3_12 e4_12
            · show gv_X _ _ (181, [(0, .inr (.inr (some 86))), (2, .inl v2_6), (3, .inl v3_6), (4, .inl v4_12), (5, .inl v5_6), (6, .inl v6_6), (7, .inl v7_6), (8, .inl v8_12)], [], sh, gc_h sh I10 J11 A)
              refine gv_run 2 true hD (pc' := 204) (lv' := [(5, .inl (v5_6 + 1)), (0, .inr (.inr (some 86))), (2, .inl v2_6), (3, .inl v3_6), (4, .inl v4_12), (6, .inl v6_6), (7, .inl v7_6), (8, .inl v8_12)]) (st' := []) (h' := gc_h sh I10 J11 A) (C := ((True ∧ True) ∧ True)) rfl ⟨⟨trivial, trivial⟩, trivial⟩ ?_
              refine gv_pick [1, 2, 3, 4, 0, 5, 6] rfl ?_
              exact L204 I10 J11 (v5_6 + 1) v6_6 hI10 FI10 FJ11 (by omega) (by exact e0_12.resolve_left (by omega)) (by exact e1_12.resolve_left (by omega)) (gc_rg_hi (gc_rg_m e2_12 (by omega)) (by omega)) e3_12 e4_12
          · show gv_X _ _ (159, [(0, .inr (.inr (some 86))), (2, .inl v2_6), (3, .inl v3_6), (4, .inl v4_12), (5, .inl v5_6), (6, .inl v6_6), (7, .inl v7_6), (8, .inl v8_12)], [], sh, gc_h sh I10 J11 A)
            refine gv_run 1 true hD (pc' := 160) (lv' := [(0, .inr (.inr (some 86))), (2, .inl v2_6), (3, .inl v3_6), (4, .inl v4_12), (5, .inl v5_6), (6, .inl v6_6), (7, .inl v7_6), (8, .inl v8_12)]) (st' := [.inr (.inr (some 86))]) (h' := gc_h sh I10 J11 A) (C := (True ∧ True)) rfl ⟨trivial, trivial⟩ ?_
            refine gv_get hD rfl rfl S_86 ⟨by decide, B_86⟩ (gc_hA S_86 rfl A_86_7) ?_
            show gv_X _ _ (163, [(0, .inr (.inr (some 86))), (2, .inl v2_6), (3, .inl v3_6), (4, .inl v4_12), (5, .inl v5_6), (6, .inl v6_6), (7, .inl v7_6), (8, .inl v8_12)], [.inr (.inr (some 92))], sh, gc_h sh I10 J11 A)
            refine gv_run 3 true hD (pc' := 170) (lv' := [(6, .inl (v6_6 + 1)), (0, .inr (.inr (some 86))), (2, .inl v2_6), (3, .inl v3_6), (4, .inl v4_12), (5, .inl v5_6), (7, .inl v7_6), (8, .inl v8_12)]) (st' := [.inl v5_6, .inl v6_6, .inr (.inr (some 92))]) (h' := gc_h sh I10 J11 A) (C := (((True ∧ True) ∧ True) ∧ True)) rfl ⟨⟨⟨trivial, trivial⟩, trivial⟩, trivial⟩ ?_
            refine gv_iast hD rfl S_92 ⟨by decide, B_92⟩ ⟨by omega, by omega⟩ ?_
            refine gc_st hI10 S_92 rfl R_92 (lo := 0) (hi := 400) rfl rfl (by omega) (by omega) (fun I28 hI28 q29 p29 => ?_)
            have FI28 := gc_frs (W := fun q j => q = u ∨ (q = 86 ∧ j = 1) ∨ (q = 86 ∧ j = 2) ∨ (q = 86 ∧ j = 3) ∨ (q = 86 ∧ j = 4) ∨ (q = 86 ∧ j = 5) ∨ q = 92 ∨ q = 93) FI10 (Or.inr (Or.inr (Or.inr (Or.inr (Or.inr (Or.inr (Or.inl rfl))))))) p29
            have t30 := p29 86 1 (fun h => absurd h.1 (by decide))
            have t31 := p29 86 2 (fun h => absurd h.1 (by decide))
            have t32 := p29 86 4 (fun h => absurd h.1 (by decide))
            show gv_X _ _ (171, [(6, .inl (v6_6 + 1)), (0, .inr (.inr (some 86))), (2, .inl v2_6), (3, .inl v3_6), (4, .inl v4_12), (5, .inl v5_6), (7, .inl v7_6), (8, .inl v8_12)], [], sh, gc_h sh I28 J11 A)
            refine gv_run 1 true hD (pc' := 204) (lv' := [(6, .inl (v6_6 + 1)), (0, .inr (.inr (some 86))), (2, .inl v2_6), (3, .inl v3_6), (4, .inl v4_12), (5, .inl v5_6), (7, .inl v7_6), (8, .inl v8_12)]) (st' := []) (h' := gc_h sh I28 J11 A) (C := (True ∧ True)) rfl ⟨trivial, trivial⟩ ?_
            refine gv_pick [1, 2, 3, 4, 5, 0, 6] rfl ?_
            exact L204 I28 J11 v5_6 (v6_6 + 1) hI28 FI28 FJ11 (by omega) (by rw [show I28 u = I10 u from funext (fun k => (p29 u k (fun h => absurd h.1 (by omega))))]; exact e0_12.resolve_left (by omega)) (by rw [show I28 u = I10 u from funext (fun k => (p29 u k (fun h => absurd h.1 (by omega))))]; exact e1_12.resolve_left (by omega)) (gc_rg_hi (gc_rg_m (gc_rg_push e2_12 (by omega) p29 (by omega)) (by omega)) (by omega)) e3_12 e4_12
        · show gv_X _ _ (151, [(0, .inr (.inr (some 86))), (2, .inl v2_6), (3, .inl v3_6), (4, .inl v4_12), (5, .inl v5_6), (6, .inl v6_6), (7, .inl v7_6), (8, .inl v8_12)], [], sh, gc_h sh I10 J11 A)
          refine gv_run 1 true hD (pc' := 152) (lv' := [(0, .inr (.inr (some 86))), (2, .inl v2_6), (3, .inl v3_6), (4, .inl v4_12), (5, .inl v5_6), (6, .inl v6_6), (7, .inl v7_6), (8, .inl v8_12)]) (st' := [.inl 0]) (h' := gc_h sh I10 J11 A) (C := (True ∧ True)) rfl ⟨trivial, trivial⟩ ?_
          exact gv_zret hD rfl (by omega) ⟨I10, J11, rfl, hI10, FI10, FJ11, ⟨_, rfl, by omega, by omega, by omega, (Or.inl rfl), (Or.inl rfl)⟩⟩
      refine gv_run 2 true hD (pc' := 59) (lv' := [(0, .inr (.inr (some 86))), (2, .inl v2_6), (3, .inl v3_6), (4, .inl v4_6), (5, .inl v5_6), (6, .inl v6_6), (7, .inl v7_6)]) (st' := [.inl v2_6, .inl v7_6]) (h' := gc_h sh I4 J5 A) (C := ((True ∧ True) ∧ True)) rfl ⟨⟨trivial, trivial⟩, trivial⟩ ?_
      refine gv_icmp_ge (t := 210) hD rfl rfl ⟨⟨by omega, by omega⟩, ⟨by omega, by omega⟩⟩ (fun c33 => ?_) (fun c33 => ?_)
      · show gv_X _ _ (210, [(0, .inr (.inr (some 86))), (2, .inl v2_6), (3, .inl v3_6), (4, .inl v4_6), (5, .inl v5_6), (6, .inl v6_6), (7, .inl v7_6)], [], sh, gc_h sh I4 J5 A)
        refine gv_run 3 true hD (pc' := 214) (lv' := [(0, .inr (.inr (some 86))), (2, .inl v2_6), (3, .inl v3_6), (4, .inl v4_6), (5, .inl v5_6), (6, .inl v6_6), (7, .inl v7_6)]) (st' := [.inl v4_6, .inl v3_6, .inr (.inr (some 86))]) (h' := gc_h sh I4 J5 A) (C := (((True ∧ True) ∧ True) ∧ True)) rfl ⟨⟨⟨trivial, trivial⟩, trivial⟩, trivial⟩ ?_
        obtain ⟨r34, h34, E34, P34⟩ := d_X10_takeRest (ws0 := ws0) (tb := tb) hws htb sh ro I4 J5 A hI4  o u (b + 300) v3_6 v4_6 hb   ⟨by omega, by omega⟩ ⟨by omega, by omega⟩ (by omega) (by omega) (by omega) (by omega) (by omega) (by rw [(show I4 o = I o from funext (fun k => (FI4 o k).resolve_left (by omega))), show I4 86 1 = I 86 1 from by omega]; exact x4) (by rw [(show I4 o = I o from funext (fun k => (FI4 o k).resolve_left (by omega))), show I4 86 1 = I 86 1 from by omega]; exact (fun k hk => by have := x5 k hk; omega)) e0_6 (by rw [(show I4 o = I o from funext (fun k => (FI4 o k).resolve_left (by omega)))]; have h9 := e1_6; rw [show v7_6 = v2_6 from by omega] at h9; omega) 
        obtain ⟨I35, J36, rfl, hI35, g34, k34, ⟨z34, rfl, q34⟩⟩ := P34
        have FI35 := gc_frc (W := fun q j => q = u ∨ (q = 86 ∧ j = 1) ∨ (q = 86 ∧ j = 2) ∨ (q = 86 ∧ j = 3) ∨ (q = 86 ∧ j = 4) ∨ (q = 86 ∧ j = 5) ∨ q = 92 ∨ q = 93) (V := fun q j => q = u ∨ (q = 86 ∧ j = 1) ∨ (q = 86 ∧ j = 2) ∨ (q = 86 ∧ j = 3) ∨ (q = 86 ∧ j = 4) ∨ (q = 86 ∧ j = 5)) FI4 (fun q j h => (h.elim (fun h => (Or.inl h)) (fun h => (h.elim (fun h => (Or.inr (Or.inl h))) (fun h => (h.elim (fun h => (Or.inr (Or.inr (Or.inl h)))) (fun h => (h.elim (fun h => (Or.inr (Or.inr (Or.inr (Or.inl h))))) (fun h => (h.elim (fun h => (Or.inr (Or.inr (Or.inr (Or.inr (Or.inl h)))))) (fun h => (Or.inr (Or.inr (Or.inr (Or.inr (Or.inr (Or.inl h))))))))))))))))) g34
        have FJ36 := gc_frc (W := fun q j => q = 88 ∨ q = 90) (V := fun q j => q = 88 ∨ q = 90) FJ5 (fun q j h => (h.elim (fun h => (Or.inl h)) (fun h => (Or.inr h)))) k34
        have f37 := (show 0 ≤ I35 86 1 ∧ I35 86 1 ≤ 300 from gc_in hI35 R_86 rfl rfl)
        have f38 := (show 0 ≤ I35 86 2 ∧ I35 86 2 ≤ 1 from gc_in hI35 R_86 rfl rfl)
        have f39 := (show 0 ≤ I35 86 4 ∧ I35 86 4 ≤ 1 from gc_in hI35 R_86 rfl rfl)
        refine gv_callV hD rfl (As := [.inl v3_6, .inl v4_6]) (st := []) rfl B_86 S_86 rfl (gc_lV10 hws rfl) (Nat.le_of_ble_eq_true rfl) (gz_Ev_mono (d := 2) (by decide) E34) ?_
        show gv_X _ _ (217, [(0, .inr (.inr (some 86))), (2, .inl v2_6), (3, .inl v3_6), (4, .inl v4_6), (5, .inl v5_6), (6, .inl v6_6), (7, .inl v7_6)], [.inl z34], sh, gc_h sh I35 J36 A)
        exact gv_zret hD rfl (by omega) ⟨I35, J36, rfl, hI35, FI35, FJ36, ⟨_, rfl, by omega, by omega, by omega, q34.2.2.2.1, q34.2.2.2.2⟩⟩
      · show gv_X _ _ (62, [(0, .inr (.inr (some 86))), (2, .inl v2_6), (3, .inl v3_6), (4, .inl v4_6), (5, .inl v5_6), (6, .inl v6_6), (7, .inl v7_6)], [], sh, gc_h sh I4 J5 A)
        have t40 := gc_N_nx (f := I o) (v := v7_6) (by omega)
        have t41 := gc_nwc (I o (Int.toNat v7_6))
        have t42 := e3_6 (Int.toNat v7_6) (by omega) (by omega)
        have t43 := (FI4 o (Int.toNat v7_6)).resolve_left (by omega)
        have t44 := x5 (Int.toNat v7_6) (by omega)
        refine gv_run 1 true hD (pc' := 63) (lv' := [(0, .inr (.inr (some 86))), (2, .inl v2_6), (3, .inl v3_6), (4, .inl v4_6), (5, .inl v5_6), (6, .inl v6_6), (7, .inl v7_6)]) (st' := [.inr (.inr (some 86))]) (h' := gc_h sh I4 J5 A) (C := (True ∧ True)) rfl ⟨trivial, trivial⟩ ?_
        refine gv_get hD rfl rfl S_86 ⟨by decide, B_86⟩ (gc_hS (n := 1001) (q := o) S_86 rfl (by omega)) ?_
        show gv_X _ _ (66, [(0, .inr (.inr (some 86))), (2, .inl v2_6), (3, .inl v3_6), (4, .inl v4_6), (5, .inl v5_6), (6, .inl v6_6), (7, .inl v7_6)], [.inr (.inr (some o))], sh, gc_h sh I4 J5 A)
        refine gv_run 1 true hD (pc' := 68) (lv' := [(0, .inr (.inr (some 86))), (2, .inl v2_6), (3, .inl v3_6), (4, .inl v4_6), (5, .inl v5_6), (6, .inl v6_6), (7, .inl v7_6)]) (st' := [.inl v7_6, .inr (.inr (some o))]) (h' := gc_h sh I4 J5 A) (C := (True ∧ True)) rfl ⟨trivial, trivial⟩ ?_
        have f45 := (show (-3) ≤ I4 o (Int.toNat v7_6) ∧ I4 o (Int.toNat v7_6) ≤ 1000000 from gc_in hI4 R_o rfl rfl)
        refine gv_iald hD rfl S_o rfl ⟨by decide, B_o⟩ ⟨by omega, by omega⟩ (gc_iI S_o rfl) ?_
        show gv_X _ _ (69, [(0, .inr (.inr (some 86))), (2, .inl v2_6), (3, .inl v3_6), (4, .inl v4_6), (5, .inl v5_6), (6, .inl v6_6), (7, .inl v7_6)], [.inl (I4 o (Int.toNat v7_6))], sh, gc_h sh I4 J5 A)
        refine gv_run 3 true hD (pc' := 75) (lv' := [(8, .inl (I4 o (Int.toNat v7_6))), (0, .inr (.inr (some 86))), (2, .inl v2_6), (3, .inl v3_6), (4, .inl v4_6), (5, .inl v5_6), (6, .inl v6_6), (7, .inl v7_6)]) (st' := [.inl v5_6, .inl (I4 o (Int.toNat v7_6))]) (h' := gc_h sh I4 J5 A) (C := (((True ∧ True) ∧ True) ∧ True)) rfl ⟨⟨⟨trivial, trivial⟩, trivial⟩, trivial⟩ ?_
        refine gv_icmp_ne (t := 93) hD rfl rfl ⟨⟨by omega, by omega⟩, ⟨by omega, by omega⟩⟩ (fun c46 => ?_) (fun c46 => ?_)
        · show gv_X _ _ (93, [(8, .inl (I4 o (Int.toNat v7_6))), (0, .inr (.inr (some 86))), (2, .inl v2_6), (3, .inl v3_6), (4, .inl v4_6), (5, .inl v5_6), (6, .inl v6_6), (7, .inl v7_6)], [], sh, gc_h sh I4 J5 A)
          refine gv_run 2 true hD (pc' := 98) (lv' := [(8, .inl (I4 o (Int.toNat v7_6))), (0, .inr (.inr (some 86))), (2, .inl v2_6), (3, .inl v3_6), (4, .inl v4_6), (5, .inl v5_6), (6, .inl v6_6), (7, .inl v7_6)]) (st' := [.inl 300, .inl v4_6]) (h' := gc_h sh I4 J5 A) (C := ((True ∧ True) ∧ True)) rfl ⟨⟨trivial, trivial⟩, trivial⟩ ?_
          refine gv_icmp_ge (t := 144) hD rfl rfl ⟨⟨by omega, by omega⟩, ⟨by omega, by omega⟩⟩ (fun c47 => ?_) (fun c47 => ?_)
          · show gv_X _ _ (144, [(8, .inl (I4 o (Int.toNat v7_6))), (0, .inr (.inr (some 86))), (2, .inl v2_6), (3, .inl v3_6), (4, .inl v4_6), (5, .inl v5_6), (6, .inl v6_6), (7, .inl v7_6)], [], sh, gc_h sh I4 J5 A)
            refine gv_run 1 true hD (pc' := 145) (lv' := [(8, .inl (I4 o (Int.toNat v7_6))), (0, .inr (.inr (some 86))), (2, .inl v2_6), (3, .inl v3_6), (4, .inl v4_6), (5, .inl v5_6), (6, .inl v6_6), (7, .inl v7_6)]) (st' := [.inl 0]) (h' := gc_h sh I4 J5 A) (C := (True ∧ True)) rfl ⟨trivial, trivial⟩ ?_
            exact gv_zret hD rfl (by omega) ⟨I4, J5, rfl, hI4, FI4, FJ5, ⟨_, rfl, by omega, by omega, by omega, (Or.inl rfl), (Or.inl rfl)⟩⟩
          · show gv_X _ _ (101, [(8, .inl (I4 o (Int.toNat v7_6))), (0, .inr (.inr (some 86))), (2, .inl v2_6), (3, .inl v3_6), (4, .inl v4_6), (5, .inl v5_6), (6, .inl v6_6), (7, .inl v7_6)], [], sh, gc_h sh I4 J5 A)
            refine gv_run 1 true hD (pc' := 102) (lv' := [(8, .inl (I4 o (Int.toNat v7_6))), (0, .inr (.inr (some 86))), (2, .inl v2_6), (3, .inl v3_6), (4, .inl v4_6), (5, .inl v5_6), (6, .inl v6_6), (7, .inl v7_6)]) (st' := [.inr (.inr (some 86))]) (h' := gc_h sh I4 J5 A) (C := (True ∧ True)) rfl ⟨trivial, trivial⟩ ?_
            refine gv_get hD rfl rfl S_86 ⟨by decide, B_86⟩ (gc_hS (n := 1001) (q := u) S_86 rfl (by omega)) ?_
            show gv_X _ _ (105, [(8, .inl (I4 o (Int.toNat v7_6))), (0, .inr (.inr (some 86))), (2, .inl v2_6), (3, .inl v3_6), (4, .inl v4_6), (5, .inl v5_6), (6, .inl v6_6), (7, .inl v7_6)], [.inr (.inr (some u))], sh, gc_h sh I4 J5 A)
            refine gv_run 3 true hD (pc' := 111) (lv' := [(8, .inl (I4 o (Int.toNat v7_6))), (0, .inr (.inr (some 86))), (2, .inl v2_6), (3, .inl v3_6), (4, .inl v4_6), (5, .inl v5_6), (6, .inl v6_6), (7, .inl v7_6)]) (st' := [.inl v5_6, .inl (I4 o (Int.toNat v7_6)), .inl v4_6, .inr (.inr (some u))]) (h' := gc_h sh I4 J5 A) (C := (((True ∧ True) ∧ True) ∧ True)) rfl ⟨⟨⟨trivial, trivial⟩, trivial⟩, trivial⟩ ?_
            refine gv_icmp_le (t := 121) hD rfl rfl ⟨⟨by omega, by omega⟩, ⟨by omega, by omega⟩⟩ (fun c48 => ?_) (fun c48 => ?_)
            · show gv_X _ _ (121, [(8, .inl (I4 o (Int.toNat v7_6))), (0, .inr (.inr (some 86))), (2, .inl v2_6), (3, .inl v3_6), (4, .inl v4_6), (5, .inl v5_6), (6, .inl v6_6), (7, .inl v7_6)], [.inl v4_6, .inr (.inr (some u))], sh, gc_h sh I4 J5 A)
              refine gv_run 1 true hD (pc' := 123) (lv' := [(8, .inl (I4 o (Int.toNat v7_6))), (0, .inr (.inr (some 86))), (2, .inl v2_6), (3, .inl v3_6), (4, .inl v4_6), (5, .inl v5_6), (6, .inl v6_6), (7, .inl v7_6)]) (st' := [.inl (I4 o (Int.toNat v7_6)), .inl v4_6, .inr (.inr (some u))]) (h' := gc_h sh I4 J5 A) (C := (True ∧ True)) rfl ⟨trivial, trivial⟩ ?_
              have t49 := gc_N_nx (f := I o) (v := v7_6) (by omega)
              have t50 := gc_nwc (I o (Int.toNat v7_6))
              have t51 := e3_6 (Int.toNat v7_6) (by omega) (by omega)
              have t52 := (FI4 o (Int.toNat v7_6)).resolve_left (by omega)
              have t53 := x5 (Int.toNat v7_6) (by omega)
              have t54 := gc_nwc ((I4 o (Int.toNat v7_6)))
              refine gv_iast hD rfl S_u ⟨by decide, B_u⟩ ⟨by omega, by omega⟩ ?_
              refine gc_st hI4 S_u rfl R_u (lo := (-3)) (hi := 1000000) rfl rfl (by omega) (by omega) (fun I55 hI55 q56 p56 => ?_)
              have FI55 := gc_frs (W := fun q j => q = u ∨ (q = 86 ∧ j = 1) ∨ (q = 86 ∧ j = 2) ∨ (q = 86 ∧ j = 3) ∨ (q = 86 ∧ j = 4) ∨ (q = 86 ∧ j = 5) ∨ q = 92 ∨ q = 93) FI4 (Or.inl rfl) p56
              have t57 := p56 86 1 (fun h => absurd h.1 N_86__u)
              have t58 := p56 86 2 (fun h => absurd h.1 N_86__u)
              have t59 := p56 86 4 (fun h => absurd h.1 N_86__u)
              show gv_X _ _ (124, [(8, .inl (I4 o (Int.toNat v7_6))), (0, .inr (.inr (some 86))), (2, .inl v2_6), (3, .inl v3_6), (4, .inl v4_6), (5, .inl v5_6), (6, .inl v6_6), (7, .inl v7_6)], [], sh, gc_h sh I55 J5 A)
              refine gv_run 1 true hD (pc' := 125) (lv' := [(8, .inl (I4 o (Int.toNat v7_6))), (0, .inr (.inr (some 86))), (2, .inl v2_6), (3, .inl v3_6), (4, .inl v4_6), (5, .inl v5_6), (6, .inl v6_6), (7, .inl v7_6)]) (st' := [.inr (.inr (some 86))]) (h' := gc_h sh I55 J5 A) (C := (True ∧ True)) rfl ⟨trivial, trivial⟩ ?_
              have f61 := (show 0 ≤ I55 86 5 ∧ I55 86 5 ≤ 1 from gc_in hI55 R_86 rfl rfl)
              obtain ⟨f60_, hq_f60_, S_f60, R_f60, B_f60, D_f60⟩ := gc_sw (p := 86) (d := 2) (s := 2) (z := I55 86 5) (show 0 ≤ I55 86 5 ∧ I55 86 5 ≤ 1 from gc_in hI55 R_86 rfl rfl) S_88 R_88 B_88 S_90 R_90 B_90
              refine gv_get hD rfl rfl S_86 ⟨by decide, B_86⟩ (gc_hS (n := 1002) S_86 rfl hq_f60_) ?_
              show gv_X _ _ (128, [(8, .inl (I4 o (Int.toNat v7_6))), (0, .inr (.inr (some 86))), (2, .inl v2_6), (3, .inl v3_6), (4, .inl v4_6), (5, .inl v5_6), (6, .inl v6_6), (7, .inl v7_6)], [.inr (.inr (some f60_))], sh, gc_h sh I55 J5 A)
              refine gv_run 3 true hD (pc' := 134) (lv' := [(4, .inl (v4_6 + 1)), (8, .inl (I4 o (Int.toNat v7_6))), (0, .inr (.inr (some 86))), (2, .inl v2_6), (3, .inl v3_6), (5, .inl v5_6), (6, .inl v6_6), (7, .inl v7_6)]) (st' := [.inr (.inr (some 86)), .inl v4_6, .inr (.inr (some f60_))]) (h' := gc_h sh I55 J5 A) (C := (((True ∧ True) ∧ True) ∧ True)) rfl ⟨⟨⟨trivial, trivial⟩, trivial⟩, trivial⟩ ?_
              have f63 := (show 0 ≤ I55 86 3 ∧ I55 86 3 ≤ 1 from gc_in hI55 R_86 rfl rfl)
              obtain ⟨f62_, hq_f62_, S_f62, R_f62, B_f62, D_f62⟩ := gc_sw (p := 86) (d := 2) (s := 2) (z := I55 86 3) (show 0 ≤ I55 86 3 ∧ I55 86 3 ≤ 1 from gc_in hI55 R_86 rfl rfl) S_88 R_88 B_88 S_90 R_90 B_90
              refine gv_get hD rfl rfl S_86 ⟨by decide, B_86⟩ (gc_hS (n := 1002) S_86 rfl hq_f62_) ?_
              show gv_X _ _ (137, [(4, .inl (v4_6 + 1)), (8, .inl (I4 o (Int.toNat v7_6))), (0, .inr (.inr (some 86))), (2, .inl v2_6), (3, .inl v3_6), (5, .inl v5_6), (6, .inl v6_6), (7, .inl v7_6)], [.inr (.inr (some f62_)), .inl v4_6, .inr (.inr (some f60_))], sh, gc_h sh I55 J5 A)
              refine gv_run 1 true hD (pc' := 139) (lv' := [(4, .inl (v4_6 + 1)), (8, .inl (I4 o (Int.toNat v7_6))), (0, .inr (.inr (some 86))), (2, .inl v2_6), (3, .inl v3_6), (5, .inl v5_6), (6, .inl v6_6), (7, .inl v7_6)]) (st' := [.inl v7_6, .inr (.inr (some f62_)), .inl v4_6, .inr (.inr (some f60_))]) (h' := gc_h sh I55 J5 A) (C := (True ∧ True)) rfl ⟨trivial, trivial⟩ ?_
              refine gv_lald hD rfl S_f62 rfl ⟨by decide, B_f62⟩ ⟨by omega, by omega⟩ (gc_jJ S_f62 rfl) ?_
              show gv_X _ _ (140, [(4, .inl (v4_6 + 1)), (8, .inl (I4 o (Int.toNat v7_6))), (0, .inr (.inr (some 86))), (2, .inl v2_6), (3, .inl v3_6), (5, .inl v5_6), (6, .inl v6_6), (7, .inl v7_6)], [.inr (.inl (J5 f62_ (Int.toNat v7_6))), .inl v4_6, .inr (.inr (some f60_))], sh, gc_h sh I55 J5 A)
              refine gv_last hD rfl S_f60 ⟨by decide, B_f60⟩ ⟨by omega, by omega⟩ ?_
              refine gc_stJ S_f60 rfl (fun J64 q65 p65 => ?_)
              have FJ64 := gc_frs (W := fun q j => q = 88 ∨ q = 90) FJ5 (show f60_ = 88 ∨ f60_ = 90 from by omega) p65
              show gv_X _ _ (141, [(4, .inl (v4_6 + 1)), (8, .inl (I4 o (Int.toNat v7_6))), (0, .inr (.inr (some 86))), (2, .inl v2_6), (3, .inl v3_6), (5, .inl v5_6), (6, .inl v6_6), (7, .inl v7_6)], [], sh, gc_h sh I55 J64 A)
              refine gv_run 1 true hD (pc' := 146) (lv' := [(4, .inl (v4_6 + 1)), (8, .inl (I4 o (Int.toNat v7_6))), (0, .inr (.inr (some 86))), (2, .inl v2_6), (3, .inl v3_6), (5, .inl v5_6), (6, .inl v6_6), (7, .inl v7_6)]) (st' := []) (h' := gc_h sh I55 J64 A) (C := (True ∧ True)) rfl ⟨trivial, trivial⟩ ?_
              refine gv_pick [2, 3, 4, 0, 5, 6, 7, 1] rfl ?_
              exact L146 I55 J64 (v4_6 + 1) ((I4 o (Int.toNat v7_6))) hI55 FI55 FJ64 (by omega) (Or.inr (gc_tg_st e0_6 (by omega) p56 (by omega) (by omega))) (Or.inr (by show gc_N (I55 u) (Int.toNat (v4_6 + 1)) = _; rw [gc_N_st (by omega) p56, q56]; omega)) (gc_rg_fr e2_6 (fun k => p56 92 k (fun h => absurd h.1 (by omega)))) e3_6 e4_6
            · show gv_X _ _ (114, [(8, .inl (I4 o (Int.toNat v7_6))), (0, .inr (.inr (some 86))), (2, .inl v2_6), (3, .inl v3_6), (4, .inl v4_6), (5, .inl v5_6), (6, .inl v6_6), (7, .inl v7_6)], [.inl v4_6, .inr (.inr (some u))], sh, gc_h sh I4 J5 A)
              refine gv_run 3 true hD (pc' := 118) (lv' := [(8, .inl (I4 o (Int.toNat v7_6))), (0, .inr (.inr (some 86))), (2, .inl v2_6), (3, .inl v3_6), (4, .inl v4_6), (5, .inl v5_6), (6, .inl v6_6), (7, .inl v7_6)]) (st' := [.inl ((I4 o (Int.toNat v7_6)) - 1), .inl v4_6, .inr (.inr (some u))]) (h' := gc_h sh I4 J5 A) (C := (((True ∧ True) ∧ True) ∧ True)) rfl ⟨⟨⟨trivial, trivial⟩, trivial⟩, trivial⟩ ?_
              have t66 := gc_nwc (((I4 o (Int.toNat v7_6)) - 1))
              have t67 := gc_nwc ((I4 o (Int.toNat v7_6)))
              refine gv_run 1 true hD (pc' := 123) (lv' := [(8, .inl (I4 o (Int.toNat v7_6))), (0, .inr (.inr (some 86))), (2, .inl v2_6), (3, .inl v3_6), (4, .inl v4_6), (5, .inl v5_6), (6, .inl v6_6), (7, .inl v7_6)]) (st' := [.inl ((I4 o (Int.toNat v7_6)) - 1), .inl v4_6, .inr (.inr (some u))]) (h' := gc_h sh I4 J5 A) (C := (True ∧ True)) rfl ⟨trivial, trivial⟩ ?_
              have t68 := gc_N_nx (f := I o) (v := v7_6) (by omega)
              have t69 := gc_nwc (I o (Int.toNat v7_6))
              have t70 := e3_6 (Int.toNat v7_6) (by omega) (by omega)
              have t71 := (FI4 o (Int.toNat v7_6)).resolve_left (by omega)
              have t72 := x5 (Int.toNat v7_6) (by omega)
              have t73 := gc_nwc (((I4 o (Int.toNat v7_6)) - 1))
              refine gv_iast hD rfl S_u ⟨by decide, B_u⟩ ⟨by omega, by omega⟩ ?_
              refine gc_st hI4 S_u rfl R_u (lo := (-3)) (hi := 1000000) rfl rfl (by omega) (by omega) (fun I74 hI74 q75 p75 => ?_)
              have FI74 := gc_frs (W := fun q j => q = u ∨ (q = 86 ∧ j = 1) ∨ (q = 86 ∧ j = 2) ∨ (q = 86 ∧ j = 3) ∨ (q = 86 ∧ j = 4) ∨ (q = 86 ∧ j = 5) ∨ q = 92 ∨ q = 93) FI4 (Or.inl rfl) p75
              have t76 := p75 86 1 (fun h => absurd h.1 N_86__u)
              have t77 := p75 86 2 (fun h => absurd h.1 N_86__u)
              have t78 := p75 86 4 (fun h => absurd h.1 N_86__u)
              show gv_X _ _ (124, [(8, .inl (I4 o (Int.toNat v7_6))), (0, .inr (.inr (some 86))), (2, .inl v2_6), (3, .inl v3_6), (4, .inl v4_6), (5, .inl v5_6), (6, .inl v6_6), (7, .inl v7_6)], [], sh, gc_h sh I74 J5 A)
              refine gv_run 1 true hD (pc' := 125) (lv' := [(8, .inl (I4 o (Int.toNat v7_6))), (0, .inr (.inr (some 86))), (2, .inl v2_6), (3, .inl v3_6), (4, .inl v4_6), (5, .inl v5_6), (6, .inl v6_6), (7, .inl v7_6)]) (st' := [.inr (.inr (some 86))]) (h' := gc_h sh I74 J5 A) (C := (True ∧ True)) rfl ⟨trivial, trivial⟩ ?_
              have f80 := (show 0 ≤ I74 86 5 ∧ I74 86 5 ≤ 1 from gc_in hI74 R_86 rfl rfl)
              obtain ⟨f79_, hq_f79_, S_f79, R_f79, B_f79, D_f79⟩ := gc_sw (p := 86) (d := 2) (s := 2) (z := I74 86 5) (show 0 ≤ I74 86 5 ∧ I74 86 5 ≤ 1 from gc_in hI74 R_86 rfl rfl) S_88 R_88 B_88 S_90 R_90 B_90
              refine gv_get hD rfl rfl S_86 ⟨by decide, B_86⟩ (gc_hS (n := 1002) S_86 rfl hq_f79_) ?_
              show gv_X _ _ (128, [(8, .inl (I4 o (Int.toNat v7_6))), (0, .inr (.inr (some 86))), (2, .inl v2_6), (3, .inl v3_6), (4, .inl v4_6), (5, .inl v5_6), (6, .inl v6_6), (7, .inl v7_6)], [.inr (.inr (some f79_))], sh, gc_h sh I74 J5 A)
              refine gv_run 3 true hD (pc' := 134) (lv' := [(4, .inl (v4_6 + 1)), (8, .inl (I4 o (Int.toNat v7_6))), (0, .inr (.inr (some 86))), (2, .inl v2_6), (3, .inl v3_6), (5, .inl v5_6), (6, .inl v6_6), (7, .inl v7_6)]) (st' := [.inr (.inr (some 86)), .inl v4_6, .inr (.inr (some f79_))]) (h' := gc_h sh I74 J5 A) (C := (((True ∧ True) ∧ True) ∧ True)) rfl ⟨⟨⟨trivial, trivial⟩, trivial⟩, trivial⟩ ?_
              have f82 := (show 0 ≤ I74 86 3 ∧ I74 86 3 ≤ 1 from gc_in hI74 R_86 rfl rfl)
              obtain ⟨f81_, hq_f81_, S_f81, R_f81, B_f81, D_f81⟩ := gc_sw (p := 86) (d := 2) (s := 2) (z := I74 86 3) (show 0 ≤ I74 86 3 ∧ I74 86 3 ≤ 1 from gc_in hI74 R_86 rfl rfl) S_88 R_88 B_88 S_90 R_90 B_90
              refine gv_get hD rfl rfl S_86 ⟨by decide, B_86⟩ (gc_hS (n := 1002) S_86 rfl hq_f81_) ?_
              show gv_X _ _ (137, [(4, .inl (v4_6 + 1)), (8, .inl (I4 o (Int.toNat v7_6))), (0, .inr (.inr (some 86))), (2, .inl v2_6), (3, .inl v3_6), (5, .inl v5_6), (6, .inl v6_6), (7, .inl v7_6)], [.inr (.inr (some f81_)), .inl v4_6, .inr (.inr (some f79_))], sh, gc_h sh I74 J5 A)
              refine gv_run 1 true hD (pc' := 139) (lv' := [(4, .inl (v4_6 + 1)), (8, .inl (I4 o (Int.toNat v7_6))), (0, .inr (.inr (some 86))), (2, .inl v2_6), (3, .inl v3_6), (5, .inl v5_6), (6, .inl v6_6), (7, .inl v7_6)]) (st' := [.inl v7_6, .inr (.inr (some f81_)), .inl v4_6, .inr (.inr (some f79_))]) (h' := gc_h sh I74 J5 A) (C := (True ∧ True)) rfl ⟨trivial, trivial⟩ ?_
              refine gv_lald hD rfl S_f81 rfl ⟨by decide, B_f81⟩ ⟨by omega, by omega⟩ (gc_jJ S_f81 rfl) ?_
              show gv_X _ _ (140, [(4, .inl (v4_6 + 1)), (8, .inl (I4 o (Int.toNat v7_6))), (0, .inr (.inr (some 86))), (2, .inl v2_6), (3, .inl v3_6), (5, .inl v5_6), (6, .inl v6_6), (7, .inl v7_6)], [.inr (.inl (J5 f81_ (Int.toNat v7_6))), .inl v4_6, .inr (.inr (some f79_))], sh, gc_h sh I74 J5 A)
              refine gv_last hD rfl S_f79 ⟨by decide, B_f79⟩ ⟨by omega, by omega⟩ ?_
              refine gc_stJ S_f79 rfl (fun J83 q84 p84 => ?_)
              have FJ83 := gc_frs (W := fun q j => q = 88 ∨ q = 90) FJ5 (show f79_ = 88 ∨ f79_ = 90 from by omega) p84
              show gv_X _ _ (141, [(4, .inl (v4_6 + 1)), (8, .inl (I4 o (Int.toNat v7_6))), (0, .inr (.inr (some 86))), (2, .inl v2_6), (3, .inl v3_6), (5, .inl v5_6), (6, .inl v6_6), (7, .inl v7_6)], [], sh, gc_h sh I74 J83 A)
              refine gv_run 1 true hD (pc' := 146) (lv' := [(4, .inl (v4_6 + 1)), (8, .inl (I4 o (Int.toNat v7_6))), (0, .inr (.inr (some 86))), (2, .inl v2_6), (3, .inl v3_6), (5, .inl v5_6), (6, .inl v6_6), (7, .inl v7_6)]) (st' := []) (h' := gc_h sh I74 J83 A) (C := (True ∧ True)) rfl ⟨trivial, trivial⟩ ?_
              refine gv_pick [2, 3, 4, 0, 5, 6, 7, 1] rfl ?_
              exact L146 I74 J83 (v4_6 + 1) ((I4 o (Int.toNat v7_6))) hI74 FI74 FJ83 (by omega) (Or.inr (gc_tg_st e0_6 (by omega) p75 (by omega) (by omega))) (Or.inr (by show gc_N (I74 u) (Int.toNat (v4_6 + 1)) = _; rw [gc_N_st (by omega) p75, q75]; omega)) (gc_rg_fr e2_6 (fun k => p75 92 k (fun h => absurd h.1 (by omega)))) e3_6 e4_6
        · show gv_X _ _ (78, [(8, .inl (I4 o (Int.toNat v7_6))), (0, .inr (.inr (some 86))), (2, .inl v2_6), (3, .inl v3_6), (4, .inl v4_6), (5, .inl v5_6), (6, .inl v6_6), (7, .inl v7_6)], [], sh, gc_h sh I4 J5 A)
          refine gv_run 5 true hD (pc' := 85) (lv' := [(8, .inl (I4 o (Int.toNat v7_6))), (0, .inr (.inr (some 86))), (2, .inl v2_6), (3, .inl v3_6), (4, .inl v4_6), (5, .inl v5_6), (6, .inl v6_6), (7, .inl v7_6)]) (st' := [.inl v4_6, .inl v5_6, .inl v3_6, .inl v2_6, .inr (.inr (some 86))]) (h' := gc_h sh I4 J5 A) (C := (((((True ∧ True) ∧ True) ∧ True) ∧ True) ∧ True)) rfl ⟨⟨⟨⟨⟨trivial, trivial⟩, trivial⟩, trivial⟩, trivial⟩, trivial⟩ ?_
          obtain ⟨r85, h85, E85, P85⟩ := d_X10_paste (ws0 := ws0) (tb := tb) hws htb sh ro I4 J5 A hI4  o u (b + 300) v2_6 v3_6 v5_6 v4_6 hb   ⟨by omega, by omega⟩ ⟨by omega, by omega⟩ ⟨by omega, by omega⟩ ⟨by omega, by omega⟩ (by omega) (by omega) (by omega) (by omega) (by rw [(show I4 o = I o from funext (fun k => (FI4 o k).resolve_left (by omega)))]; exact e4_6) e0_6 (by rw [(show I4 o = I o from funext (fun k => (FI4 o k).resolve_left (by omega))), show I4 86 1 = I 86 1 from by omega, show b + 300 - 300 = b from by omega]; exact x5) (by omega) (by omega) (by omega) 
          obtain ⟨I86, J87, rfl, hI86, g85, k85, ⟨z85, rfl, q85⟩⟩ := P85
          have FI86 := gc_frc (W := fun q j => q = u ∨ (q = 86 ∧ j = 1) ∨ (q = 86 ∧ j = 2) ∨ (q = 86 ∧ j = 3) ∨ (q = 86 ∧ j = 4) ∨ (q = 86 ∧ j = 5) ∨ q = 92 ∨ q = 93) (V := fun q j => q = u ∨ q = 93) FI4 (fun q j h => (h.elim (fun h => (Or.inl h)) (fun h => (Or.inr (Or.inr (Or.inr (Or.inr (Or.inr (Or.inr (Or.inr h)))))))))) g85
          have FJ87 := gc_frc (W := fun q j => q = 88 ∨ q = 90) (V := fun q j => q = 88 ∨ q = 90) FJ5 (fun q j h => (h.elim (fun h => (Or.inl h)) (fun h => (Or.inr h)))) k85
          have t88 := (g85 86 1).resolve_left (fun h => h.elim (fun h => absurd h N_86__u) (fun h => absurd h (by decide)))
          have t89 := (g85 86 2).resolve_left (fun h => h.elim (fun h => absurd h N_86__u) (fun h => absurd h (by decide)))
          have t90 := (g85 86 4).resolve_left (fun h => h.elim (fun h => absurd h N_86__u) (fun h => absurd h (by decide)))
          refine gv_callV hD rfl (As := [.inl v2_6, .inl v3_6, .inl v5_6, .inl v4_6]) (st := []) rfl B_86 S_86 rfl (gc_lV10 hws rfl) (Nat.le_of_ble_eq_true rfl) (gz_Ev_mono (d := 1) (by decide) E85) ?_
          show gv_X _ _ (88, [(8, .inl (I4 o (Int.toNat v7_6))), (0, .inr (.inr (some 86))), (2, .inl v2_6), (3, .inl v3_6), (4, .inl v4_6), (5, .inl v5_6), (6, .inl v6_6), (7, .inl v7_6)], [.inl z85], sh, gc_h sh I86 J87 A)
          refine gv_run 2 true hD (pc' := 146) (lv' := [(4, .inl z85), (8, .inl (I4 o (Int.toNat v7_6))), (0, .inr (.inr (some 86))), (2, .inl v2_6), (3, .inl v3_6), (5, .inl v5_6), (6, .inl v6_6), (7, .inl v7_6)]) (st' := []) (h' := gc_h sh I86 J87 A) (C := ((True ∧ True) ∧ True)) rfl ⟨⟨trivial, trivial⟩, trivial⟩ ?_
          refine gv_pick [2, 3, 4, 0, 5, 6, 7, 1] rfl ?_
          exact L146 I86 J87 z85 ((I4 o (Int.toNat v7_6))) hI86 FI86 FJ87 (by omega) q85.2.2.2.1 (by rcases q85.2.2.2.2 with h9 | h9; (· exact Or.inl h9); (· exact Or.inr (by have h8 := e1_6; rw [show I4 o = I o from funext (fun k => (FI4 o k).resolve_left (by omega))] at h9; omega))) (gc_rg_fr e2_6 (fun k => (g85 92 k).resolve_left (by omega))) e3_6 e4_6
  refine gv_run 4 true hD (pc' := 4) (lv' := [(0, .inr (.inr (some 86))), (1, .inl a1)]) (st' := [.inl (a1 + 2), .inr (.inr (some 86))]) (h' := gc_h sh I J A) (C := ((((True ∧ True) ∧ True) ∧ True) ∧ True)) rfl ⟨⟨⟨⟨trivial, trivial⟩, trivial⟩, trivial⟩, trivial⟩ ?_
  have t91 := gc_N_2 (f := I o) (v := a1) (by omega)
  have t92 := gc_nwc (I o (Int.toNat a1))
  have t93 := gc_nwc (I o (Int.toNat (a1 + 1)))
  have t94 := x4.2.1 (Int.toNat a1) (by omega)
  have t95 := gc_TC_lt x4 (v := a1 + 2) (by omega) (by omega)
  obtain ⟨r96, h96, E96, P96⟩ := d_X10_endOf (ws0 := ws0) (tb := tb) hws htb sh ro I J A hI  o (a1 + 2) hb   ⟨by omega, by omega⟩ (by omega) (by omega) x4 (by omega) 
  obtain ⟨rfl, ⟨z96, rfl, q96⟩⟩ := P96
  refine gv_callV hD rfl (As := [.inl (a1 + 2)]) (st := []) rfl B_86 S_86 rfl (gc_lV10 hws rfl) (Nat.le_of_ble_eq_true rfl) (gz_Ev_mono (d := 1) (by decide) E96) ?_
  show gv_X _ _ (7, [(0, .inr (.inr (some 86))), (1, .inl a1)], [.inl z96], sh, gc_h sh I J A)
  refine gv_run 1 true hD (pc' := 8) (lv' := [(2, .inl z96), (0, .inr (.inr (some 86))), (1, .inl a1)]) (st' := []) (h' := gc_h sh I J A) (C := (True ∧ True)) rfl ⟨trivial, trivial⟩ ?_
  have t97 := gc_TC_lt x4 (v := z96) (by omega) (by omega)
  refine gv_run 2 true hD (pc' := 10) (lv' := [(2, .inl z96), (0, .inr (.inr (some 86))), (1, .inl a1)]) (st' := [.inl z96, .inr (.inr (some 86))]) (h' := gc_h sh I J A) (C := ((True ∧ True) ∧ True)) rfl ⟨⟨trivial, trivial⟩, trivial⟩ ?_
  obtain ⟨r98, h98, E98, P98⟩ := d_X10_endOf (ws0 := ws0) (tb := tb) hws htb sh ro I J A hI  o z96 hb   ⟨by omega, by omega⟩ (by omega) (by omega) x4 (by omega) 
  obtain ⟨rfl, ⟨z98, rfl, q98⟩⟩ := P98
  refine gv_callV hD rfl (As := [.inl z96]) (st := []) rfl B_86 S_86 rfl (gc_lV10 hws rfl) (Nat.le_of_ble_eq_true rfl) (gz_Ev_mono (d := 1) (by decide) E98) ?_
  show gv_X _ _ (13, [(2, .inl z96), (0, .inr (.inr (some 86))), (1, .inl a1)], [.inl z98], sh, gc_h sh I J A)
  refine gv_run 1 true hD (pc' := 14) (lv' := [(3, .inl z98), (2, .inl z96), (0, .inr (.inr (some 86))), (1, .inl a1)]) (st' := []) (h' := gc_h sh I J A) (C := (True ∧ True)) rfl ⟨trivial, trivial⟩ ?_
  refine gv_run 1 true hD (pc' := 15) (lv' := [(3, .inl z98), (2, .inl z96), (0, .inr (.inr (some 86))), (1, .inl a1)]) (st' := [.inr (.inr (some 86))]) (h' := gc_h sh I J A) (C := (True ∧ True)) rfl ⟨trivial, trivial⟩ ?_
  refine gv_get hD rfl rfl S_86 ⟨by decide, B_86⟩ (gc_hS (n := 1001) (q := o) S_86 rfl (by omega)) ?_
  show gv_X _ _ (18, [(3, .inl z98), (2, .inl z96), (0, .inr (.inr (some 86))), (1, .inl a1)], [.inr (.inr (some o))], sh, gc_h sh I J A)
  refine gv_run 2 true hD (pc' := 20) (lv' := [(3, .inl z98), (2, .inl z96), (0, .inr (.inr (some 86))), (1, .inl a1)]) (st' := [.inr (.inr (some 86)), .inl 0, .inr (.inr (some o))]) (h' := gc_h sh I J A) (C := ((True ∧ True) ∧ True)) rfl ⟨⟨trivial, trivial⟩, trivial⟩ ?_
  refine gv_get hD rfl rfl S_86 ⟨by decide, B_86⟩ (gc_hS (n := 1001) (q := u) S_86 rfl (by omega)) ?_
  show gv_X _ _ (23, [(3, .inl z98), (2, .inl z96), (0, .inr (.inr (some 86))), (1, .inl a1)], [.inr (.inr (some u)), .inl 0, .inr (.inr (some o))], sh, gc_h sh I J A)
  refine gv_run 2 true hD (pc' := 25) (lv' := [(3, .inl z98), (2, .inl z96), (0, .inr (.inr (some 86))), (1, .inl a1)]) (st' := [.inl a1, .inl 0, .inr (.inr (some u)), .inl 0, .inr (.inr (some o))]) (h' := gc_h sh I J A) (C := ((True ∧ True) ∧ True)) rfl ⟨⟨trivial, trivial⟩, trivial⟩ ?_
  refine gv_copy hD rfl (gc_lC10_92 hws) (Nat.le_of_ble_eq_true rfl) ⟨B_o, B_u⟩ S_o S_u (by decide) ⟨by decide, by decide⟩ ⟨by omega, by omega, by omega⟩ (by omega) (by omega) (fun h => absurd h (by decide)) ?_
  refine gc_cp hI S_o S_u (by decide) (fun j hj => by have h9 := (show (-3) ≤ I o (Int.toNat 0 + j) ∧ I o (Int.toNat 0 + j) ≤ 1000000 from gc_in hI R_o rfl rfl); rw [R_u]; exact ⟨by show (-3) ≤ _; omega, by show _ ≤ 1000000; omega⟩) (fun I100 hI100 p99 q99 => ?_)
  have FI100 := gc_frp (W := fun q j => q = u ∨ (q = 86 ∧ j = 1) ∨ (q = 86 ∧ j = 2) ∨ (q = 86 ∧ j = 3) ∨ (q = 86 ∧ j = 4) ∨ (q = 86 ∧ j = 5) ∨ q = 92 ∨ q = 93) (V := fun q j => q = u ∧ Int.toNat 0 ≤ j ∧ j < Int.toNat 0 + Int.toNat a1) FI (fun q j h => (Or.inl h.1)) p99
  have t102 := p99 86 1 (fun h => absurd h.1 N_86__u)
  have t103 := p99 86 2 (fun h => absurd h.1 N_86__u)
  have t104 := p99 86 4 (fun h => absurd h.1 N_86__u)
  have f105 := (show 0 ≤ I100 86 1 ∧ I100 86 1 ≤ 300 from gc_in hI100 R_86 rfl rfl)
  have f106 := (show 0 ≤ I100 86 2 ∧ I100 86 2 ≤ 1 from gc_in hI100 R_86 rfl rfl)
  have f107 := (show 0 ≤ I100 86 4 ∧ I100 86 4 ≤ 1 from gc_in hI100 R_86 rfl rfl)
  show gv_X _ _ (28, [(3, .inl z98), (2, .inl z96), (0, .inr (.inr (some 86))), (1, .inl a1)], [], sh, gc_h sh I100 J A)
  refine gv_run 1 true hD (pc' := 29) (lv' := [(3, .inl z98), (2, .inl z96), (0, .inr (.inr (some 86))), (1, .inl a1)]) (st' := [.inr (.inr (some 86))]) (h' := gc_h sh I100 J A) (C := (True ∧ True)) rfl ⟨trivial, trivial⟩ ?_
  have f109 := (show 0 ≤ I100 86 3 ∧ I100 86 3 ≤ 1 from gc_in hI100 R_86 rfl rfl)
  obtain ⟨f108_, hq_f108_, S_f108, R_f108, B_f108, D_f108⟩ := gc_sw (p := 86) (d := 2) (s := 2) (z := I100 86 3) (show 0 ≤ I100 86 3 ∧ I100 86 3 ≤ 1 from gc_in hI100 R_86 rfl rfl) S_88 R_88 B_88 S_90 R_90 B_90
  refine gv_get hD rfl rfl S_86 ⟨by decide, B_86⟩ (gc_hS (n := 1002) S_86 rfl hq_f108_) ?_
  show gv_X _ _ (32, [(3, .inl z98), (2, .inl z96), (0, .inr (.inr (some 86))), (1, .inl a1)], [.inr (.inr (some f108_))], sh, gc_h sh I100 J A)
  refine gv_run 2 true hD (pc' := 34) (lv' := [(3, .inl z98), (2, .inl z96), (0, .inr (.inr (some 86))), (1, .inl a1)]) (st' := [.inr (.inr (some 86)), .inl 0, .inr (.inr (some f108_))]) (h' := gc_h sh I100 J A) (C := ((True ∧ True) ∧ True)) rfl ⟨⟨trivial, trivial⟩, trivial⟩ ?_
  have f111 := (show 0 ≤ I100 86 5 ∧ I100 86 5 ≤ 1 from gc_in hI100 R_86 rfl rfl)
  obtain ⟨f110_, hq_f110_, S_f110, R_f110, B_f110, D_f110⟩ := gc_sw (p := 86) (d := 2) (s := 2) (z := I100 86 5) (show 0 ≤ I100 86 5 ∧ I100 86 5 ≤ 1 from gc_in hI100 R_86 rfl rfl) S_88 R_88 B_88 S_90 R_90 B_90
  refine gv_get hD rfl rfl S_86 ⟨by decide, B_86⟩ (gc_hS (n := 1002) S_86 rfl hq_f110_) ?_
  show gv_X _ _ (37, [(3, .inl z98), (2, .inl z96), (0, .inr (.inr (some 86))), (1, .inl a1)], [.inr (.inr (some f110_)), .inl 0, .inr (.inr (some f108_))], sh, gc_h sh I100 J A)
  refine gv_run 2 true hD (pc' := 39) (lv' := [(3, .inl z98), (2, .inl z96), (0, .inr (.inr (some 86))), (1, .inl a1)]) (st' := [.inl a1, .inl 0, .inr (.inr (some f110_)), .inl 0, .inr (.inr (some f108_))]) (h' := gc_h sh I100 J A) (C := ((True ∧ True) ∧ True)) rfl ⟨⟨trivial, trivial⟩, trivial⟩ ?_
  refine gv_copy hD rfl (gc_lC10_92 hws) (Nat.le_of_ble_eq_true rfl) ⟨B_f108, B_f110⟩ S_f108 S_f110 (by decide) ⟨by decide, by decide⟩ ⟨by omega, by omega, by omega⟩ (by omega) (by omega) (fun h => absurd h (by decide)) ?_
  refine gc_cpJ S_f108 S_f110 (fun J114 p112 q112 => ?_)
  have FJ114 := gc_frp (W := fun q j => q = 88 ∨ q = 90) (V := fun q j => q = f110_ ∧ Int.toNat 0 ≤ j ∧ j < Int.toNat 0 + Int.toNat a1) FJ (fun q j h => (show q = 88 ∨ q = 90 from by have := h.1; omega)) p112
  show gv_X _ _ (42, [(3, .inl z98), (2, .inl z96), (0, .inr (.inr (some 86))), (1, .inl a1)], [], sh, gc_h sh I100 J114 A)
  refine gv_run 7 true hD (pc' := 52) (lv' := [(6, .inl 0), (5, .inl 0), (4, .inl a1), (3, .inl z98), (2, .inl z96), (0, .inr (.inr (some 86))), (1, .inl a1)]) (st' := [.inl a1]) (h' := gc_h sh I100 J114 A) (C := (((((((True ∧ True) ∧ True) ∧ True) ∧ True) ∧ True) ∧ True) ∧ True)) rfl ⟨⟨⟨⟨⟨⟨⟨trivial, trivial⟩, trivial⟩, trivial⟩, trivial⟩, trivial⟩, trivial⟩, trivial⟩ ?_
  refine gv_run 3 true hD (pc' := 56) (lv' := [(7, .inl (a1 + 2)), (6, .inl 0), (5, .inl 0), (4, .inl a1), (3, .inl z98), (2, .inl z96), (0, .inr (.inr (some 86))), (1, .inl a1)]) (st' := []) (h' := gc_h sh I100 J114 A) (C := (((True ∧ True) ∧ True) ∧ True)) rfl ⟨⟨⟨trivial, trivial⟩, trivial⟩, trivial⟩ ?_
  refine gv_pick [6, 5, 4, 3, 2, 1, 0] rfl ?_
  exact L56 _ I100 J114 z96 z98 a1 0 0 (a1 + 2) (Nat.lt_succ_self _) hI100 FI100 FJ114 (by omega) (by intro k hk; rw [gc_N_eq (g := I o) (fun j hj => (show ∀ k, k < Int.toNat a1 → I100 u k = I o k from fun k hk => by have h9 := q99 k (by omega); rw [show Int.toNat 0 + k = k from by omega] at h9; exact h9) j (by omega)), (show ∀ k, k < Int.toNat a1 → I100 u k = I o k from fun k hk => by have h9 := q99 k (by omega); rw [show Int.toNat 0 + k = k from by omega] at h9; exact h9) k (by omega)]; exact ⟨x4.2.1 k (by omega), by have := x5 k (by omega); omega⟩) (by rw [gc_N_eq (g := I o) (fun j hj => (show ∀ k, k < Int.toNat a1 → I100 u k = I o k from fun k hk => by have h9 := q99 k (by omega); rw [show Int.toNat 0 + k = k from by omega] at h9; exact h9) j hj)]; omega) (fun k a b => by omega) q96.2.2.2.2.2 q98.2.2.2.2.2
