def gc_oe (σ : Nat → Int) (ς : Nat → Int → Int) (L : Int) (hi : Int) (I : gr_I) (n r pk : Int) : Prop := 0 ≤ r ∨ (-1 - r < L ∧ ∀ s : Int, 0 ≤ s → s < 4 → s < σ (Int.toNat (-1 - r)) → (n < I 75 (Int.toNat (n * 4 + ς (Int.toNat (-1 - r)) s)) ∧ I 75 (Int.toNat (n * 4 + ς (Int.toNat (-1 - r)) s)) < hi) ∧ gc_dh pk (Int.toNat s) < I 76 (Int.toNat (I 75 (Int.toNat (n * 4 + ς (Int.toNat (-1 - r)) s)))))
theorem gc_oe_fr {σ : Nat → Int} {ς : Nat → Int → Int} {L hi : Int} {I I' : gr_I} {n r pk : Int} (h : gc_oe σ ς L hi I n r pk) (r5 : ∀ k, I' 75 k = I 75 k) (h6 : ∀ k, I 76 k ≤ I' 76 k) : gc_oe σ ς L hi I' n r pk := h.imp id (fun h1 => ⟨h1.1, fun s a b c => by
  rw [r5]
  have h2 := h1.2 s a b c
  have h3 := h6 (Int.toNat (I 75 (Int.toNat (n * 4 + ς (Int.toNat (-1 - r)) s))))
  exact ⟨h2.1, by omega⟩⟩)
def gc_OE (σ : Nat → Int) (ς : Nat → Int → Int) (L : Int) (lo hi o : Int) (I : gr_I) : Prop := ∀ e : Nat, ¬ (e : Int) = o → lo ≤ ((e / 24 : Nat) : Int) → ((e / 24 : Nat) : Int) < hi → ((e % 24 : Nat) : Int) < I 76 (e / 24) → gc_oe σ ς L hi I ((e / 24 : Nat) : Int) (I 80 e) (I 81 e)
theorem gc_OE_any {σ : Nat → Int} {ς : Nat → Int → Int} {L lo hi : Int} {o : Int} {I : gr_I} (h : gc_OE σ ς L lo hi (-1) I) : gc_OE σ ς L lo hi o I := fun e _ h2 h4 h5 => h e (by omega) h2 h4 h5
set_option maxHeartbeats 8000000 in
theorem gc_OE_gr {σ : Nat → Int} {ς : Nat → Int → Int} {L lo hi : Int} {I I' : gr_I} {n : Nat} {o : Int} (h : gc_OE σ ς L lo hi (-1) I) (p : ∀ q j, ¬ (q = 76 ∧ j = n) → I' q j = I q j) (hq : I' 76 n = I 76 n + 1) (ho : o = 24 * (n : Int) + I 76 n) : gc_OE σ ς L lo hi o I' := fun e h1 h2 h4 h5 => by
  have r : ∀ P, ¬ P = 76 → ∀ k, I' P k = I P k := fun P hP k => p P k (fun h9 => hP h9.1)
  rw [r 80 (by decide), r 81 (by decide)]
  refine gc_oe_fr (h e (by exact gz_m 0 (by omega)) h2 h4 ?_) (r 75 (by decide)) (fun k => ?_)
  · by_cases hn : e / 24 = n
    · rw [hn, hq] at h5
      rw [hn]
      exact gz_m 1 (by omega)
    · rw [p 76 _ (fun h9 => hn h9.2)] at h5
      exact h5
  · by_cases hn : k = n
    · rw [hn, hq]; exact gz_m 2 (by omega)
    · rw [p 76 k (fun h9 => hn h9.2)]; exact gz_m 3 (by omega)
theorem gc_OE_mv {σ : Nat → Int} {ς : Nat → Int → Int} {L lo hi : Int} {o : Int} {I I' : gr_I} (h : gc_OE σ ς L lo hi o I) (r5 : ∀ k, I' 75 k = I 75 k) (r7 : ∀ k, I' 76 k = I 76 k) (r9 : ∀ k, ¬ k = Int.toNat o → I' 80 k = I 80 k) (r0 : ∀ k, ¬ k = Int.toNat o → I' 81 k = I 81 k) (z9 : I' 80 (Int.toNat o) = I 80 (Int.toNat (o - 1))) (z0 : I' 81 (Int.toNat o) = I 81 (Int.toNat (o - 1))) {n : Nat} (hn : 24 * (n : Int) ≤ o - 1 ∧ o < 24 * (n : Int) + 24) (hl : lo ≤ (n : Int) ∧ (n : Int) < hi ∧ o - 1 - 24 * (n : Int) < I 76 n) : gc_OE σ ς L lo hi (o + (-1)) I' := fun e h1 h2 h4 h5 => by
  rw [r7] at h5
  by_cases he : e = Int.toNat o
  · subst he
    rw [z9, z0]
    have en : Int.toNat (o - 1) / 24 = n := by exact gz_m 0 (by omega)
    have eo : Int.toNat o / 24 = n := by exact gz_m 1 (by omega)
    have h9 := h (Int.toNat (o - 1)) (by exact gz_m 2 (by omega)) (by rw [en]; exact gz_m 3 (by omega)) (by rw [en]; exact gz_m 4 (by omega)) (by rw [en]; exact gz_m 5 (by omega))
    rw [en] at h9
    rw [eo]
    exact gc_oe_fr h9 r5 (fun k => by rw [r7]; exact gz_m 6 (by omega))
  · rw [r9 e he, r0 e he]
    exact gc_oe_fr (h e (by exact gz_m 7 (by omega)) h2 h4 h5) r5 (fun k => by rw [r7]; exact gz_m 8 (by omega))
theorem gc_OE_pt {σ : Nat → Int} {ς : Nat → Int → Int} {L lo hi : Int} {o : Int} {I I' : gr_I} (h : gc_OE σ ς L lo hi o I) (r5 : ∀ k, I' 75 k = I 75 k) (r7 : ∀ k, I' 76 k = I 76 k) (r9 : ∀ k, ¬ k = Int.toNat o → I' 80 k = I 80 k) (r0 : ∀ k, ¬ k = Int.toNat o → I' 81 k = I 81 k) (h0 : 0 ≤ o) {n : Int} (hn : ((Int.toNat o / 24 : Nat) : Int) = n) (hz : gc_oe σ ς L hi I' n (I' 80 (Int.toNat o)) (I' 81 (Int.toNat o))) : gc_OE σ ς L lo hi (-1) I' := fun e h1 h2 h4 h5 => by
  rw [r7] at h5
  by_cases he : e = Int.toNat o
  · subst he; rw [hn]; exact hz
  · rw [r9 e he, r0 e he]
    exact gc_oe_fr (h e (by omega) h2 h4 h5) r5 (fun k => by rw [r7]; omega)
set_option maxHeartbeats 8000000 in
set_option maxRecDepth 100000 in
theorem d_X7_putOption {ws0 : List Cond} {tb : String → gz_T} (hws : gc_Ws ws0) (htb : gc_tbs tb) (sh : gz_Sh) (ro : Nat → Nat) (I : gr_I) (J : gr_J) (A : gc_A) (hI : gc_Inv ro I) (σ : Nat → Int) (ς : Nat → Int → Int) (L : Int) (lo : Int) (hi : Int) (a1 : Int) (a2 : Int) (a3 : Int) (a4 : Int) (a5 : Int) (hb : gc_Base sh ro A) (ha1 : (-384) ≤ a1 ∧ a1 ≤ 1535) (ha2 : (-2147483648) ≤ a2 ∧ a2 ≤ 2147483647) (ha3 : 0 ≤ a3 ∧ a3 ≤ 16777215) (ha4 : 0 ≤ a4 ∧ a4 ≤ 1000) (ha5 : 0 ≤ a5 ∧ a5 ≤ 1048575) (x0 : gc_OE σ ς L lo hi (-1) I) (x1 : gc_oe σ ς L hi I (I 74 9) a1 a5) (x2 : 0 ≤ I 74 9) (x3 : lo ≤ I 74 9 ∧ I 74 9 < hi) : ∃ r h', gz_Ev ws0 tb 1 (yX7_putOption, cX7_putOption, 9, none) [.inr (.inr (some 74)), .inl a1, .inl a2, .inl a3, .inl a4, .inl a5] sh (gc_h sh I J A) r sh h' 0 0 ∧ (∃ (I' : gr_I) (J' : gr_J), h' = gc_h sh I' J' A ∧ gc_Inv ro I' ∧ (∀ q j : Nat, (q = 76 ∨ q = 77 ∨ q = 78 ∨ q = 79 ∨ q = 80 ∨ q = 81) ∨ I' q j = I q j) ∧ (∀ q j : Nat, (False) ∨ J' q j = J q j) ∧ r = none ∧ (gc_OE σ ς L lo hi (-1) I') ∧ (∀ k : Nat, I 76 k ≤ I' 76 k)) := by
  have FI : ∀ q j : Nat, (q = 76 ∨ q = 77 ∨ q = 78 ∨ q = 79 ∨ q = 80 ∨ q = 81) ∨ I q j = I q j := fun _ _ => Or.inr rfl
  have FJ : ∀ q j : Nat, (False) ∨ J q j = J q j := fun _ _ => Or.inr rfl
  have A_74_3 : A 74 3 = some 76 := gc_bA hb rfl
  have A_74_4 : A 74 4 = some 77 := gc_bA hb rfl
  have A_74_5 : A 74 5 = some 78 := gc_bA hb rfl
  have A_74_6 : A 74 6 = some 79 := gc_bA hb rfl
  have A_74_7 : A 74 7 = some 80 := gc_bA hb rfl
  have A_74_8 : A 74 8 = some 81 := gc_bA hb rfl
  have B_74 : 74 < 1000000 := by decide
  have B_76 : 76 < 1000000 := by decide
  have B_77 : 77 < 1000000 := by decide
  have B_78 : 78 < 1000000 := by decide
  have B_79 : 79 < 1000000 := by decide
  have B_80 : 80 < 1000000 := by decide
  have B_81 : 81 < 1000000 := by decide
  have R_74 : ro 74 = 73 := gc_bR hb (by decide) rfl
  have R_76 : ro 76 = 45 := gc_bR hb (by decide) rfl
  have R_77 : ro 77 = 0 := gc_bR hb (by decide) rfl
  have R_78 : ro 78 = 13 := gc_bR hb (by decide) rfl
  have R_79 : ro 79 = 55 := gc_bR hb (by decide) rfl
  have R_80 : ro 80 = 46 := gc_bR hb (by decide) rfl
  have R_81 : ro 81 = 56 := gc_bR hb (by decide) rfl
  have S_74 : sh[74]? = some (false, 7, 14) := gc_bS hb rfl
  have S_76 : sh[76]? = some (true, 1, 60) := gc_bS hb rfl
  have S_77 : sh[77]? = some (true, 1, 1440) := gc_bS hb rfl
  have S_78 : sh[78]? = some (true, 1, 1440) := gc_bS hb rfl
  have S_79 : sh[79]? = some (true, 1, 1440) := gc_bS hb rfl
  have S_80 : sh[80]? = some (true, 1, 1440) := gc_bS hb rfl
  have S_81 : sh[81]? = some (true, 1, 1440) := gc_bS hb rfl
  have hD : gv_D (gc_E7 ws0 tb 0 (yX7_putOption, cX7_putOption, 9, none) kX7_putOption) := gq_of oX7_putOption
  refine gc_ev7 (d := 0) (l := kX7_putOption) (Po := fun r h' => (∃ (I' : gr_I) (J' : gr_J), h' = gc_h sh I' J' A ∧ gc_Inv ro I' ∧ (∀ q j : Nat, (q = 76 ∨ q = 77 ∨ q = 78 ∨ q = 79 ∨ q = 80 ∨ q = 81) ∨ I' q j = I q j) ∧ (∀ q j : Nat, (False) ∨ J' q j = J q j) ∧ r = none ∧ (gc_OE σ ς L lo hi (-1) I') ∧ (∀ k : Nat, I 76 k ≤ I' 76 k))) htb rfl (Nat.le_of_ble_eq_true rfl) ?_
  have f1 := (show (-1) ≤ I 74 9 ∧ I 74 9 ≤ 59 from gc_in hI R_74 rfl rfl)
  have L23 : ∀ (n9 : Nat) (v6_2 : Int) (v7_2 : Int), (v7_2 - (-1)).toNat < n9 → (((-384) ≤ a1 ∧ a1 ≤ 1535) ∧ ((-2147483648) ≤ a2 ∧ a2 ≤ 2147483647) ∧ (0 ≤ a3 ∧ a3 ≤ 16777215) ∧ (0 ≤ a4 ∧ a4 ≤ 1000) ∧ (0 ≤ a5 ∧ a5 ≤ 1048575) ∧ (0 ≤ v6_2 ∧ v6_2 ≤ 1416) ∧ (0 ≤ v7_2 ∧ v7_2 ≤ 1440) ∧ (v6_2 = I 74 9 * 24) ∧ (v6_2 ≤ v7_2) ∧ (v7_2 ≤ v6_2 + I 76 (Int.toNat (I 74 9)))) → gv_X (gc_E7 ws0 tb 0 (yX7_putOption, cX7_putOption, 9, none) kX7_putOption) (gv_Q cX7_putOption none sh (fun r h' => (∃ (I' : gr_I) (J' : gr_J), h' = gc_h sh I' J' A ∧ gc_Inv ro I' ∧ (∀ q j : Nat, (q = 76 ∨ q = 77 ∨ q = 78 ∨ q = 79 ∨ q = 80 ∨ q = 81) ∨ I' q j = I q j) ∧ (∀ q j : Nat, (False) ∨ J' q j = J q j) ∧ r = none ∧ (gc_OE σ ς L lo hi (-1) I') ∧ (∀ k : Nat, I 76 k ≤ I' 76 k)))) (23, [(0, .inr (.inr (some 74))), (1, .inl a1), (2, .inl a2), (3, .inl a3), (4, .inl a4), (5, .inl a5), (6, .inl v6_2), (7, .inl v7_2)], [], sh, gc_h sh I J A) := by
    intro n9
    induction n9 with
    | zero => intro v6_2 v7_2 hn; exact gz_m 0 (by omega)
    | succ n9 ih23 =>
      intro v6_2 v7_2 hn m_2
      obtain ⟨ha1_2, ha2_2, ha3_2, ha4_2, ha5_2, hv6_2, hv7_2, e0_2, e1_2, e2_2⟩ := m_2
      have f3 := (show (-1) ≤ I 74 9 ∧ I 74 9 ≤ 59 from gc_in hI R_74 rfl rfl)
      have L49 : (((-384) ≤ a1 ∧ a1 ≤ 1535) ∧ ((-2147483648) ≤ a2 ∧ a2 ≤ 2147483647) ∧ (0 ≤ a3 ∧ a3 ≤ 16777215) ∧ (0 ≤ a4 ∧ a4 ≤ 1000) ∧ (0 ≤ a5 ∧ a5 ≤ 1048575) ∧ (0 ≤ v6_2 ∧ v6_2 ≤ 1416) ∧ (0 ≤ v7_2 ∧ v7_2 ≤ 1440) ∧ (v6_2 = I 74 9 * 24) ∧ (v6_2 ≤ v7_2) ∧ (v7_2 ≤ v6_2 + I 76 (Int.toNat (I 74 9)))) → gv_X (gc_E7 ws0 tb 0 (yX7_putOption, cX7_putOption, 9, none) kX7_putOption) (gv_Q cX7_putOption none sh (fun r h' => (∃ (I' : gr_I) (J' : gr_J), h' = gc_h sh I' J' A ∧ gc_Inv ro I' ∧ (∀ q j : Nat, (q = 76 ∨ q = 77 ∨ q = 78 ∨ q = 79 ∨ q = 80 ∨ q = 81) ∨ I' q j = I q j) ∧ (∀ q j : Nat, (False) ∨ J' q j = J q j) ∧ r = none ∧ (gc_OE σ ς L lo hi (-1) I') ∧ (∀ k : Nat, I 76 k ≤ I' 76 k)))) (49, [(0, .inr (.inr (some 74))), (1, .inl a1), (2, .inl a2), (3, .inl a3), (4, .inl a4), (5, .inl a5), (6, .inl v6_2), (7, .inl v7_2)], [], sh, gc_h sh I J A) := by
        intro m_4
        obtain ⟨ha1_4, ha2_4, ha3_4, ha4_4, ha5_4, hv6_2_4, hv7_2_4, e0_4, e1_4, e2_4⟩ := m_4
        have f5 := (show (-1) ≤ I 74 9 ∧ I 74 9 ≤ 59 from gc_in hI R_74 rfl rfl)
        have L87 : ∀ (I6 : gr_I) (J7 : gr_J) , gc_Inv ro I6 → (∀ q j : Nat, (q = 76 ∨ q = 77 ∨ q = 78 ∨ q = 79 ∨ q = 80 ∨ q = 81) ∨ I6 q j = I q j) → (∀ q j : Nat, (False) ∨ J7 q j = J q j) → (((-384) ≤ a1 ∧ a1 ≤ 1535) ∧ ((-2147483648) ≤ a2 ∧ a2 ≤ 2147483647) ∧ (0 ≤ a3 ∧ a3 ≤ 16777215) ∧ (0 ≤ a4 ∧ a4 ≤ 1000) ∧ (0 ≤ a5 ∧ a5 ≤ 1048575) ∧ (0 ≤ v6_2 ∧ v6_2 ≤ 1416) ∧ (0 ≤ v7_2 ∧ v7_2 ≤ 1439) ∧ (v6_2 = I 74 9 * 24) ∧ (v6_2 ≤ v7_2) ∧ (I6 76 (Int.toNat (I 74 9)) ≤ 24) ∧ (v7_2 < v6_2 + I6 76 (Int.toNat (I 74 9))) ∧ (I6 74 9 = I 74 9)) → (gc_OE σ ς L lo hi (v6_2 + I6 76 (Int.toNat (I 74 9)) - 1) I6) → (∀ k : Nat, I 76 k ≤ I6 76 k) → gv_X (gc_E7 ws0 tb 0 (yX7_putOption, cX7_putOption, 9, none) kX7_putOption) (gv_Q cX7_putOption none sh (fun r h' => (∃ (I' : gr_I) (J' : gr_J), h' = gc_h sh I' J' A ∧ gc_Inv ro I' ∧ (∀ q j : Nat, (q = 76 ∨ q = 77 ∨ q = 78 ∨ q = 79 ∨ q = 80 ∨ q = 81) ∨ I' q j = I q j) ∧ (∀ q j : Nat, (False) ∨ J' q j = J q j) ∧ r = none ∧ (gc_OE σ ς L lo hi (-1) I') ∧ (∀ k : Nat, I 76 k ≤ I' 76 k)))) (87, [(0, .inr (.inr (some 74))), (1, .inl a1), (2, .inl a2), (3, .inl a3), (4, .inl a4), (5, .inl a5), (6, .inl v6_2), (7, .inl v7_2)], [], sh, gc_h sh I6 J7 A) := by
          intro I6 J7 hI6 FI6 FJ7 m_8 e0_8 e1_8
          clear ha1_4 ha2_4 ha3_4 ha4_4 ha5_4 hv6_2_4 hv7_2_4 e0_4 e1_4 e2_4 f5 ha1_2 ha2_2 ha3_2 ha4_2 ha5_2 hv6_2 hv7_2 e0_2 e1_2 e2_2 f3
          obtain ⟨ha1_8, ha2_8, ha3_8, ha4_8, ha5_8, hv6_2_8, hv7_2_8, e2_8, e3_8, e4_8, e5_8, e6_8⟩ := m_8
          have f9 := (show (-1) ≤ I6 74 9 ∧ I6 74 9 ≤ 59 from gc_in hI6 R_74 rfl rfl)
          have L103 : ∀ (n9 : Nat) (I10 : gr_I) (J11 : gr_J) (v8_12 : Int), (v8_12 - (-1)).toNat < n9 → gc_Inv ro I10 → (∀ q j : Nat, (q = 76 ∨ q = 77 ∨ q = 78 ∨ q = 79 ∨ q = 80 ∨ q = 81) ∨ I10 q j = I q j) → (∀ q j : Nat, (False) ∨ J11 q j = J q j) → (((-384) ≤ a1 ∧ a1 ≤ 1535) ∧ ((-2147483648) ≤ a2 ∧ a2 ≤ 2147483647) ∧ (0 ≤ a3 ∧ a3 ≤ 16777215) ∧ (0 ≤ a4 ∧ a4 ≤ 1000) ∧ (0 ≤ a5 ∧ a5 ≤ 1048575) ∧ (0 ≤ v6_2 ∧ v6_2 ≤ 1416) ∧ (0 ≤ v7_2 ∧ v7_2 ≤ 1439) ∧ (0 ≤ v8_12 ∧ v8_12 ≤ 1439) ∧ (v6_2 = I 74 9 * 24) ∧ (v6_2 ≤ v7_2) ∧ (I10 76 (Int.toNat (I 74 9)) ≤ 24) ∧ (v7_2 ≤ v8_12) ∧ (v8_12 < v6_2 + I10 76 (Int.toNat (I 74 9))) ∧ (I10 74 9 = I 74 9)) → (gc_OE σ ς L lo hi v8_12 I10) → (∀ k : Nat, I 76 k ≤ I10 76 k) → gv_X (gc_E7 ws0 tb 0 (yX7_putOption, cX7_putOption, 9, none) kX7_putOption) (gv_Q cX7_putOption none sh (fun r h' => (∃ (I' : gr_I) (J' : gr_J), h' = gc_h sh I' J' A ∧ gc_Inv ro I' ∧ (∀ q j : Nat, (q = 76 ∨ q = 77 ∨ q = 78 ∨ q = 79 ∨ q = 80 ∨ q = 81) ∨ I' q j = I q j) ∧ (∀ q j : Nat, (False) ∨ J' q j = J q j) ∧ r = none ∧ (gc_OE σ ς L lo hi (-1) I') ∧ (∀ k : Nat, I 76 k ≤ I' 76 k)))) (103, [(0, .inr (.inr (some 74))), (1, .inl a1), (2, .inl a2), (3, .inl a3), (4, .inl a4), (5, .inl a5), (6, .inl v6_2), (7, .inl v7_2), (8, .inl v8_12)], [], sh, gc_h sh I10 J11 A) := by
            intro n9
            induction n9 with
            | zero => intro I10 J11 v8_12 hn; exact gz_m 1 (by omega)
            | succ n9 ih103 =>
              intro I10 J11 v8_12 hn hI10 FI10 FJ11 m_12 e0_12 e1_12
              clear ha1_8 ha2_8 ha3_8 ha4_8 ha5_8 hv6_2_8 hv7_2_8 e2_8 e3_8 e4_8 e5_8 e6_8 f9
              obtain ⟨ha1_12, ha2_12, ha3_12, ha4_12, ha5_12, hv6_2_12, hv7_2_12, hv8_12, e2_12, e3_12, e4_12, e5_12, e6_12, e7_12⟩ := m_12
              have f13 := (show (-1) ≤ I10 74 9 ∧ I10 74 9 ≤ 59 from gc_in hI10 R_74 rfl rfl)
              refine gv_run 2 true hD (pc' := 107) (lv' := [(0, .inr (.inr (some 74))), (1, .inl a1), (2, .inl a2), (3, .inl a3), (4, .inl a4), (5, .inl a5), (6, .inl v6_2), (7, .inl v7_2), (8, .inl v8_12)]) (st' := [.inl v7_2, .inl v8_12]) (h' := gc_h sh I10 J11 A) (C := ((True ∧ True) ∧ True)) rfl ⟨⟨trivial, trivial⟩, trivial⟩ ?_
              refine gv_icmp_le (t := 196) hD rfl rfl ⟨⟨by exact gz_m 2 (by omega), by exact gz_m 3 (by omega)⟩, ⟨by exact gz_m 4 (by omega), by exact gz_m 5 (by omega)⟩⟩ (fun c14 => ?_) (fun c14 => ?_)
              · show gv_X _ _ (196, [(0, .inr (.inr (some 74))), (1, .inl a1), (2, .inl a2), (3, .inl a3), (4, .inl a4), (5, .inl a5), (6, .inl v6_2), (7, .inl v7_2), (8, .inl v8_12)], [], sh, gc_h sh I10 J11 A)
                refine gv_run 1 true hD (pc' := 197) (lv' := [(0, .inr (.inr (some 74))), (1, .inl a1), (2, .inl a2), (3, .inl a3), (4, .inl a4), (5, .inl a5), (6, .inl v6_2), (7, .inl v7_2), (8, .inl v8_12)]) (st' := [.inr (.inr (some 74))]) (h' := gc_h sh I10 J11 A) (C := (True ∧ True)) rfl ⟨trivial, trivial⟩ ?_
                refine gv_get hD rfl rfl S_74 ⟨by decide, B_74⟩ (gc_hA S_74 rfl A_74_4) ?_
                show gv_X _ _ (200, [(0, .inr (.inr (some 74))), (1, .inl a1), (2, .inl a2), (3, .inl a3), (4, .inl a4), (5, .inl a5), (6, .inl v6_2), (7, .inl v7_2), (8, .inl v8_12)], [.inr (.inr (some 77))], sh, gc_h sh I10 J11 A)
                refine gv_run 2 true hD (pc' := 203) (lv' := [(0, .inr (.inr (some 74))), (1, .inl a1), (2, .inl a2), (3, .inl a3), (4, .inl a4), (5, .inl a5), (6, .inl v6_2), (7, .inl v7_2), (8, .inl v8_12)]) (st' := [.inl a2, .inl v7_2, .inr (.inr (some 77))]) (h' := gc_h sh I10 J11 A) (C := ((True ∧ True) ∧ True)) rfl ⟨⟨trivial, trivial⟩, trivial⟩ ?_
                refine gv_iast hD rfl S_77 ⟨by decide, B_77⟩ ⟨by exact gz_m 6 (by omega), by exact gz_m 7 (by omega)⟩ ?_
                refine gc_st hI10 S_77 rfl R_77 (lo := (-2147483648)) (hi := 2147483647) rfl rfl (by exact gz_m 8 (by omega)) (by exact gz_m 9 (by omega)) (fun I15 hI15 q16 p16 => ?_)
                have FI15 := gc_frs (W := fun q j => q = 76 ∨ q = 77 ∨ q = 78 ∨ q = 79 ∨ q = 80 ∨ q = 81) FI10 (Or.inr (Or.inl rfl)) p16
                have t17 := p16 74 9 (fun h => absurd h.1 (by decide))
                have t18 := p16 76 (Int.toNat (I 74 9)) (fun h => absurd h.1 (by decide))
                show gv_X _ _ (204, [(0, .inr (.inr (some 74))), (1, .inl a1), (2, .inl a2), (3, .inl a3), (4, .inl a4), (5, .inl a5), (6, .inl v6_2), (7, .inl v7_2), (8, .inl v8_12)], [], sh, gc_h sh I15 J11 A)
                refine gv_run 1 true hD (pc' := 205) (lv' := [(0, .inr (.inr (some 74))), (1, .inl a1), (2, .inl a2), (3, .inl a3), (4, .inl a4), (5, .inl a5), (6, .inl v6_2), (7, .inl v7_2), (8, .inl v8_12)]) (st' := [.inr (.inr (some 74))]) (h' := gc_h sh I15 J11 A) (C := (True ∧ True)) rfl ⟨trivial, trivial⟩ ?_
                refine gv_get hD rfl rfl S_74 ⟨by decide, B_74⟩ (gc_hA S_74 rfl A_74_5) ?_
                show gv_X _ _ (208, [(0, .inr (.inr (some 74))), (1, .inl a1), (2, .inl a2), (3, .inl a3), (4, .inl a4), (5, .inl a5), (6, .inl v6_2), (7, .inl v7_2), (8, .inl v8_12)], [.inr (.inr (some 78))], sh, gc_h sh I15 J11 A)
                refine gv_run 2 true hD (pc' := 211) (lv' := [(0, .inr (.inr (some 74))), (1, .inl a1), (2, .inl a2), (3, .inl a3), (4, .inl a4), (5, .inl a5), (6, .inl v6_2), (7, .inl v7_2), (8, .inl v8_12)]) (st' := [.inl a3, .inl v7_2, .inr (.inr (some 78))]) (h' := gc_h sh I15 J11 A) (C := ((True ∧ True) ∧ True)) rfl ⟨⟨trivial, trivial⟩, trivial⟩ ?_
                refine gv_iast hD rfl S_78 ⟨by decide, B_78⟩ ⟨by exact gz_m 10 (by omega), by exact gz_m 11 (by omega)⟩ ?_
                refine gc_st hI15 S_78 rfl R_78 (lo := 0) (hi := 16777215) rfl rfl (by exact gz_m 12 (by omega)) (by exact gz_m 13 (by omega)) (fun I19 hI19 q20 p20 => ?_)
                have FI19 := gc_frs (W := fun q j => q = 76 ∨ q = 77 ∨ q = 78 ∨ q = 79 ∨ q = 80 ∨ q = 81) FI15 (Or.inr (Or.inr (Or.inl rfl))) p20
                have t21 := p20 74 9 (fun h => absurd h.1 (by decide))
                have t22 := p20 76 (Int.toNat (I 74 9)) (fun h => absurd h.1 (by decide))
                show gv_X _ _ (212, [(0, .inr (.inr (some 74))), (1, .inl a1), (2, .inl a2), (3, .inl a3), (4, .inl a4), (5, .inl a5), (6, .inl v6_2), (7, .inl v7_2), (8, .inl v8_12)], [], sh, gc_h sh I19 J11 A)
                refine gv_run 1 true hD (pc' := 213) (lv' := [(0, .inr (.inr (some 74))), (1, .inl a1), (2, .inl a2), (3, .inl a3), (4, .inl a4), (5, .inl a5), (6, .inl v6_2), (7, .inl v7_2), (8, .inl v8_12)]) (st' := [.inr (.inr (some 74))]) (h' := gc_h sh I19 J11 A) (C := (True ∧ True)) rfl ⟨trivial, trivial⟩ ?_
                refine gv_get hD rfl rfl S_74 ⟨by decide, B_74⟩ (gc_hA S_74 rfl A_74_6) ?_
                show gv_X _ _ (216, [(0, .inr (.inr (some 74))), (1, .inl a1), (2, .inl a2), (3, .inl a3), (4, .inl a4), (5, .inl a5), (6, .inl v6_2), (7, .inl v7_2), (8, .inl v8_12)], [.inr (.inr (some 79))], sh, gc_h sh I19 J11 A)
                refine gv_run 2 true hD (pc' := 220) (lv' := [(0, .inr (.inr (some 74))), (1, .inl a1), (2, .inl a2), (3, .inl a3), (4, .inl a4), (5, .inl a5), (6, .inl v6_2), (7, .inl v7_2), (8, .inl v8_12)]) (st' := [.inl a4, .inl v7_2, .inr (.inr (some 79))]) (h' := gc_h sh I19 J11 A) (C := ((True ∧ True) ∧ True)) rfl ⟨⟨trivial, trivial⟩, trivial⟩ ?_
                refine gv_iast hD rfl S_79 ⟨by decide, B_79⟩ ⟨by exact gz_m 14 (by omega), by exact gz_m 15 (by omega)⟩ ?_
                refine gc_st hI19 S_79 rfl R_79 (lo := 0) (hi := 1000) rfl rfl (by exact gz_m 16 (by omega)) (by exact gz_m 17 (by omega)) (fun I23 hI23 q24 p24 => ?_)
                have FI23 := gc_frs (W := fun q j => q = 76 ∨ q = 77 ∨ q = 78 ∨ q = 79 ∨ q = 80 ∨ q = 81) FI19 (Or.inr (Or.inr (Or.inr (Or.inl rfl)))) p24
                have t25 := p24 74 9 (fun h => absurd h.1 (by decide))
                have t26 := p24 76 (Int.toNat (I 74 9)) (fun h => absurd h.1 (by decide))
                show gv_X _ _ (221, [(0, .inr (.inr (some 74))), (1, .inl a1), (2, .inl a2), (3, .inl a3), (4, .inl a4), (5, .inl a5), (6, .inl v6_2), (7, .inl v7_2), (8, .inl v8_12)], [], sh, gc_h sh I23 J11 A)
                refine gv_run 1 true hD (pc' := 222) (lv' := [(0, .inr (.inr (some 74))), (1, .inl a1), (2, .inl a2), (3, .inl a3), (4, .inl a4), (5, .inl a5), (6, .inl v6_2), (7, .inl v7_2), (8, .inl v8_12)]) (st' := [.inr (.inr (some 74))]) (h' := gc_h sh I23 J11 A) (C := (True ∧ True)) rfl ⟨trivial, trivial⟩ ?_
                refine gv_get hD rfl rfl S_74 ⟨by decide, B_74⟩ (gc_hA S_74 rfl A_74_7) ?_
                show gv_X _ _ (225, [(0, .inr (.inr (some 74))), (1, .inl a1), (2, .inl a2), (3, .inl a3), (4, .inl a4), (5, .inl a5), (6, .inl v6_2), (7, .inl v7_2), (8, .inl v8_12)], [.inr (.inr (some 80))], sh, gc_h sh I23 J11 A)
                refine gv_run 2 true hD (pc' := 228) (lv' := [(0, .inr (.inr (some 74))), (1, .inl a1), (2, .inl a2), (3, .inl a3), (4, .inl a4), (5, .inl a5), (6, .inl v6_2), (7, .inl v7_2), (8, .inl v8_12)]) (st' := [.inl a1, .inl v7_2, .inr (.inr (some 80))]) (h' := gc_h sh I23 J11 A) (C := ((True ∧ True) ∧ True)) rfl ⟨⟨trivial, trivial⟩, trivial⟩ ?_
                refine gv_iast hD rfl S_80 ⟨by decide, B_80⟩ ⟨by exact gz_m 18 (by omega), by exact gz_m 19 (by omega)⟩ ?_
                refine gc_st hI23 S_80 rfl R_80 (lo := (-384)) (hi := 1535) rfl rfl (by exact gz_m 20 (by omega)) (by exact gz_m 21 (by omega)) (fun I27 hI27 q28 p28 => ?_)
                have FI27 := gc_frs (W := fun q j => q = 76 ∨ q = 77 ∨ q = 78 ∨ q = 79 ∨ q = 80 ∨ q = 81) FI23 (Or.inr (Or.inr (Or.inr (Or.inr (Or.inl rfl))))) p28
                have t29 := p28 74 9 (fun h => absurd h.1 (by decide))
                have t30 := p28 76 (Int.toNat (I 74 9)) (fun h => absurd h.1 (by decide))
                show gv_X _ _ (229, [(0, .inr (.inr (some 74))), (1, .inl a1), (2, .inl a2), (3, .inl a3), (4, .inl a4), (5, .inl a5), (6, .inl v6_2), (7, .inl v7_2), (8, .inl v8_12)], [], sh, gc_h sh I27 J11 A)
                refine gv_run 1 true hD (pc' := 230) (lv' := [(0, .inr (.inr (some 74))), (1, .inl a1), (2, .inl a2), (3, .inl a3), (4, .inl a4), (5, .inl a5), (6, .inl v6_2), (7, .inl v7_2), (8, .inl v8_12)]) (st' := [.inr (.inr (some 74))]) (h' := gc_h sh I27 J11 A) (C := (True ∧ True)) rfl ⟨trivial, trivial⟩ ?_
                refine gv_get hD rfl rfl S_74 ⟨by decide, B_74⟩ (gc_hA S_74 rfl A_74_8) ?_
                show gv_X _ _ (233, [(0, .inr (.inr (some 74))), (1, .inl a1), (2, .inl a2), (3, .inl a3), (4, .inl a4), (5, .inl a5), (6, .inl v6_2), (7, .inl v7_2), (8, .inl v8_12)], [.inr (.inr (some 81))], sh, gc_h sh I27 J11 A)
                refine gv_run 2 true hD (pc' := 237) (lv' := [(0, .inr (.inr (some 74))), (1, .inl a1), (2, .inl a2), (3, .inl a3), (4, .inl a4), (5, .inl a5), (6, .inl v6_2), (7, .inl v7_2), (8, .inl v8_12)]) (st' := [.inl a5, .inl v7_2, .inr (.inr (some 81))]) (h' := gc_h sh I27 J11 A) (C := ((True ∧ True) ∧ True)) rfl ⟨⟨trivial, trivial⟩, trivial⟩ ?_
                refine gv_iast hD rfl S_81 ⟨by decide, B_81⟩ ⟨by exact gz_m 22 (by omega), by exact gz_m 23 (by omega)⟩ ?_
                refine gc_st hI27 S_81 rfl R_81 (lo := 0) (hi := 1048575) rfl rfl (by exact gz_m 24 (by omega)) (by exact gz_m 25 (by omega)) (fun I31 hI31 q32 p32 => ?_)
                have FI31 := gc_frs (W := fun q j => q = 76 ∨ q = 77 ∨ q = 78 ∨ q = 79 ∨ q = 80 ∨ q = 81) FI27 (Or.inr (Or.inr (Or.inr (Or.inr (Or.inr rfl))))) p32
                have t33 := p32 74 9 (fun h => absurd h.1 (by decide))
                have t34 := p32 76 (Int.toNat (I 74 9)) (fun h => absurd h.1 (by decide))
                show gv_X _ _ (238, [(0, .inr (.inr (some 74))), (1, .inl a1), (2, .inl a2), (3, .inl a3), (4, .inl a4), (5, .inl a5), (6, .inl v6_2), (7, .inl v7_2), (8, .inl v8_12)], [], sh, gc_h sh I31 J11 A)
                exact gv_vret hD rfl ⟨I31, J11, rfl, hI31, FI31, FJ11, ⟨rfl, (gc_OE_pt (o := v7_2) (n := I 74 9) (by rw [show v7_2 = v8_12 from by exact gz_m 26 (by omega)]; exact e0_12) (fun k => (((((p32 75 k (fun h => absurd h.1 (by exact gz_m 27 (by omega)))).trans (p28 75 k (fun h => absurd h.1 (by exact gz_m 28 (by omega))))).trans (p24 75 k (fun h => absurd h.1 (by exact gz_m 29 (by omega))))).trans (p20 75 k (fun h => absurd h.1 (by exact gz_m 30 (by omega))))).trans (p16 75 k (fun h => absurd h.1 (by exact gz_m 31 (by omega)))))) (fun k => (((((p32 76 k (fun h => absurd h.1 (by exact gz_m 32 (by omega)))).trans (p28 76 k (fun h => absurd h.1 (by exact gz_m 33 (by omega))))).trans (p24 76 k (fun h => absurd h.1 (by exact gz_m 34 (by omega))))).trans (p20 76 k (fun h => absurd h.1 (by exact gz_m 35 (by omega))))).trans (p16 76 k (fun h => absurd h.1 (by exact gz_m 36 (by omega)))))) (fun k hk => (((((p32 80 k (fun h => absurd h.1 (by exact gz_m 37 (by omega)))).trans (p28 80 k (fun h => by have := h.2; exact gz_m 38 (by omega)))).trans (p24 80 k (fun h => absurd h.1 (by exact gz_m 39 (by omega))))).trans (p20 80 k (fun h => absurd h.1 (by exact gz_m 40 (by omega))))).trans (p16 80 k (fun h => absurd h.1 (by exact gz_m 41 (by omega)))))) (fun k hk => (((((p32 81 k (fun h => by have := h.2; exact gz_m 42 (by omega))).trans (p28 81 k (fun h => absurd h.1 (by exact gz_m 43 (by omega))))).trans (p24 81 k (fun h => absurd h.1 (by exact gz_m 44 (by omega))))).trans (p20 81 k (fun h => absurd h.1 (by exact gz_m 45 (by omega))))).trans (p16 81 k (fun h => absurd h.1 (by exact gz_m 46 (by omega)))))) (by exact gz_m 47 (by omega)) (by exact gz_m 48 (by omega)) (by rw [show I31 80 (Int.toNat v7_2) = a1 from (((p32 80 (Int.toNat v7_2) (fun h => absurd h.1 (by exact gz_m 49 (by omega))))).trans q28), show I31 81 (Int.toNat v7_2) = a5 from ((rfl).trans q32)]; exact gc_oe_fr x1 (fun k => (FI31 75 k).resolve_left (by exact gz_m 50 (by omega))) (fun k => by rw [show I31 76 k = I10 76 k from (((((p32 76 k (fun h => absurd h.1 (by exact gz_m 51 (by omega)))).trans (p28 76 k (fun h => absurd h.1 (by exact gz_m 52 (by omega))))).trans (p24 76 k (fun h => absurd h.1 (by exact gz_m 53 (by omega))))).trans (p20 76 k (fun h => absurd h.1 (by exact gz_m 54 (by omega))))).trans (p16 76 k (fun h => absurd h.1 (by exact gz_m 55 (by omega)))))]; exact e1_12 k))), (fun k => by rw [show I31 76 k = I10 76 k from (((((p32 76 k (fun h => absurd h.1 (by exact gz_m 56 (by omega)))).trans (p28 76 k (fun h => absurd h.1 (by exact gz_m 57 (by omega))))).trans (p24 76 k (fun h => absurd h.1 (by exact gz_m 58 (by omega))))).trans (p20 76 k (fun h => absurd h.1 (by exact gz_m 59 (by omega))))).trans (p16 76 k (fun h => absurd h.1 (by exact gz_m 60 (by omega)))))]; exact e1_12 k)⟩⟩
              · show gv_X _ _ (110, [(0, .inr (.inr (some 74))), (1, .inl a1), (2, .inl a2), (3, .inl a3), (4, .inl a4), (5, .inl a5), (6, .inl v6_2), (7, .inl v7_2), (8, .inl v8_12)], [], sh, gc_h sh I10 J11 A)
                refine gv_run 1 true hD (pc' := 111) (lv' := [(0, .inr (.inr (some 74))), (1, .inl a1), (2, .inl a2), (3, .inl a3), (4, .inl a4), (5, .inl a5), (6, .inl v6_2), (7, .inl v7_2), (8, .inl v8_12)]) (st' := [.inr (.inr (some 74))]) (h' := gc_h sh I10 J11 A) (C := (True ∧ True)) rfl ⟨trivial, trivial⟩ ?_
                refine gv_get hD rfl rfl S_74 ⟨by decide, B_74⟩ (gc_hA S_74 rfl A_74_4) ?_
                show gv_X _ _ (114, [(0, .inr (.inr (some 74))), (1, .inl a1), (2, .inl a2), (3, .inl a3), (4, .inl a4), (5, .inl a5), (6, .inl v6_2), (7, .inl v7_2), (8, .inl v8_12)], [.inr (.inr (some 77))], sh, gc_h sh I10 J11 A)
                refine gv_run 2 true hD (pc' := 117) (lv' := [(0, .inr (.inr (some 74))), (1, .inl a1), (2, .inl a2), (3, .inl a3), (4, .inl a4), (5, .inl a5), (6, .inl v6_2), (7, .inl v7_2), (8, .inl v8_12)]) (st' := [.inr (.inr (some 74)), .inl v8_12, .inr (.inr (some 77))]) (h' := gc_h sh I10 J11 A) (C := ((True ∧ True) ∧ True)) rfl ⟨⟨trivial, trivial⟩, trivial⟩ ?_
                refine gv_get hD rfl rfl S_74 ⟨by decide, B_74⟩ (gc_hA S_74 rfl A_74_4) ?_
                show gv_X _ _ (120, [(0, .inr (.inr (some 74))), (1, .inl a1), (2, .inl a2), (3, .inl a3), (4, .inl a4), (5, .inl a5), (6, .inl v6_2), (7, .inl v7_2), (8, .inl v8_12)], [.inr (.inr (some 77)), .inl v8_12, .inr (.inr (some 77))], sh, gc_h sh I10 J11 A)
                refine gv_run 3 true hD (pc' := 124) (lv' := [(0, .inr (.inr (some 74))), (1, .inl a1), (2, .inl a2), (3, .inl a3), (4, .inl a4), (5, .inl a5), (6, .inl v6_2), (7, .inl v7_2), (8, .inl v8_12)]) (st' := [.inl (v8_12 - 1), .inr (.inr (some 77)), .inl v8_12, .inr (.inr (some 77))]) (h' := gc_h sh I10 J11 A) (C := (((True ∧ True) ∧ True) ∧ True)) rfl ⟨⟨⟨trivial, trivial⟩, trivial⟩, trivial⟩ ?_
                have f35 := (show (-2147483648) ≤ I10 77 (Int.toNat (v8_12 - 1)) ∧ I10 77 (Int.toNat (v8_12 - 1)) ≤ 2147483647 from gc_in hI10 R_77 rfl rfl)
                refine gv_iald hD rfl S_77 rfl ⟨by decide, B_77⟩ ⟨by exact gz_m 61 (by omega), by exact gz_m 62 (by omega)⟩ (gc_iI S_77 rfl) ?_
                show gv_X _ _ (125, [(0, .inr (.inr (some 74))), (1, .inl a1), (2, .inl a2), (3, .inl a3), (4, .inl a4), (5, .inl a5), (6, .inl v6_2), (7, .inl v7_2), (8, .inl v8_12)], [.inl (I10 77 (Int.toNat (v8_12 - 1))), .inl v8_12, .inr (.inr (some 77))], sh, gc_h sh I10 J11 A)
                refine gv_iast hD rfl S_77 ⟨by decide, B_77⟩ ⟨by exact gz_m 63 (by omega), by exact gz_m 64 (by omega)⟩ ?_
                refine gc_st hI10 S_77 rfl R_77 (lo := (-2147483648)) (hi := 2147483647) rfl rfl (by exact gz_m 65 (by omega)) (by exact gz_m 66 (by omega)) (fun I36 hI36 q37 p37 => ?_)
                have FI36 := gc_frs (W := fun q j => q = 76 ∨ q = 77 ∨ q = 78 ∨ q = 79 ∨ q = 80 ∨ q = 81) FI10 (Or.inr (Or.inl rfl)) p37
                have t38 := p37 74 9 (fun h => absurd h.1 (by decide))
                have t39 := p37 76 (Int.toNat (I 74 9)) (fun h => absurd h.1 (by decide))
                show gv_X _ _ (126, [(0, .inr (.inr (some 74))), (1, .inl a1), (2, .inl a2), (3, .inl a3), (4, .inl a4), (5, .inl a5), (6, .inl v6_2), (7, .inl v7_2), (8, .inl v8_12)], [], sh, gc_h sh I36 J11 A)
                refine gv_run 1 true hD (pc' := 127) (lv' := [(0, .inr (.inr (some 74))), (1, .inl a1), (2, .inl a2), (3, .inl a3), (4, .inl a4), (5, .inl a5), (6, .inl v6_2), (7, .inl v7_2), (8, .inl v8_12)]) (st' := [.inr (.inr (some 74))]) (h' := gc_h sh I36 J11 A) (C := (True ∧ True)) rfl ⟨trivial, trivial⟩ ?_
                refine gv_get hD rfl rfl S_74 ⟨by decide, B_74⟩ (gc_hA S_74 rfl A_74_5) ?_
                show gv_X _ _ (130, [(0, .inr (.inr (some 74))), (1, .inl a1), (2, .inl a2), (3, .inl a3), (4, .inl a4), (5, .inl a5), (6, .inl v6_2), (7, .inl v7_2), (8, .inl v8_12)], [.inr (.inr (some 78))], sh, gc_h sh I36 J11 A)
                refine gv_run 2 true hD (pc' := 133) (lv' := [(0, .inr (.inr (some 74))), (1, .inl a1), (2, .inl a2), (3, .inl a3), (4, .inl a4), (5, .inl a5), (6, .inl v6_2), (7, .inl v7_2), (8, .inl v8_12)]) (st' := [.inr (.inr (some 74)), .inl v8_12, .inr (.inr (some 78))]) (h' := gc_h sh I36 J11 A) (C := ((True ∧ True) ∧ True)) rfl ⟨⟨trivial, trivial⟩, trivial⟩ ?_
                refine gv_get hD rfl rfl S_74 ⟨by decide, B_74⟩ (gc_hA S_74 rfl A_74_5) ?_
                show gv_X _ _ (136, [(0, .inr (.inr (some 74))), (1, .inl a1), (2, .inl a2), (3, .inl a3), (4, .inl a4), (5, .inl a5), (6, .inl v6_2), (7, .inl v7_2), (8, .inl v8_12)], [.inr (.inr (some 78)), .inl v8_12, .inr (.inr (some 78))], sh, gc_h sh I36 J11 A)
                refine gv_run 3 true hD (pc' := 140) (lv' := [(0, .inr (.inr (some 74))), (1, .inl a1), (2, .inl a2), (3, .inl a3), (4, .inl a4), (5, .inl a5), (6, .inl v6_2), (7, .inl v7_2), (8, .inl v8_12)]) (st' := [.inl (v8_12 - 1), .inr (.inr (some 78)), .inl v8_12, .inr (.inr (some 78))]) (h' := gc_h sh I36 J11 A) (C := (((True ∧ True) ∧ True) ∧ True)) rfl ⟨⟨⟨trivial, trivial⟩, trivial⟩, trivial⟩ ?_
                have f40 := (show 0 ≤ I36 78 (Int.toNat (v8_12 - 1)) ∧ I36 78 (Int.toNat (v8_12 - 1)) ≤ 16777215 from gc_in hI36 R_78 rfl rfl)
                refine gv_iald hD rfl S_78 rfl ⟨by decide, B_78⟩ ⟨by exact gz_m 67 (by omega), by exact gz_m 68 (by omega)⟩ (gc_iI S_78 rfl) ?_
                show gv_X _ _ (141, [(0, .inr (.inr (some 74))), (1, .inl a1), (2, .inl a2), (3, .inl a3), (4, .inl a4), (5, .inl a5), (6, .inl v6_2), (7, .inl v7_2), (8, .inl v8_12)], [.inl (I36 78 (Int.toNat (v8_12 - 1))), .inl v8_12, .inr (.inr (some 78))], sh, gc_h sh I36 J11 A)
                refine gv_iast hD rfl S_78 ⟨by decide, B_78⟩ ⟨by exact gz_m 69 (by omega), by exact gz_m 70 (by omega)⟩ ?_
                refine gc_st hI36 S_78 rfl R_78 (lo := 0) (hi := 16777215) rfl rfl (by exact gz_m 71 (by omega)) (by exact gz_m 72 (by omega)) (fun I41 hI41 q42 p42 => ?_)
                have FI41 := gc_frs (W := fun q j => q = 76 ∨ q = 77 ∨ q = 78 ∨ q = 79 ∨ q = 80 ∨ q = 81) FI36 (Or.inr (Or.inr (Or.inl rfl))) p42
                have t43 := p42 74 9 (fun h => absurd h.1 (by decide))
                have t44 := p42 76 (Int.toNat (I 74 9)) (fun h => absurd h.1 (by decide))
                show gv_X _ _ (142, [(0, .inr (.inr (some 74))), (1, .inl a1), (2, .inl a2), (3, .inl a3), (4, .inl a4), (5, .inl a5), (6, .inl v6_2), (7, .inl v7_2), (8, .inl v8_12)], [], sh, gc_h sh I41 J11 A)
                refine gv_run 1 true hD (pc' := 143) (lv' := [(0, .inr (.inr (some 74))), (1, .inl a1), (2, .inl a2), (3, .inl a3), (4, .inl a4), (5, .inl a5), (6, .inl v6_2), (7, .inl v7_2), (8, .inl v8_12)]) (st' := [.inr (.inr (some 74))]) (h' := gc_h sh I41 J11 A) (C := (True ∧ True)) rfl ⟨trivial, trivial⟩ ?_
                refine gv_get hD rfl rfl S_74 ⟨by decide, B_74⟩ (gc_hA S_74 rfl A_74_6) ?_
                show gv_X _ _ (146, [(0, .inr (.inr (some 74))), (1, .inl a1), (2, .inl a2), (3, .inl a3), (4, .inl a4), (5, .inl a5), (6, .inl v6_2), (7, .inl v7_2), (8, .inl v8_12)], [.inr (.inr (some 79))], sh, gc_h sh I41 J11 A)
                refine gv_run 2 true hD (pc' := 149) (lv' := [(0, .inr (.inr (some 74))), (1, .inl a1), (2, .inl a2), (3, .inl a3), (4, .inl a4), (5, .inl a5), (6, .inl v6_2), (7, .inl v7_2), (8, .inl v8_12)]) (st' := [.inr (.inr (some 74)), .inl v8_12, .inr (.inr (some 79))]) (h' := gc_h sh I41 J11 A) (C := ((True ∧ True) ∧ True)) rfl ⟨⟨trivial, trivial⟩, trivial⟩ ?_
                refine gv_get hD rfl rfl S_74 ⟨by decide, B_74⟩ (gc_hA S_74 rfl A_74_6) ?_
                show gv_X _ _ (152, [(0, .inr (.inr (some 74))), (1, .inl a1), (2, .inl a2), (3, .inl a3), (4, .inl a4), (5, .inl a5), (6, .inl v6_2), (7, .inl v7_2), (8, .inl v8_12)], [.inr (.inr (some 79)), .inl v8_12, .inr (.inr (some 79))], sh, gc_h sh I41 J11 A)
                refine gv_run 3 true hD (pc' := 156) (lv' := [(0, .inr (.inr (some 74))), (1, .inl a1), (2, .inl a2), (3, .inl a3), (4, .inl a4), (5, .inl a5), (6, .inl v6_2), (7, .inl v7_2), (8, .inl v8_12)]) (st' := [.inl (v8_12 - 1), .inr (.inr (some 79)), .inl v8_12, .inr (.inr (some 79))]) (h' := gc_h sh I41 J11 A) (C := (((True ∧ True) ∧ True) ∧ True)) rfl ⟨⟨⟨trivial, trivial⟩, trivial⟩, trivial⟩ ?_
                have f45 := (show 0 ≤ I41 79 (Int.toNat (v8_12 - 1)) ∧ I41 79 (Int.toNat (v8_12 - 1)) ≤ 1000 from gc_in hI41 R_79 rfl rfl)
                refine gv_iald hD rfl S_79 rfl ⟨by decide, B_79⟩ ⟨by exact gz_m 73 (by omega), by exact gz_m 74 (by omega)⟩ (gc_iI S_79 rfl) ?_
                show gv_X _ _ (157, [(0, .inr (.inr (some 74))), (1, .inl a1), (2, .inl a2), (3, .inl a3), (4, .inl a4), (5, .inl a5), (6, .inl v6_2), (7, .inl v7_2), (8, .inl v8_12)], [.inl (I41 79 (Int.toNat (v8_12 - 1))), .inl v8_12, .inr (.inr (some 79))], sh, gc_h sh I41 J11 A)
                refine gv_iast hD rfl S_79 ⟨by decide, B_79⟩ ⟨by exact gz_m 75 (by omega), by exact gz_m 76 (by omega)⟩ ?_
                refine gc_st hI41 S_79 rfl R_79 (lo := 0) (hi := 1000) rfl rfl (by exact gz_m 77 (by omega)) (by exact gz_m 78 (by omega)) (fun I46 hI46 q47 p47 => ?_)
                have FI46 := gc_frs (W := fun q j => q = 76 ∨ q = 77 ∨ q = 78 ∨ q = 79 ∨ q = 80 ∨ q = 81) FI41 (Or.inr (Or.inr (Or.inr (Or.inl rfl)))) p47
                have t48 := p47 74 9 (fun h => absurd h.1 (by decide))
                have t49 := p47 76 (Int.toNat (I 74 9)) (fun h => absurd h.1 (by decide))
                show gv_X _ _ (158, [(0, .inr (.inr (some 74))), (1, .inl a1), (2, .inl a2), (3, .inl a3), (4, .inl a4), (5, .inl a5), (6, .inl v6_2), (7, .inl v7_2), (8, .inl v8_12)], [], sh, gc_h sh I46 J11 A)
                refine gv_run 1 true hD (pc' := 159) (lv' := [(0, .inr (.inr (some 74))), (1, .inl a1), (2, .inl a2), (3, .inl a3), (4, .inl a4), (5, .inl a5), (6, .inl v6_2), (7, .inl v7_2), (8, .inl v8_12)]) (st' := [.inr (.inr (some 74))]) (h' := gc_h sh I46 J11 A) (C := (True ∧ True)) rfl ⟨trivial, trivial⟩ ?_
                refine gv_get hD rfl rfl S_74 ⟨by decide, B_74⟩ (gc_hA S_74 rfl A_74_7) ?_
                show gv_X _ _ (162, [(0, .inr (.inr (some 74))), (1, .inl a1), (2, .inl a2), (3, .inl a3), (4, .inl a4), (5, .inl a5), (6, .inl v6_2), (7, .inl v7_2), (8, .inl v8_12)], [.inr (.inr (some 80))], sh, gc_h sh I46 J11 A)
                refine gv_run 2 true hD (pc' := 165) (lv' := [(0, .inr (.inr (some 74))), (1, .inl a1), (2, .inl a2), (3, .inl a3), (4, .inl a4), (5, .inl a5), (6, .inl v6_2), (7, .inl v7_2), (8, .inl v8_12)]) (st' := [.inr (.inr (some 74)), .inl v8_12, .inr (.inr (some 80))]) (h' := gc_h sh I46 J11 A) (C := ((True ∧ True) ∧ True)) rfl ⟨⟨trivial, trivial⟩, trivial⟩ ?_
                refine gv_get hD rfl rfl S_74 ⟨by decide, B_74⟩ (gc_hA S_74 rfl A_74_7) ?_
                show gv_X _ _ (168, [(0, .inr (.inr (some 74))), (1, .inl a1), (2, .inl a2), (3, .inl a3), (4, .inl a4), (5, .inl a5), (6, .inl v6_2), (7, .inl v7_2), (8, .inl v8_12)], [.inr (.inr (some 80)), .inl v8_12, .inr (.inr (some 80))], sh, gc_h sh I46 J11 A)
                refine gv_run 3 true hD (pc' := 172) (lv' := [(0, .inr (.inr (some 74))), (1, .inl a1), (2, .inl a2), (3, .inl a3), (4, .inl a4), (5, .inl a5), (6, .inl v6_2), (7, .inl v7_2), (8, .inl v8_12)]) (st' := [.inl (v8_12 - 1), .inr (.inr (some 80)), .inl v8_12, .inr (.inr (some 80))]) (h' := gc_h sh I46 J11 A) (C := (((True ∧ True) ∧ True) ∧ True)) rfl ⟨⟨⟨trivial, trivial⟩, trivial⟩, trivial⟩ ?_
                have f50 := (show (-384) ≤ I46 80 (Int.toNat (v8_12 - 1)) ∧ I46 80 (Int.toNat (v8_12 - 1)) ≤ 1535 from gc_in hI46 R_80 rfl rfl)
                refine gv_iald hD rfl S_80 rfl ⟨by decide, B_80⟩ ⟨by exact gz_m 79 (by omega), by exact gz_m 80 (by omega)⟩ (gc_iI S_80 rfl) ?_
                show gv_X _ _ (173, [(0, .inr (.inr (some 74))), (1, .inl a1), (2, .inl a2), (3, .inl a3), (4, .inl a4), (5, .inl a5), (6, .inl v6_2), (7, .inl v7_2), (8, .inl v8_12)], [.inl (I46 80 (Int.toNat (v8_12 - 1))), .inl v8_12, .inr (.inr (some 80))], sh, gc_h sh I46 J11 A)
                refine gv_iast hD rfl S_80 ⟨by decide, B_80⟩ ⟨by exact gz_m 81 (by omega), by exact gz_m 82 (by omega)⟩ ?_
                refine gc_st hI46 S_80 rfl R_80 (lo := (-384)) (hi := 1535) rfl rfl (by exact gz_m 83 (by omega)) (by exact gz_m 84 (by omega)) (fun I51 hI51 q52 p52 => ?_)
                have FI51 := gc_frs (W := fun q j => q = 76 ∨ q = 77 ∨ q = 78 ∨ q = 79 ∨ q = 80 ∨ q = 81) FI46 (Or.inr (Or.inr (Or.inr (Or.inr (Or.inl rfl))))) p52
                have t53 := p52 74 9 (fun h => absurd h.1 (by decide))
                have t54 := p52 76 (Int.toNat (I 74 9)) (fun h => absurd h.1 (by decide))
                show gv_X _ _ (174, [(0, .inr (.inr (some 74))), (1, .inl a1), (2, .inl a2), (3, .inl a3), (4, .inl a4), (5, .inl a5), (6, .inl v6_2), (7, .inl v7_2), (8, .inl v8_12)], [], sh, gc_h sh I51 J11 A)
                refine gv_run 1 true hD (pc' := 175) (lv' := [(0, .inr (.inr (some 74))), (1, .inl a1), (2, .inl a2), (3, .inl a3), (4, .inl a4), (5, .inl a5), (6, .inl v6_2), (7, .inl v7_2), (8, .inl v8_12)]) (st' := [.inr (.inr (some 74))]) (h' := gc_h sh I51 J11 A) (C := (True ∧ True)) rfl ⟨trivial, trivial⟩ ?_
                refine gv_get hD rfl rfl S_74 ⟨by decide, B_74⟩ (gc_hA S_74 rfl A_74_8) ?_
                show gv_X _ _ (178, [(0, .inr (.inr (some 74))), (1, .inl a1), (2, .inl a2), (3, .inl a3), (4, .inl a4), (5, .inl a5), (6, .inl v6_2), (7, .inl v7_2), (8, .inl v8_12)], [.inr (.inr (some 81))], sh, gc_h sh I51 J11 A)
                refine gv_run 2 true hD (pc' := 181) (lv' := [(0, .inr (.inr (some 74))), (1, .inl a1), (2, .inl a2), (3, .inl a3), (4, .inl a4), (5, .inl a5), (6, .inl v6_2), (7, .inl v7_2), (8, .inl v8_12)]) (st' := [.inr (.inr (some 74)), .inl v8_12, .inr (.inr (some 81))]) (h' := gc_h sh I51 J11 A) (C := ((True ∧ True) ∧ True)) rfl ⟨⟨trivial, trivial⟩, trivial⟩ ?_
                refine gv_get hD rfl rfl S_74 ⟨by decide, B_74⟩ (gc_hA S_74 rfl A_74_8) ?_
                show gv_X _ _ (184, [(0, .inr (.inr (some 74))), (1, .inl a1), (2, .inl a2), (3, .inl a3), (4, .inl a4), (5, .inl a5), (6, .inl v6_2), (7, .inl v7_2), (8, .inl v8_12)], [.inr (.inr (some 81)), .inl v8_12, .inr (.inr (some 81))], sh, gc_h sh I51 J11 A)
                refine gv_run 3 true hD (pc' := 188) (lv' := [(0, .inr (.inr (some 74))), (1, .inl a1), (2, .inl a2), (3, .inl a3), (4, .inl a4), (5, .inl a5), (6, .inl v6_2), (7, .inl v7_2), (8, .inl v8_12)]) (st' := [.inl (v8_12 - 1), .inr (.inr (some 81)), .inl v8_12, .inr (.inr (some 81))]) (h' := gc_h sh I51 J11 A) (C := (((True ∧ True) ∧ True) ∧ True)) rfl ⟨⟨⟨trivial, trivial⟩, trivial⟩, trivial⟩ ?_
                have f55 := (show 0 ≤ I51 81 (Int.toNat (v8_12 - 1)) ∧ I51 81 (Int.toNat (v8_12 - 1)) ≤ 1048575 from gc_in hI51 R_81 rfl rfl)
                refine gv_iald hD rfl S_81 rfl ⟨by decide, B_81⟩ ⟨by exact gz_m 85 (by omega), by exact gz_m 86 (by omega)⟩ (gc_iI S_81 rfl) ?_
                show gv_X _ _ (189, [(0, .inr (.inr (some 74))), (1, .inl a1), (2, .inl a2), (3, .inl a3), (4, .inl a4), (5, .inl a5), (6, .inl v6_2), (7, .inl v7_2), (8, .inl v8_12)], [.inl (I51 81 (Int.toNat (v8_12 - 1))), .inl v8_12, .inr (.inr (some 81))], sh, gc_h sh I51 J11 A)
                refine gv_iast hD rfl S_81 ⟨by decide, B_81⟩ ⟨by exact gz_m 87 (by omega), by exact gz_m 88 (by omega)⟩ ?_
                refine gc_st hI51 S_81 rfl R_81 (lo := 0) (hi := 1048575) rfl rfl (by exact gz_m 89 (by omega)) (by exact gz_m 90 (by omega)) (fun I56 hI56 q57 p57 => ?_)
                have FI56 := gc_frs (W := fun q j => q = 76 ∨ q = 77 ∨ q = 78 ∨ q = 79 ∨ q = 80 ∨ q = 81) FI51 (Or.inr (Or.inr (Or.inr (Or.inr (Or.inr rfl))))) p57
                have t58 := p57 74 9 (fun h => absurd h.1 (by decide))
                have t59 := p57 76 (Int.toNat (I 74 9)) (fun h => absurd h.1 (by decide))
                show gv_X _ _ (190, [(0, .inr (.inr (some 74))), (1, .inl a1), (2, .inl a2), (3, .inl a3), (4, .inl a4), (5, .inl a5), (6, .inl v6_2), (7, .inl v7_2), (8, .inl v8_12)], [], sh, gc_h sh I56 J11 A)
                refine gv_run 2 true hD (pc' := 103) (lv' := [(8, .inl (v8_12 + (-1))), (0, .inr (.inr (some 74))), (1, .inl a1), (2, .inl a2), (3, .inl a3), (4, .inl a4), (5, .inl a5), (6, .inl v6_2), (7, .inl v7_2)]) (st' := []) (h' := gc_h sh I56 J11 A) (C := ((True ∧ True) ∧ True)) rfl ⟨⟨trivial, trivial⟩, trivial⟩ ?_
                refine gv_pick [1, 2, 3, 4, 5, 6, 7, 8, 0] rfl ?_
                exact ih103 I56 J11 ((v8_12 + (-1))) (by exact gz_m 91 (by omega)) hI56 FI56 FJ11 (by exact gz_m 92 (by omega)) (gc_OE_mv (n := (Int.toNat (I 74 9))) e0_12 (fun k => (((((p57 75 k (fun h => absurd h.1 (by exact gz_m 93 (by omega)))).trans (p52 75 k (fun h => absurd h.1 (by exact gz_m 94 (by omega))))).trans (p47 75 k (fun h => absurd h.1 (by exact gz_m 95 (by omega))))).trans (p42 75 k (fun h => absurd h.1 (by exact gz_m 96 (by omega))))).trans (p37 75 k (fun h => absurd h.1 (by exact gz_m 97 (by omega)))))) (fun k => (((((p57 76 k (fun h => absurd h.1 (by exact gz_m 98 (by omega)))).trans (p52 76 k (fun h => absurd h.1 (by exact gz_m 99 (by omega))))).trans (p47 76 k (fun h => absurd h.1 (by exact gz_m 100 (by omega))))).trans (p42 76 k (fun h => absurd h.1 (by exact gz_m 101 (by omega))))).trans (p37 76 k (fun h => absurd h.1 (by exact gz_m 102 (by omega)))))) (fun k hk => (((((p57 80 k (fun h => absurd h.1 (by exact gz_m 103 (by omega)))).trans (p52 80 k (fun h => by have := h.2; exact gz_m 104 (by omega)))).trans (p47 80 k (fun h => absurd h.1 (by exact gz_m 105 (by omega))))).trans (p42 80 k (fun h => absurd h.1 (by exact gz_m 106 (by omega))))).trans (p37 80 k (fun h => absurd h.1 (by exact gz_m 107 (by omega)))))) (fun k hk => (((((p57 81 k (fun h => by have := h.2; exact gz_m 108 (by omega))).trans (p52 81 k (fun h => absurd h.1 (by exact gz_m 109 (by omega))))).trans (p47 81 k (fun h => absurd h.1 (by exact gz_m 110 (by omega))))).trans (p42 81 k (fun h => absurd h.1 (by exact gz_m 111 (by omega))))).trans (p37 81 k (fun h => absurd h.1 (by exact gz_m 112 (by omega)))))) (by have h9 := ((p57 80 (Int.toNat v8_12) (fun h => absurd h.1 (by exact gz_m 113 (by omega))))).trans q52; rw [h9]; exact (((p47 80 (Int.toNat (v8_12 - 1)) (fun h => absurd h.1 (by exact gz_m 114 (by omega)))).trans (p42 80 (Int.toNat (v8_12 - 1)) (fun h => absurd h.1 (by exact gz_m 115 (by omega))))).trans (p37 80 (Int.toNat (v8_12 - 1)) (fun h => absurd h.1 (by exact gz_m 116 (by omega)))))) (by have h9 := (rfl).trans q57; rw [h9]; exact ((((p52 81 (Int.toNat (v8_12 - 1)) (fun h => absurd h.1 (by exact gz_m 117 (by omega)))).trans (p47 81 (Int.toNat (v8_12 - 1)) (fun h => absurd h.1 (by exact gz_m 118 (by omega))))).trans (p42 81 (Int.toNat (v8_12 - 1)) (fun h => absurd h.1 (by exact gz_m 119 (by omega))))).trans (p37 81 (Int.toNat (v8_12 - 1)) (fun h => absurd h.1 (by exact gz_m 120 (by omega)))))) (by exact gz_m 121 (by omega)) (by exact gz_m 122 (by omega))) (fun k => by rw [show I56 76 k = I10 76 k from (((((p57 76 k (fun h => absurd h.1 (by exact gz_m 123 (by omega)))).trans (p52 76 k (fun h => absurd h.1 (by exact gz_m 124 (by omega))))).trans (p47 76 k (fun h => absurd h.1 (by exact gz_m 125 (by omega))))).trans (p42 76 k (fun h => absurd h.1 (by exact gz_m 126 (by omega))))).trans (p37 76 k (fun h => absurd h.1 (by exact gz_m 127 (by omega)))))]; exact e1_12 k)
          refine gv_run 2 true hD (pc' := 90) (lv' := [(0, .inr (.inr (some 74))), (1, .inl a1), (2, .inl a2), (3, .inl a3), (4, .inl a4), (5, .inl a5), (6, .inl v6_2), (7, .inl v7_2)]) (st' := [.inr (.inr (some 74)), .inl v6_2]) (h' := gc_h sh I6 J7 A) (C := ((True ∧ True) ∧ True)) rfl ⟨⟨trivial, trivial⟩, trivial⟩ ?_
          refine gv_get hD rfl rfl S_74 ⟨by decide, B_74⟩ (gc_hA S_74 rfl A_74_3) ?_
          show gv_X _ _ (93, [(0, .inr (.inr (some 74))), (1, .inl a1), (2, .inl a2), (3, .inl a3), (4, .inl a4), (5, .inl a5), (6, .inl v6_2), (7, .inl v7_2)], [.inr (.inr (some 76)), .inl v6_2], sh, gc_h sh I6 J7 A)
          refine gv_run 1 true hD (pc' := 94) (lv' := [(0, .inr (.inr (some 74))), (1, .inl a1), (2, .inl a2), (3, .inl a3), (4, .inl a4), (5, .inl a5), (6, .inl v6_2), (7, .inl v7_2)]) (st' := [.inr (.inr (some 74)), .inr (.inr (some 76)), .inl v6_2]) (h' := gc_h sh I6 J7 A) (C := (True ∧ True)) rfl ⟨trivial, trivial⟩ ?_
          have f60 := (show (-1) ≤ I6 74 9 ∧ I6 74 9 ≤ 59 from gc_in hI6 R_74 rfl rfl)
          refine gv_get hD rfl rfl S_74 ⟨by decide, B_74⟩ (gc_hI S_74 rfl) ?_
          show gv_X _ _ (97, [(0, .inr (.inr (some 74))), (1, .inl a1), (2, .inl a2), (3, .inl a3), (4, .inl a4), (5, .inl a5), (6, .inl v6_2), (7, .inl v7_2)], [.inl (I6 74 9), .inr (.inr (some 76)), .inl v6_2], sh, gc_h sh I6 J7 A)
          have t61 := (show I6 76 (Int.toNat (I6 74 9)) = I6 76 (Int.toNat (I 74 9)) from by rw [show I6 74 9 = I 74 9 from by exact gz_m 128 (by omega)])
          have f62 := (show 0 ≤ I6 76 (Int.toNat (I6 74 9)) ∧ I6 76 (Int.toNat (I6 74 9)) ≤ 24 from gc_in hI6 R_76 rfl rfl)
          refine gv_iald hD rfl S_76 rfl ⟨by decide, B_76⟩ ⟨by exact gz_m 129 (by omega), by exact gz_m 130 (by omega)⟩ (gc_iI S_76 rfl) ?_
          show gv_X _ _ (98, [(0, .inr (.inr (some 74))), (1, .inl a1), (2, .inl a2), (3, .inl a3), (4, .inl a4), (5, .inl a5), (6, .inl v6_2), (7, .inl v7_2)], [.inl (I6 76 (Int.toNat (I6 74 9))), .inl v6_2], sh, gc_h sh I6 J7 A)
          refine gv_run 4 true hD (pc' := 103) (lv' := [(8, .inl ((v6_2 + (I6 76 (Int.toNat (I6 74 9)))) - 1)), (0, .inr (.inr (some 74))), (1, .inl a1), (2, .inl a2), (3, .inl a3), (4, .inl a4), (5, .inl a5), (6, .inl v6_2), (7, .inl v7_2)]) (st' := []) (h' := gc_h sh I6 J7 A) (C := ((((True ∧ True) ∧ True) ∧ True) ∧ True)) rfl ⟨⟨⟨⟨trivial, trivial⟩, trivial⟩, trivial⟩, trivial⟩ ?_
          refine gv_pick [1, 2, 3, 4, 5, 6, 7, 8, 0] rfl ?_
          exact L103 _ I6 J7 (((v6_2 + (I6 76 (Int.toNat (I6 74 9)))) - 1)) (Nat.lt_succ_self _) hI6 FI6 FJ7 (by exact gz_m 131 (by omega)) (by rw [show I6 74 9 = I 74 9 from by exact gz_m 132 (by omega)]; exact e0_8) e1_8
        refine gv_run 4 true hD (pc' := 56) (lv' := [(0, .inr (.inr (some 74))), (1, .inl a1), (2, .inl a2), (3, .inl a3), (4, .inl a4), (5, .inl a5), (6, .inl v6_2), (7, .inl v7_2)]) (st' := [.inl (v6_2 + 24), .inl v7_2]) (h' := gc_h sh I J A) (C := ((((True ∧ True) ∧ True) ∧ True) ∧ True)) rfl ⟨⟨⟨⟨trivial, trivial⟩, trivial⟩, trivial⟩, trivial⟩ ?_
        refine gv_icmp_lt (t := 60) hD rfl rfl ⟨⟨by exact gz_m 133 (by omega), by exact gz_m 134 (by omega)⟩, ⟨by exact gz_m 135 (by omega), by exact gz_m 136 (by omega)⟩⟩ (fun c63 => ?_) (fun c63 => ?_)
        · show gv_X _ _ (60, [(0, .inr (.inr (some 74))), (1, .inl a1), (2, .inl a2), (3, .inl a3), (4, .inl a4), (5, .inl a5), (6, .inl v6_2), (7, .inl v7_2)], [], sh, gc_h sh I J A)
          refine gv_run 1 true hD (pc' := 61) (lv' := [(0, .inr (.inr (some 74))), (1, .inl a1), (2, .inl a2), (3, .inl a3), (4, .inl a4), (5, .inl a5), (6, .inl v6_2), (7, .inl v7_2)]) (st' := [.inr (.inr (some 74))]) (h' := gc_h sh I J A) (C := (True ∧ True)) rfl ⟨trivial, trivial⟩ ?_
          refine gv_get hD rfl rfl S_74 ⟨by decide, B_74⟩ (gc_hA S_74 rfl A_74_3) ?_
          show gv_X _ _ (64, [(0, .inr (.inr (some 74))), (1, .inl a1), (2, .inl a2), (3, .inl a3), (4, .inl a4), (5, .inl a5), (6, .inl v6_2), (7, .inl v7_2)], [.inr (.inr (some 76))], sh, gc_h sh I J A)
          refine gv_run 1 true hD (pc' := 65) (lv' := [(0, .inr (.inr (some 74))), (1, .inl a1), (2, .inl a2), (3, .inl a3), (4, .inl a4), (5, .inl a5), (6, .inl v6_2), (7, .inl v7_2)]) (st' := [.inr (.inr (some 74)), .inr (.inr (some 76))]) (h' := gc_h sh I J A) (C := (True ∧ True)) rfl ⟨trivial, trivial⟩ ?_
          have f64 := (show (-1) ≤ I 74 9 ∧ I 74 9 ≤ 59 from gc_in hI R_74 rfl rfl)
          refine gv_get hD rfl rfl S_74 ⟨by decide, B_74⟩ (gc_hI S_74 rfl) ?_
          show gv_X _ _ (68, [(0, .inr (.inr (some 74))), (1, .inl a1), (2, .inl a2), (3, .inl a3), (4, .inl a4), (5, .inl a5), (6, .inl v6_2), (7, .inl v7_2)], [.inl (I 74 9), .inr (.inr (some 76))], sh, gc_h sh I J A)
          have f65 := (show 0 ≤ I 76 (Int.toNat (I 74 9)) ∧ I 76 (Int.toNat (I 74 9)) ≤ 24 from gc_in hI R_76 rfl rfl)
          refine gv_iald hD rfl S_76 rfl ⟨by decide, B_76⟩ ⟨by exact gz_m 137 (by omega), by exact gz_m 138 (by omega)⟩ (gc_iI S_76 rfl) ?_
          show gv_X _ _ (69, [(0, .inr (.inr (some 74))), (1, .inl a1), (2, .inl a2), (3, .inl a3), (4, .inl a4), (5, .inl a5), (6, .inl v6_2), (7, .inl v7_2)], [.inl (I 76 (Int.toNat (I 74 9)))], sh, gc_h sh I J A)
          refine gv_run 1 true hD (pc' := 71) (lv' := [(0, .inr (.inr (some 74))), (1, .inl a1), (2, .inl a2), (3, .inl a3), (4, .inl a4), (5, .inl a5), (6, .inl v6_2), (7, .inl v7_2)]) (st' := [.inl 24, .inl (I 76 (Int.toNat (I 74 9)))]) (h' := gc_h sh I J A) (C := (True ∧ True)) rfl ⟨trivial, trivial⟩ ?_
          refine gv_icmp_ge (t := 87) hD rfl rfl ⟨⟨by exact gz_m 139 (by omega), by exact gz_m 140 (by omega)⟩, ⟨by exact gz_m 141 (by omega), by exact gz_m 142 (by omega)⟩⟩ (fun c66 => ?_) (fun c66 => ?_)
          · show gv_X _ _ (87, [(0, .inr (.inr (some 74))), (1, .inl a1), (2, .inl a2), (3, .inl a3), (4, .inl a4), (5, .inl a5), (6, .inl v6_2), (7, .inl v7_2)], [], sh, gc_h sh I J A)
            exact L87 I J hI FI FJ (by exact gz_m 143 (by omega)) (gc_OE_any x0) (fun k => Int.le_refl _)
          · show gv_X _ _ (74, [(0, .inr (.inr (some 74))), (1, .inl a1), (2, .inl a2), (3, .inl a3), (4, .inl a4), (5, .inl a5), (6, .inl v6_2), (7, .inl v7_2)], [], sh, gc_h sh I J A)
            refine gv_run 1 true hD (pc' := 75) (lv' := [(0, .inr (.inr (some 74))), (1, .inl a1), (2, .inl a2), (3, .inl a3), (4, .inl a4), (5, .inl a5), (6, .inl v6_2), (7, .inl v7_2)]) (st' := [.inr (.inr (some 74))]) (h' := gc_h sh I J A) (C := (True ∧ True)) rfl ⟨trivial, trivial⟩ ?_
            refine gv_get hD rfl rfl S_74 ⟨by decide, B_74⟩ (gc_hA S_74 rfl A_74_3) ?_
            show gv_X _ _ (78, [(0, .inr (.inr (some 74))), (1, .inl a1), (2, .inl a2), (3, .inl a3), (4, .inl a4), (5, .inl a5), (6, .inl v6_2), (7, .inl v7_2)], [.inr (.inr (some 76))], sh, gc_h sh I J A)
            refine gv_run 1 true hD (pc' := 79) (lv' := [(0, .inr (.inr (some 74))), (1, .inl a1), (2, .inl a2), (3, .inl a3), (4, .inl a4), (5, .inl a5), (6, .inl v6_2), (7, .inl v7_2)]) (st' := [.inr (.inr (some 74)), .inr (.inr (some 76))]) (h' := gc_h sh I J A) (C := (True ∧ True)) rfl ⟨trivial, trivial⟩ ?_
            have f67 := (show (-1) ≤ I 74 9 ∧ I 74 9 ≤ 59 from gc_in hI R_74 rfl rfl)
            refine gv_get hD rfl rfl S_74 ⟨by decide, B_74⟩ (gc_hI S_74 rfl) ?_
            show gv_X _ _ (82, [(0, .inr (.inr (some 74))), (1, .inl a1), (2, .inl a2), (3, .inl a3), (4, .inl a4), (5, .inl a5), (6, .inl v6_2), (7, .inl v7_2)], [.inl (I 74 9), .inr (.inr (some 76))], sh, gc_h sh I J A)
            refine gv_run 1 true hD (pc' := 83) (lv' := [(0, .inr (.inr (some 74))), (1, .inl a1), (2, .inl a2), (3, .inl a3), (4, .inl a4), (5, .inl a5), (6, .inl v6_2), (7, .inl v7_2)]) (st' := [.inl (I 74 9), .inr (.inr (some 76)), .inl (I 74 9), .inr (.inr (some 76))]) (h' := gc_h sh I J A) (C := (True ∧ True)) rfl ⟨trivial, trivial⟩ ?_
            have f68 := (show 0 ≤ I 76 (Int.toNat (I 74 9)) ∧ I 76 (Int.toNat (I 74 9)) ≤ 24 from gc_in hI R_76 rfl rfl)
            refine gv_iald hD rfl S_76 rfl ⟨by decide, B_76⟩ ⟨by exact gz_m 144 (by omega), by exact gz_m 145 (by omega)⟩ (gc_iI S_76 rfl) ?_
            show gv_X _ _ (84, [(0, .inr (.inr (some 74))), (1, .inl a1), (2, .inl a2), (3, .inl a3), (4, .inl a4), (5, .inl a5), (6, .inl v6_2), (7, .inl v7_2)], [.inl (I 76 (Int.toNat (I 74 9))), .inl (I 74 9), .inr (.inr (some 76))], sh, gc_h sh I J A)
            refine gv_run 2 true hD (pc' := 86) (lv' := [(0, .inr (.inr (some 74))), (1, .inl a1), (2, .inl a2), (3, .inl a3), (4, .inl a4), (5, .inl a5), (6, .inl v6_2), (7, .inl v7_2)]) (st' := [.inl ((I 76 (Int.toNat (I 74 9))) + 1), .inl (I 74 9), .inr (.inr (some 76))]) (h' := gc_h sh I J A) (C := ((True ∧ True) ∧ True)) rfl ⟨⟨trivial, trivial⟩, trivial⟩ ?_
            refine gv_iast hD rfl S_76 ⟨by decide, B_76⟩ ⟨by exact gz_m 146 (by omega), by exact gz_m 147 (by omega)⟩ ?_
            refine gc_st hI S_76 rfl R_76 (lo := 0) (hi := 24) rfl rfl (by exact gz_m 148 (by omega)) (by exact gz_m 149 (by omega)) (fun I69 hI69 q70 p70 => ?_)
            have FI69 := gc_frs (W := fun q j => q = 76 ∨ q = 77 ∨ q = 78 ∨ q = 79 ∨ q = 80 ∨ q = 81) FI (Or.inl rfl) p70
            have t71 := p70 74 9 (fun h => absurd h.1 (by decide))
            show gv_X _ _ (87, [(0, .inr (.inr (some 74))), (1, .inl a1), (2, .inl a2), (3, .inl a3), (4, .inl a4), (5, .inl a5), (6, .inl v6_2), (7, .inl v7_2)], [], sh, gc_h sh I69 J A)
            exact L87 I69 J hI69 FI69 FJ (by exact gz_m 150 (by omega)) (gc_OE_gr x0 p70 q70 (by exact gz_m 151 (by omega))) (fun k => by by_cases h9 : k = (Int.toNat (I 74 9)); (· rw [h9, q70]; exact gz_m 152 (by omega)); (· rw [p70 76 k (fun h => h9 h.2)]; exact gz_m 153 (by omega)))
        · show gv_X _ _ (59, [(0, .inr (.inr (some 74))), (1, .inl a1), (2, .inl a2), (3, .inl a3), (4, .inl a4), (5, .inl a5), (6, .inl v6_2), (7, .inl v7_2)], [], sh, gc_h sh I J A)
          exact gv_vret hD rfl ⟨I, J, rfl, hI, FI, FJ, ⟨rfl, x0, (fun k => Int.le_refl _)⟩⟩
      refine gv_run 2 true hD (pc' := 27) (lv' := [(0, .inr (.inr (some 74))), (1, .inl a1), (2, .inl a2), (3, .inl a3), (4, .inl a4), (5, .inl a5), (6, .inl v6_2), (7, .inl v7_2)]) (st' := [.inl v6_2, .inl v7_2]) (h' := gc_h sh I J A) (C := ((True ∧ True) ∧ True)) rfl ⟨⟨trivial, trivial⟩, trivial⟩ ?_
      refine gv_icmp_le (t := 49) hD rfl rfl ⟨⟨by exact gz_m 154 (by omega), by exact gz_m 155 (by omega)⟩, ⟨by exact gz_m 156 (by omega), by exact gz_m 157 (by omega)⟩⟩ (fun c72 => ?_) (fun c72 => ?_)
      · show gv_X _ _ (49, [(0, .inr (.inr (some 74))), (1, .inl a1), (2, .inl a2), (3, .inl a3), (4, .inl a4), (5, .inl a5), (6, .inl v6_2), (7, .inl v7_2)], [], sh, gc_h sh I J A)
        exact L49 (by exact gz_m 158 (by omega))
      · show gv_X _ _ (30, [(0, .inr (.inr (some 74))), (1, .inl a1), (2, .inl a2), (3, .inl a3), (4, .inl a4), (5, .inl a5), (6, .inl v6_2), (7, .inl v7_2)], [], sh, gc_h sh I J A)
        refine gv_run 1 true hD (pc' := 31) (lv' := [(0, .inr (.inr (some 74))), (1, .inl a1), (2, .inl a2), (3, .inl a3), (4, .inl a4), (5, .inl a5), (6, .inl v6_2), (7, .inl v7_2)]) (st' := [.inr (.inr (some 74))]) (h' := gc_h sh I J A) (C := (True ∧ True)) rfl ⟨trivial, trivial⟩ ?_
        refine gv_get hD rfl rfl S_74 ⟨by decide, B_74⟩ (gc_hA S_74 rfl A_74_4) ?_
        show gv_X _ _ (34, [(0, .inr (.inr (some 74))), (1, .inl a1), (2, .inl a2), (3, .inl a3), (4, .inl a4), (5, .inl a5), (6, .inl v6_2), (7, .inl v7_2)], [.inr (.inr (some 77))], sh, gc_h sh I J A)
        refine gv_run 3 true hD (pc' := 38) (lv' := [(0, .inr (.inr (some 74))), (1, .inl a1), (2, .inl a2), (3, .inl a3), (4, .inl a4), (5, .inl a5), (6, .inl v6_2), (7, .inl v7_2)]) (st' := [.inl (v7_2 - 1), .inr (.inr (some 77))]) (h' := gc_h sh I J A) (C := (((True ∧ True) ∧ True) ∧ True)) rfl ⟨⟨⟨trivial, trivial⟩, trivial⟩, trivial⟩ ?_
        have f73 := (show (-2147483648) ≤ I 77 (Int.toNat (v7_2 - 1)) ∧ I 77 (Int.toNat (v7_2 - 1)) ≤ 2147483647 from gc_in hI R_77 rfl rfl)
        refine gv_iald hD rfl S_77 rfl ⟨by decide, B_77⟩ ⟨by exact gz_m 159 (by omega), by exact gz_m 160 (by omega)⟩ (gc_iI S_77 rfl) ?_
        show gv_X _ _ (39, [(0, .inr (.inr (some 74))), (1, .inl a1), (2, .inl a2), (3, .inl a3), (4, .inl a4), (5, .inl a5), (6, .inl v6_2), (7, .inl v7_2)], [.inl (I 77 (Int.toNat (v7_2 - 1)))], sh, gc_h sh I J A)
        refine gv_run 1 true hD (pc' := 40) (lv' := [(0, .inr (.inr (some 74))), (1, .inl a1), (2, .inl a2), (3, .inl a3), (4, .inl a4), (5, .inl a5), (6, .inl v6_2), (7, .inl v7_2)]) (st' := [.inl a2, .inl (I 77 (Int.toNat (v7_2 - 1)))]) (h' := gc_h sh I J A) (C := (True ∧ True)) rfl ⟨trivial, trivial⟩ ?_
        refine gv_icmp_le (t := 49) hD rfl rfl ⟨⟨by exact gz_m 161 (by omega), by exact gz_m 162 (by omega)⟩, ⟨by exact gz_m 163 (by omega), by exact gz_m 164 (by omega)⟩⟩ (fun c74 => ?_) (fun c74 => ?_)
        · show gv_X _ _ (49, [(0, .inr (.inr (some 74))), (1, .inl a1), (2, .inl a2), (3, .inl a3), (4, .inl a4), (5, .inl a5), (6, .inl v6_2), (7, .inl v7_2)], [], sh, gc_h sh I J A)
          exact L49 (by exact gz_m 165 (by omega))
        · show gv_X _ _ (43, [(0, .inr (.inr (some 74))), (1, .inl a1), (2, .inl a2), (3, .inl a3), (4, .inl a4), (5, .inl a5), (6, .inl v6_2), (7, .inl v7_2)], [], sh, gc_h sh I J A)
          refine gv_run 2 true hD (pc' := 23) (lv' := [(7, .inl (v7_2 + (-1))), (0, .inr (.inr (some 74))), (1, .inl a1), (2, .inl a2), (3, .inl a3), (4, .inl a4), (5, .inl a5), (6, .inl v6_2)]) (st' := []) (h' := gc_h sh I J A) (C := ((True ∧ True) ∧ True)) rfl ⟨⟨trivial, trivial⟩, trivial⟩ ?_
          refine gv_pick [1, 2, 3, 4, 5, 6, 7, 0] rfl ?_
          exact ih23 v6_2 ((v7_2 + (-1))) (by exact gz_m 166 (by omega)) (by exact gz_m 167 (by omega))
  refine gv_run 1 true hD (pc' := 1) (lv' := [(0, .inr (.inr (some 74))), (1, .inl a1), (2, .inl a2), (3, .inl a3), (4, .inl a4), (5, .inl a5)]) (st' := [.inr (.inr (some 74))]) (h' := gc_h sh I J A) (C := (True ∧ True)) rfl ⟨trivial, trivial⟩ ?_
  have f75 := (show (-1) ≤ I 74 9 ∧ I 74 9 ≤ 59 from gc_in hI R_74 rfl rfl)
  refine gv_get hD rfl rfl S_74 ⟨by decide, B_74⟩ (gc_hI S_74 rfl) ?_
  show gv_X _ _ (4, [(0, .inr (.inr (some 74))), (1, .inl a1), (2, .inl a2), (3, .inl a3), (4, .inl a4), (5, .inl a5)], [.inl (I 74 9)], sh, gc_h sh I J A)
  refine gv_run 5 true hD (pc' := 12) (lv' := [(6, .inl ((I 74 9) * 24)), (0, .inr (.inr (some 74))), (1, .inl a1), (2, .inl a2), (3, .inl a3), (4, .inl a4), (5, .inl a5)]) (st' := [.inr (.inr (some 74)), .inl ((I 74 9) * 24)]) (h' := gc_h sh I J A) (C := (((((True ∧ True) ∧ True) ∧ True) ∧ True) ∧ True)) rfl ⟨⟨⟨⟨⟨trivial, trivial⟩, trivial⟩, trivial⟩, trivial⟩, trivial⟩ ?_
  refine gv_get hD rfl rfl S_74 ⟨by decide, B_74⟩ (gc_hA S_74 rfl A_74_3) ?_
  show gv_X _ _ (15, [(6, .inl ((I 74 9) * 24)), (0, .inr (.inr (some 74))), (1, .inl a1), (2, .inl a2), (3, .inl a3), (4, .inl a4), (5, .inl a5)], [.inr (.inr (some 76)), .inl ((I 74 9) * 24)], sh, gc_h sh I J A)
  refine gv_run 1 true hD (pc' := 16) (lv' := [(6, .inl ((I 74 9) * 24)), (0, .inr (.inr (some 74))), (1, .inl a1), (2, .inl a2), (3, .inl a3), (4, .inl a4), (5, .inl a5)]) (st' := [.inr (.inr (some 74)), .inr (.inr (some 76)), .inl ((I 74 9) * 24)]) (h' := gc_h sh I J A) (C := (True ∧ True)) rfl ⟨trivial, trivial⟩ ?_
  have f76 := (show (-1) ≤ I 74 9 ∧ I 74 9 ≤ 59 from gc_in hI R_74 rfl rfl)
  refine gv_get hD rfl rfl S_74 ⟨by decide, B_74⟩ (gc_hI S_74 rfl) ?_
  show gv_X _ _ (19, [(6, .inl ((I 74 9) * 24)), (0, .inr (.inr (some 74))), (1, .inl a1), (2, .inl a2), (3, .inl a3), (4, .inl a4), (5, .inl a5)], [.inl (I 74 9), .inr (.inr (some 76)), .inl ((I 74 9) * 24)], sh, gc_h sh I J A)
  have f77 := (show 0 ≤ I 76 (Int.toNat (I 74 9)) ∧ I 76 (Int.toNat (I 74 9)) ≤ 24 from gc_in hI R_76 rfl rfl)
  refine gv_iald hD rfl S_76 rfl ⟨by decide, B_76⟩ ⟨by exact gz_m 168 (by omega), by exact gz_m 169 (by omega)⟩ (gc_iI S_76 rfl) ?_
  show gv_X _ _ (20, [(6, .inl ((I 74 9) * 24)), (0, .inr (.inr (some 74))), (1, .inl a1), (2, .inl a2), (3, .inl a3), (4, .inl a4), (5, .inl a5)], [.inl (I 76 (Int.toNat (I 74 9))), .inl ((I 74 9) * 24)], sh, gc_h sh I J A)
  refine gv_run 2 true hD (pc' := 23) (lv' := [(7, .inl (((I 74 9) * 24) + (I 76 (Int.toNat (I 74 9))))), (6, .inl ((I 74 9) * 24)), (0, .inr (.inr (some 74))), (1, .inl a1), (2, .inl a2), (3, .inl a3), (4, .inl a4), (5, .inl a5)]) (st' := []) (h' := gc_h sh I J A) (C := ((True ∧ True) ∧ True)) rfl ⟨⟨trivial, trivial⟩, trivial⟩ ?_
  refine gv_pick [2, 3, 4, 5, 6, 7, 1, 0] rfl ?_
  exact L23 _ (((I 74 9) * 24)) ((((I 74 9) * 24) + (I 76 (Int.toNat (I 74 9))))) (Nat.lt_succ_self _) (by exact gz_m 170 (by omega))
