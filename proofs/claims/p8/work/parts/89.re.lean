def gc_le (I : gr_I) (e : Int) : Prop := 0 ≤ e ∧ e < 48000 ∧ e / 16 < I 48 3 ∧ e % 16 < I 67 (Int.toNat (e / 16))
theorem gc_le_fr {I I' : gr_I} {e : Int} (h : gc_le I e) (h3 : I' 48 3 = I 48 3) (r : ∀ k, I' 67 k = I 67 k) : gc_le I' e := by
  unfold gc_le at h ⊢
  rw [h3, r]
  exact h
def gc_TH (o : Int) (I : gr_I) : Prop := ∀ i : Nat, ¬ (i : Int) = o → (i : Int) < I 61 15 → gc_le I (I 72 i)
theorem gc_TH_fr {o : Int} {I I' : gr_I} (h : gc_TH o I) (h5 : I' 61 15 = I 61 15) (h3 : I' 48 3 = I 48 3) (r7 : ∀ k, I' 67 k = I 67 k) (r2 : ∀ k, I' 72 k = I 72 k) : gc_TH o I' := fun i h1 h2 => by rw [r2]; exact gc_le_fr (h i h1 (by omega)) h3 r7
theorem gc_TH_any {o : Int} {I : gr_I} (h : gc_TH (-1) I) : gc_TH o I := fun i _ h2 => h i (by omega) h2
theorem gc_TH_0 {o : Int} {I : gr_I} (h : I 61 15 ≤ 0) : gc_TH o I := fun i _ h2 => by omega
theorem gc_TH_gr {I I' : gr_I} {o : Int} (h : gc_TH (-1) I) (p : ∀ q j, ¬ (q = 61 ∧ j = 15) → I' q j = I q j) (e : I' 61 15 = I 61 15 + 1) (ho : o = I 61 15) : gc_TH o I' := fun i h1 h2 => by
  rw [p 72 i (fun h9 => absurd h9.1 (by decide))]
  exact gc_le_fr (h i (by omega) (by omega)) (p 48 3 (fun h9 => absurd h9.1 (by decide))) (fun k => p 67 k (fun h9 => absurd h9.1 (by decide)))
set_option maxHeartbeats 8000000 in
theorem gc_TH_mv {o : Int} {I I' : gr_I} (h : gc_TH o I) (h5 : I' 61 15 = I 61 15) (h3 : I' 48 3 = I 48 3) (r7 : ∀ k, I' 67 k = I 67 k) (r2 : ∀ k, ¬ k = Int.toNat o → I' 72 k = I 72 k) (z : I' 72 (Int.toNat o) = I 72 (Int.toNat (o - 1))) (ho : 1 ≤ o ∧ o ≤ I 61 15) : gc_TH (o + (-1)) I' := fun i h1 h2 => by
  by_cases e : i = Int.toNat o
  · rw [e, z]
    exact gc_le_fr (h (Int.toNat (o - 1)) (by exact gz_m 0 (by omega)) (by exact gz_m 1 (by omega))) h3 r7
  · rw [r2 i e]
    exact gc_le_fr (h i (by exact gz_m 2 (by omega)) (by exact gz_m 3 (by omega))) h3 r7
theorem gc_TH_pt {o : Int} {I I' : gr_I} (h : gc_TH o I) (h5 : I' 61 15 = I 61 15) (h3 : I' 48 3 = I 48 3) (r7 : ∀ k, I' 67 k = I 67 k) (r2 : ∀ k, ¬ k = Int.toNat o → I' 72 k = I 72 k) (h0 : 0 ≤ o) (z : gc_le I' (I' 72 (Int.toNat o))) : gc_TH (-1) I' := fun i h1 h2 => by
  by_cases e : i = Int.toNat o
  · rw [e]; exact z
  · rw [r2 i e]
    exact gc_le_fr (h i (by omega) (by omega)) h3 r7
set_option maxHeartbeats 8000000 in
set_option maxRecDepth 100000 in
theorem d_X5_putTop_w {ws0 : List Cond} {tb : String → gz_T} (hws : gc_Ws ws0) (htb : gc_tbs tb) (sh : gz_Sh) (ro : Nat → Nat) (I : gr_I) (J : gr_J) (A : gc_A) (hI : gc_Inv ro I) (a1 : Int) (hb : gc_Base sh ro A) (ha1 : 0 ≤ a1 ∧ a1 ≤ 47999) (x0 : gc_TH (-1) I) (x1 : gc_le I a1) : ∃ r h', gz_Ev ws0 tb 2 (yX5_putTop, cX5_putTop, 4, none) [.inr (.inr (some 61)), .inl a1] sh (gc_h sh I J A) r sh h' 0 0 ∧ (∃ (I' : gr_I) (J' : gr_J), h' = gc_h sh I' J' A ∧ gc_Inv ro I' ∧ (∀ q j : Nat, ((q = 61 ∧ j = 15) ∨ q = 71 ∨ q = 72) ∨ I' q j = I q j) ∧ (∀ q j : Nat, (False) ∨ J' q j = J q j) ∧ r = none ∧ (gc_TH (-1) I')) := by
  have FI : ∀ q j : Nat, ((q = 61 ∧ j = 15) ∨ q = 71 ∨ q = 72) ∨ I q j = I q j := fun _ _ => Or.inr rfl
  have FJ : ∀ q j : Nat, (False) ∨ J q j = J q j := fun _ _ => Or.inr rfl
  have A_61_12 : A 61 12 = some 68 := gc_bA hb rfl
  have A_61_16 : A 61 16 = some 71 := gc_bA hb rfl
  have A_61_17 : A 61 17 = some 72 := gc_bA hb rfl
  have B_61 : 61 < 1000000 := by decide
  have B_68 : 68 < 1000000 := by decide
  have B_71 : 71 < 1000000 := by decide
  have B_72 : 72 < 1000000 := by decide
  have R_61 : ro 61 = 72 := gc_bR hb (by decide) rfl
  have R_68 : ro 68 = 0 := gc_bR hb (by decide) rfl
  have R_71 : ro 71 = 0 := gc_bR hb (by decide) rfl
  have R_72 : ro 72 = 54 := gc_bR hb (by decide) rfl
  have S_61 : sh[61]? = some (false, 5, 19) := gc_bS hb rfl
  have S_68 : sh[68]? = some (true, 1, 48000) := gc_bS hb rfl
  have S_71 : sh[71]? = some (true, 1, 16) := gc_bS hb rfl
  have S_72 : sh[72]? = some (true, 1, 16) := gc_bS hb rfl
  have hD : gv_D (gc_E5 ws0 tb 1 (yX5_putTop, cX5_putTop, 4, none) kX5_putTop) := gq_of oX5_putTop
  refine gc_ev5 (d := 1) (l := kX5_putTop) (Po := fun r h' => (∃ (I' : gr_I) (J' : gr_J), h' = gc_h sh I' J' A ∧ gc_Inv ro I' ∧ (∀ q j : Nat, ((q = 61 ∧ j = 15) ∨ q = 71 ∨ q = 72) ∨ I' q j = I q j) ∧ (∀ q j : Nat, (False) ∨ J' q j = J q j) ∧ r = none ∧ (gc_TH (-1) I'))) htb rfl (Nat.le_of_ble_eq_true rfl) ?_
  have f1 := (show 0 ≤ I 61 15 ∧ I 61 15 ≤ 16 from gc_in hI R_61 rfl rfl)
  have L5 : ∀ (n9 : Nat) (v2_2 : Int), (v2_2 - (-1)).toNat < n9 → ((0 ≤ a1 ∧ a1 ≤ 47999) ∧ (0 ≤ v2_2 ∧ v2_2 ≤ 16) ∧ (v2_2 ≤ I 61 15)) → gv_X (gc_E5 ws0 tb 1 (yX5_putTop, cX5_putTop, 4, none) kX5_putTop) (gv_Q cX5_putTop none sh (fun r h' => (∃ (I' : gr_I) (J' : gr_J), h' = gc_h sh I' J' A ∧ gc_Inv ro I' ∧ (∀ q j : Nat, ((q = 61 ∧ j = 15) ∨ q = 71 ∨ q = 72) ∨ I' q j = I q j) ∧ (∀ q j : Nat, (False) ∨ J' q j = J q j) ∧ r = none ∧ (gc_TH (-1) I')))) (5, [(0, .inr (.inr (some 61))), (1, .inl a1), (2, .inl v2_2)], [], sh, gc_h sh I J A) := by
    intro n9
    induction n9 with
    | zero => intro v2_2 hn; exact gz_m 0 (by omega)
    | succ n9 ih5 =>
      intro v2_2 hn m_2
      obtain ⟨ha1_2, hv2_2, e0_2⟩ := m_2
      have f3 := (show 0 ≤ I 61 15 ∧ I 61 15 ≤ 16 from gc_in hI R_61 rfl rfl)
      have L31 : ((0 ≤ a1 ∧ a1 ≤ 47999) ∧ (0 ≤ v2_2 ∧ v2_2 ≤ 16) ∧ (v2_2 ≤ I 61 15)) → gv_X (gc_E5 ws0 tb 1 (yX5_putTop, cX5_putTop, 4, none) kX5_putTop) (gv_Q cX5_putTop none sh (fun r h' => (∃ (I' : gr_I) (J' : gr_J), h' = gc_h sh I' J' A ∧ gc_Inv ro I' ∧ (∀ q j : Nat, ((q = 61 ∧ j = 15) ∨ q = 71 ∨ q = 72) ∨ I' q j = I q j) ∧ (∀ q j : Nat, (False) ∨ J' q j = J q j) ∧ r = none ∧ (gc_TH (-1) I')))) (31, [(0, .inr (.inr (some 61))), (1, .inl a1), (2, .inl v2_2)], [], sh, gc_h sh I J A) := by
        intro m_4
        obtain ⟨ha1_4, hv2_2_4, e0_4⟩ := m_4
        have f5 := (show 0 ≤ I 61 15 ∧ I 61 15 ≤ 16 from gc_in hI R_61 rfl rfl)
        have L57 : ∀ (I6 : gr_I) (J7 : gr_J) , gc_Inv ro I6 → (∀ q j : Nat, ((q = 61 ∧ j = 15) ∨ q = 71 ∨ q = 72) ∨ I6 q j = I q j) → (∀ q j : Nat, (False) ∨ J7 q j = J q j) → ((0 ≤ a1 ∧ a1 ≤ 47999) ∧ (0 ≤ v2_2 ∧ v2_2 ≤ 15) ∧ (v2_2 + 1 ≤ I6 61 15) ∧ (v2_2 ≤ 15)) → (gc_TH (I6 61 15 - 1) I6) → gv_X (gc_E5 ws0 tb 1 (yX5_putTop, cX5_putTop, 4, none) kX5_putTop) (gv_Q cX5_putTop none sh (fun r h' => (∃ (I' : gr_I) (J' : gr_J), h' = gc_h sh I' J' A ∧ gc_Inv ro I' ∧ (∀ q j : Nat, ((q = 61 ∧ j = 15) ∨ q = 71 ∨ q = 72) ∨ I' q j = I q j) ∧ (∀ q j : Nat, (False) ∨ J' q j = J q j) ∧ r = none ∧ (gc_TH (-1) I')))) (57, [(0, .inr (.inr (some 61))), (1, .inl a1), (2, .inl v2_2)], [], sh, gc_h sh I6 J7 A) := by
          intro I6 J7 hI6 FI6 FJ7 m_8 e0_8
          clear ha1_4 hv2_2_4 e0_4 f5 ha1_2 hv2_2 e0_2 f3
          obtain ⟨ha1_8, hv2_2_8, e1_8, e2_8⟩ := m_8
          have f9 := (show 0 ≤ I6 61 15 ∧ I6 61 15 ≤ 16 from gc_in hI6 R_61 rfl rfl)
          have L64 : ∀ (n9 : Nat) (I10 : gr_I) (J11 : gr_J) (v3_12 : Int), (v3_12 - (-1)).toNat < n9 → gc_Inv ro I10 → (∀ q j : Nat, ((q = 61 ∧ j = 15) ∨ q = 71 ∨ q = 72) ∨ I10 q j = I q j) → (∀ q j : Nat, (False) ∨ J11 q j = J q j) → ((0 ≤ a1 ∧ a1 ≤ 47999) ∧ (0 ≤ v2_2 ∧ v2_2 ≤ 15) ∧ (0 ≤ v3_12 ∧ v3_12 ≤ 15) ∧ (v2_2 ≤ 15) ∧ (v2_2 ≤ v3_12) ∧ (v3_12 < I10 61 15)) → (gc_TH v3_12 I10) → gv_X (gc_E5 ws0 tb 1 (yX5_putTop, cX5_putTop, 4, none) kX5_putTop) (gv_Q cX5_putTop none sh (fun r h' => (∃ (I' : gr_I) (J' : gr_J), h' = gc_h sh I' J' A ∧ gc_Inv ro I' ∧ (∀ q j : Nat, ((q = 61 ∧ j = 15) ∨ q = 71 ∨ q = 72) ∨ I' q j = I q j) ∧ (∀ q j : Nat, (False) ∨ J' q j = J q j) ∧ r = none ∧ (gc_TH (-1) I')))) (64, [(0, .inr (.inr (some 61))), (1, .inl a1), (2, .inl v2_2), (3, .inl v3_12)], [], sh, gc_h sh I10 J11 A) := by
            intro n9
            induction n9 with
            | zero => intro I10 J11 v3_12 hn; exact gz_m 1 (by omega)
            | succ n9 ih64 =>
              intro I10 J11 v3_12 hn hI10 FI10 FJ11 m_12 e0_12
              clear ha1_8 hv2_2_8 e1_8 e2_8 f9
              obtain ⟨ha1_12, hv2_2_12, hv3_12, e1_12, e2_12, e3_12⟩ := m_12
              have f13 := (show 0 ≤ I10 61 15 ∧ I10 61 15 ≤ 16 from gc_in hI10 R_61 rfl rfl)
              refine gv_run 2 true hD (pc' := 66) (lv' := [(0, .inr (.inr (some 61))), (1, .inl a1), (2, .inl v2_2), (3, .inl v3_12)]) (st' := [.inl v2_2, .inl v3_12]) (h' := gc_h sh I10 J11 A) (C := ((True ∧ True) ∧ True)) rfl ⟨⟨trivial, trivial⟩, trivial⟩ ?_
              refine gv_icmp_le (t := 103) hD rfl rfl ⟨⟨by exact gz_m 2 (by omega), by exact gz_m 3 (by omega)⟩, ⟨by exact gz_m 4 (by omega), by exact gz_m 5 (by omega)⟩⟩ (fun c14 => ?_) (fun c14 => ?_)
              · show gv_X _ _ (103, [(0, .inr (.inr (some 61))), (1, .inl a1), (2, .inl v2_2), (3, .inl v3_12)], [], sh, gc_h sh I10 J11 A)
                refine gv_run 1 true hD (pc' := 104) (lv' := [(0, .inr (.inr (some 61))), (1, .inl a1), (2, .inl v2_2), (3, .inl v3_12)]) (st' := [.inr (.inr (some 61))]) (h' := gc_h sh I10 J11 A) (C := (True ∧ True)) rfl ⟨trivial, trivial⟩ ?_
                refine gv_get hD rfl rfl S_61 ⟨by decide, B_61⟩ (gc_hA S_61 rfl A_61_16) ?_
                show gv_X _ _ (107, [(0, .inr (.inr (some 61))), (1, .inl a1), (2, .inl v2_2), (3, .inl v3_12)], [.inr (.inr (some 71))], sh, gc_h sh I10 J11 A)
                refine gv_run 2 true hD (pc' := 109) (lv' := [(0, .inr (.inr (some 61))), (1, .inl a1), (2, .inl v2_2), (3, .inl v3_12)]) (st' := [.inr (.inr (some 61)), .inl v2_2, .inr (.inr (some 71))]) (h' := gc_h sh I10 J11 A) (C := ((True ∧ True) ∧ True)) rfl ⟨⟨trivial, trivial⟩, trivial⟩ ?_
                refine gv_get hD rfl rfl S_61 ⟨by decide, B_61⟩ (gc_hA S_61 rfl A_61_12) ?_
                show gv_X _ _ (112, [(0, .inr (.inr (some 61))), (1, .inl a1), (2, .inl v2_2), (3, .inl v3_12)], [.inr (.inr (some 68)), .inl v2_2, .inr (.inr (some 71))], sh, gc_h sh I10 J11 A)
                refine gv_run 1 true hD (pc' := 113) (lv' := [(0, .inr (.inr (some 61))), (1, .inl a1), (2, .inl v2_2), (3, .inl v3_12)]) (st' := [.inl a1, .inr (.inr (some 68)), .inl v2_2, .inr (.inr (some 71))]) (h' := gc_h sh I10 J11 A) (C := (True ∧ True)) rfl ⟨trivial, trivial⟩ ?_
                have f15 := (show (-2147483648) ≤ I10 68 (Int.toNat a1) ∧ I10 68 (Int.toNat a1) ≤ 2147483647 from gc_in hI10 R_68 rfl rfl)
                refine gv_iald hD rfl S_68 rfl ⟨by decide, B_68⟩ ⟨by exact gz_m 6 (by omega), by exact gz_m 7 (by omega)⟩ (gc_iI S_68 rfl) ?_
                show gv_X _ _ (114, [(0, .inr (.inr (some 61))), (1, .inl a1), (2, .inl v2_2), (3, .inl v3_12)], [.inl (I10 68 (Int.toNat a1)), .inl v2_2, .inr (.inr (some 71))], sh, gc_h sh I10 J11 A)
                refine gv_iast hD rfl S_71 ⟨by decide, B_71⟩ ⟨by exact gz_m 8 (by omega), by exact gz_m 9 (by omega)⟩ ?_
                refine gc_st hI10 S_71 rfl R_71 (lo := (-2147483648)) (hi := 2147483647) rfl rfl (by exact gz_m 10 (by omega)) (by exact gz_m 11 (by omega)) (fun I16 hI16 q17 p17 => ?_)
                have FI16 := gc_frs (W := fun q j => (q = 61 ∧ j = 15) ∨ q = 71 ∨ q = 72) FI10 (Or.inr (Or.inl rfl)) p17
                have t18 := p17 61 15 (fun h => absurd h.1 (by decide))
                show gv_X _ _ (115, [(0, .inr (.inr (some 61))), (1, .inl a1), (2, .inl v2_2), (3, .inl v3_12)], [], sh, gc_h sh I16 J11 A)
                refine gv_run 1 true hD (pc' := 116) (lv' := [(0, .inr (.inr (some 61))), (1, .inl a1), (2, .inl v2_2), (3, .inl v3_12)]) (st' := [.inr (.inr (some 61))]) (h' := gc_h sh I16 J11 A) (C := (True ∧ True)) rfl ⟨trivial, trivial⟩ ?_
                refine gv_get hD rfl rfl S_61 ⟨by decide, B_61⟩ (gc_hA S_61 rfl A_61_17) ?_
                show gv_X _ _ (119, [(0, .inr (.inr (some 61))), (1, .inl a1), (2, .inl v2_2), (3, .inl v3_12)], [.inr (.inr (some 72))], sh, gc_h sh I16 J11 A)
                refine gv_run 2 true hD (pc' := 121) (lv' := [(0, .inr (.inr (some 61))), (1, .inl a1), (2, .inl v2_2), (3, .inl v3_12)]) (st' := [.inl a1, .inl v2_2, .inr (.inr (some 72))]) (h' := gc_h sh I16 J11 A) (C := ((True ∧ True) ∧ True)) rfl ⟨⟨trivial, trivial⟩, trivial⟩ ?_
                refine gv_iast hD rfl S_72 ⟨by decide, B_72⟩ ⟨by exact gz_m 12 (by omega), by exact gz_m 13 (by omega)⟩ ?_
                refine gc_st hI16 S_72 rfl R_72 (lo := 0) (hi := 47999) rfl rfl (by exact gz_m 14 (by omega)) (by exact gz_m 15 (by omega)) (fun I19 hI19 q20 p20 => ?_)
                have FI19 := gc_frs (W := fun q j => (q = 61 ∧ j = 15) ∨ q = 71 ∨ q = 72) FI16 (Or.inr (Or.inr rfl)) p20
                have t21 := p20 61 15 (fun h => absurd h.1 (by decide))
                show gv_X _ _ (122, [(0, .inr (.inr (some 61))), (1, .inl a1), (2, .inl v2_2), (3, .inl v3_12)], [], sh, gc_h sh I19 J11 A)
                exact gv_vret hD rfl ⟨I19, J11, rfl, hI19, FI19, FJ11, ⟨rfl, (gc_TH_pt (o := v2_2) (by rw [show v2_2 = v3_12 from by exact gz_m 16 (by omega)]; exact e0_12) (((p20 61 15 (fun h => absurd h.1 (by exact gz_m 17 (by omega)))).trans (p17 61 15 (fun h => absurd h.1 (by exact gz_m 18 (by omega)))))) (((p20 48 3 (fun h => absurd h.1 (by exact gz_m 19 (by omega)))).trans (p17 48 3 (fun h => absurd h.1 (by exact gz_m 20 (by omega)))))) (fun k => ((p20 67 k (fun h => absurd h.1 (by exact gz_m 21 (by omega)))).trans (p17 67 k (fun h => absurd h.1 (by exact gz_m 22 (by omega)))))) (fun k hk => ((p20 72 k (fun h => by have := h.2; exact gz_m 23 (by omega))).trans (p17 72 k (fun h => absurd h.1 (by exact gz_m 24 (by omega)))))) (by exact gz_m 25 (by omega)) (by rw [q20]; exact gc_le_fr x1 ((FI19 48 3).resolve_left (by exact gz_m 26 (by omega))) (fun k => (FI19 67 k).resolve_left (by exact gz_m 27 (by omega)))))⟩⟩
              · show gv_X _ _ (69, [(0, .inr (.inr (some 61))), (1, .inl a1), (2, .inl v2_2), (3, .inl v3_12)], [], sh, gc_h sh I10 J11 A)
                refine gv_run 1 true hD (pc' := 70) (lv' := [(0, .inr (.inr (some 61))), (1, .inl a1), (2, .inl v2_2), (3, .inl v3_12)]) (st' := [.inr (.inr (some 61))]) (h' := gc_h sh I10 J11 A) (C := (True ∧ True)) rfl ⟨trivial, trivial⟩ ?_
                refine gv_get hD rfl rfl S_61 ⟨by decide, B_61⟩ (gc_hA S_61 rfl A_61_16) ?_
                show gv_X _ _ (73, [(0, .inr (.inr (some 61))), (1, .inl a1), (2, .inl v2_2), (3, .inl v3_12)], [.inr (.inr (some 71))], sh, gc_h sh I10 J11 A)
                refine gv_run 2 true hD (pc' := 75) (lv' := [(0, .inr (.inr (some 61))), (1, .inl a1), (2, .inl v2_2), (3, .inl v3_12)]) (st' := [.inr (.inr (some 61)), .inl v3_12, .inr (.inr (some 71))]) (h' := gc_h sh I10 J11 A) (C := ((True ∧ True) ∧ True)) rfl ⟨⟨trivial, trivial⟩, trivial⟩ ?_
                refine gv_get hD rfl rfl S_61 ⟨by decide, B_61⟩ (gc_hA S_61 rfl A_61_16) ?_
                show gv_X _ _ (78, [(0, .inr (.inr (some 61))), (1, .inl a1), (2, .inl v2_2), (3, .inl v3_12)], [.inr (.inr (some 71)), .inl v3_12, .inr (.inr (some 71))], sh, gc_h sh I10 J11 A)
                refine gv_run 3 true hD (pc' := 81) (lv' := [(0, .inr (.inr (some 61))), (1, .inl a1), (2, .inl v2_2), (3, .inl v3_12)]) (st' := [.inl (v3_12 - 1), .inr (.inr (some 71)), .inl v3_12, .inr (.inr (some 71))]) (h' := gc_h sh I10 J11 A) (C := (((True ∧ True) ∧ True) ∧ True)) rfl ⟨⟨⟨trivial, trivial⟩, trivial⟩, trivial⟩ ?_
                have f22 := (show (-2147483648) ≤ I10 71 (Int.toNat (v3_12 - 1)) ∧ I10 71 (Int.toNat (v3_12 - 1)) ≤ 2147483647 from gc_in hI10 R_71 rfl rfl)
                refine gv_iald hD rfl S_71 rfl ⟨by decide, B_71⟩ ⟨by exact gz_m 28 (by omega), by exact gz_m 29 (by omega)⟩ (gc_iI S_71 rfl) ?_
                show gv_X _ _ (82, [(0, .inr (.inr (some 61))), (1, .inl a1), (2, .inl v2_2), (3, .inl v3_12)], [.inl (I10 71 (Int.toNat (v3_12 - 1))), .inl v3_12, .inr (.inr (some 71))], sh, gc_h sh I10 J11 A)
                refine gv_iast hD rfl S_71 ⟨by decide, B_71⟩ ⟨by exact gz_m 30 (by omega), by exact gz_m 31 (by omega)⟩ ?_
                refine gc_st hI10 S_71 rfl R_71 (lo := (-2147483648)) (hi := 2147483647) rfl rfl (by exact gz_m 32 (by omega)) (by exact gz_m 33 (by omega)) (fun I23 hI23 q24 p24 => ?_)
                have FI23 := gc_frs (W := fun q j => (q = 61 ∧ j = 15) ∨ q = 71 ∨ q = 72) FI10 (Or.inr (Or.inl rfl)) p24
                have t25 := p24 61 15 (fun h => absurd h.1 (by decide))
                show gv_X _ _ (83, [(0, .inr (.inr (some 61))), (1, .inl a1), (2, .inl v2_2), (3, .inl v3_12)], [], sh, gc_h sh I23 J11 A)
                refine gv_run 1 true hD (pc' := 84) (lv' := [(0, .inr (.inr (some 61))), (1, .inl a1), (2, .inl v2_2), (3, .inl v3_12)]) (st' := [.inr (.inr (some 61))]) (h' := gc_h sh I23 J11 A) (C := (True ∧ True)) rfl ⟨trivial, trivial⟩ ?_
                refine gv_get hD rfl rfl S_61 ⟨by decide, B_61⟩ (gc_hA S_61 rfl A_61_17) ?_
                show gv_X _ _ (87, [(0, .inr (.inr (some 61))), (1, .inl a1), (2, .inl v2_2), (3, .inl v3_12)], [.inr (.inr (some 72))], sh, gc_h sh I23 J11 A)
                refine gv_run 2 true hD (pc' := 89) (lv' := [(0, .inr (.inr (some 61))), (1, .inl a1), (2, .inl v2_2), (3, .inl v3_12)]) (st' := [.inr (.inr (some 61)), .inl v3_12, .inr (.inr (some 72))]) (h' := gc_h sh I23 J11 A) (C := ((True ∧ True) ∧ True)) rfl ⟨⟨trivial, trivial⟩, trivial⟩ ?_
                refine gv_get hD rfl rfl S_61 ⟨by decide, B_61⟩ (gc_hA S_61 rfl A_61_17) ?_
                show gv_X _ _ (92, [(0, .inr (.inr (some 61))), (1, .inl a1), (2, .inl v2_2), (3, .inl v3_12)], [.inr (.inr (some 72)), .inl v3_12, .inr (.inr (some 72))], sh, gc_h sh I23 J11 A)
                refine gv_run 3 true hD (pc' := 95) (lv' := [(0, .inr (.inr (some 61))), (1, .inl a1), (2, .inl v2_2), (3, .inl v3_12)]) (st' := [.inl (v3_12 - 1), .inr (.inr (some 72)), .inl v3_12, .inr (.inr (some 72))]) (h' := gc_h sh I23 J11 A) (C := (((True ∧ True) ∧ True) ∧ True)) rfl ⟨⟨⟨trivial, trivial⟩, trivial⟩, trivial⟩ ?_
                have f26 := (show 0 ≤ I23 72 (Int.toNat (v3_12 - 1)) ∧ I23 72 (Int.toNat (v3_12 - 1)) ≤ 47999 from gc_in hI23 R_72 rfl rfl)
                refine gv_iald hD rfl S_72 rfl ⟨by decide, B_72⟩ ⟨by exact gz_m 34 (by omega), by exact gz_m 35 (by omega)⟩ (gc_iI S_72 rfl) ?_
                show gv_X _ _ (96, [(0, .inr (.inr (some 61))), (1, .inl a1), (2, .inl v2_2), (3, .inl v3_12)], [.inl (I23 72 (Int.toNat (v3_12 - 1))), .inl v3_12, .inr (.inr (some 72))], sh, gc_h sh I23 J11 A)
                refine gv_iast hD rfl S_72 ⟨by decide, B_72⟩ ⟨by exact gz_m 36 (by omega), by exact gz_m 37 (by omega)⟩ ?_
                refine gc_st hI23 S_72 rfl R_72 (lo := 0) (hi := 47999) rfl rfl (by exact gz_m 38 (by omega)) (by exact gz_m 39 (by omega)) (fun I27 hI27 q28 p28 => ?_)
                have FI27 := gc_frs (W := fun q j => (q = 61 ∧ j = 15) ∨ q = 71 ∨ q = 72) FI23 (Or.inr (Or.inr rfl)) p28
                have t29 := p28 61 15 (fun h => absurd h.1 (by decide))
                show gv_X _ _ (97, [(0, .inr (.inr (some 61))), (1, .inl a1), (2, .inl v2_2), (3, .inl v3_12)], [], sh, gc_h sh I27 J11 A)
                refine gv_run 2 true hD (pc' := 64) (lv' := [(3, .inl (v3_12 + (-1))), (0, .inr (.inr (some 61))), (1, .inl a1), (2, .inl v2_2)]) (st' := []) (h' := gc_h sh I27 J11 A) (C := ((True ∧ True) ∧ True)) rfl ⟨⟨trivial, trivial⟩, trivial⟩ ?_
                refine gv_pick [1, 2, 3, 0] rfl ?_
                exact ih64 I27 J11 ((v3_12 + (-1))) (by exact gz_m 40 (by omega)) hI27 FI27 FJ11 (by exact gz_m 41 (by omega)) (gc_TH_mv e0_12 (((p28 61 15 (fun h => absurd h.1 (by exact gz_m 42 (by omega)))).trans (p24 61 15 (fun h => absurd h.1 (by exact gz_m 43 (by omega)))))) (((p28 48 3 (fun h => absurd h.1 (by exact gz_m 44 (by omega)))).trans (p24 48 3 (fun h => absurd h.1 (by exact gz_m 45 (by omega)))))) (fun k => ((p28 67 k (fun h => absurd h.1 (by exact gz_m 46 (by omega)))).trans (p24 67 k (fun h => absurd h.1 (by exact gz_m 47 (by omega)))))) (fun k hk => ((p28 72 k (fun h => by have := h.2; exact gz_m 48 (by omega))).trans (p24 72 k (fun h => absurd h.1 (by exact gz_m 49 (by omega)))))) (by have h9 := q28; rw [h9]; exact (p24 72 (Int.toNat (v3_12 - 1)) (fun h => absurd h.1 (by exact gz_m 50 (by omega))))) (by exact gz_m 51 (by omega)))
          refine gv_run 1 true hD (pc' := 58) (lv' := [(0, .inr (.inr (some 61))), (1, .inl a1), (2, .inl v2_2)]) (st' := [.inr (.inr (some 61))]) (h' := gc_h sh I6 J7 A) (C := (True ∧ True)) rfl ⟨trivial, trivial⟩ ?_
          have f30 := (show 0 ≤ I6 61 15 ∧ I6 61 15 ≤ 16 from gc_in hI6 R_61 rfl rfl)
          refine gv_get hD rfl rfl S_61 ⟨by decide, B_61⟩ (gc_hI S_61 rfl) ?_
          show gv_X _ _ (61, [(0, .inr (.inr (some 61))), (1, .inl a1), (2, .inl v2_2)], [.inl (I6 61 15)], sh, gc_h sh I6 J7 A)
          refine gv_run 3 true hD (pc' := 64) (lv' := [(3, .inl ((I6 61 15) - 1)), (0, .inr (.inr (some 61))), (1, .inl a1), (2, .inl v2_2)]) (st' := []) (h' := gc_h sh I6 J7 A) (C := (((True ∧ True) ∧ True) ∧ True)) rfl ⟨⟨⟨trivial, trivial⟩, trivial⟩, trivial⟩ ?_
          refine gv_pick [1, 2, 3, 0] rfl ?_
          exact L64 _ I6 J7 (((I6 61 15) - 1)) (Nat.lt_succ_self _) hI6 FI6 FJ7 (by exact gz_m 52 (by omega)) e0_8
        refine gv_run 2 true hD (pc' := 34) (lv' := [(0, .inr (.inr (some 61))), (1, .inl a1), (2, .inl v2_2)]) (st' := [.inl 16, .inl v2_2]) (h' := gc_h sh I J A) (C := ((True ∧ True) ∧ True)) rfl ⟨⟨trivial, trivial⟩, trivial⟩ ?_
        refine gv_icmp_lt (t := 38) hD rfl rfl ⟨⟨by exact gz_m 53 (by omega), by exact gz_m 54 (by omega)⟩, ⟨by exact gz_m 55 (by omega), by exact gz_m 56 (by omega)⟩⟩ (fun c31 => ?_) (fun c31 => ?_)
        · show gv_X _ _ (38, [(0, .inr (.inr (some 61))), (1, .inl a1), (2, .inl v2_2)], [], sh, gc_h sh I J A)
          refine gv_run 1 true hD (pc' := 39) (lv' := [(0, .inr (.inr (some 61))), (1, .inl a1), (2, .inl v2_2)]) (st' := [.inr (.inr (some 61))]) (h' := gc_h sh I J A) (C := (True ∧ True)) rfl ⟨trivial, trivial⟩ ?_
          have f32 := (show 0 ≤ I 61 15 ∧ I 61 15 ≤ 16 from gc_in hI R_61 rfl rfl)
          refine gv_get hD rfl rfl S_61 ⟨by decide, B_61⟩ (gc_hI S_61 rfl) ?_
          show gv_X _ _ (42, [(0, .inr (.inr (some 61))), (1, .inl a1), (2, .inl v2_2)], [.inl (I 61 15)], sh, gc_h sh I J A)
          refine gv_run 1 true hD (pc' := 44) (lv' := [(0, .inr (.inr (some 61))), (1, .inl a1), (2, .inl v2_2)]) (st' := [.inl 16, .inl (I 61 15)]) (h' := gc_h sh I J A) (C := (True ∧ True)) rfl ⟨trivial, trivial⟩ ?_
          refine gv_icmp_ge (t := 57) hD rfl rfl ⟨⟨by exact gz_m 57 (by omega), by exact gz_m 58 (by omega)⟩, ⟨by exact gz_m 59 (by omega), by exact gz_m 60 (by omega)⟩⟩ (fun c33 => ?_) (fun c33 => ?_)
          · show gv_X _ _ (57, [(0, .inr (.inr (some 61))), (1, .inl a1), (2, .inl v2_2)], [], sh, gc_h sh I J A)
            exact L57 I J hI FI FJ (by exact gz_m 61 (by omega)) (gc_TH_any x0)
          · show gv_X _ _ (47, [(0, .inr (.inr (some 61))), (1, .inl a1), (2, .inl v2_2)], [], sh, gc_h sh I J A)
            refine gv_run 2 true hD (pc' := 49) (lv' := [(0, .inr (.inr (some 61))), (1, .inl a1), (2, .inl v2_2)]) (st' := [.inr (.inr (some 61)), .inr (.inr (some 61))]) (h' := gc_h sh I J A) (C := ((True ∧ True) ∧ True)) rfl ⟨⟨trivial, trivial⟩, trivial⟩ ?_
            have f34 := (show 0 ≤ I 61 15 ∧ I 61 15 ≤ 16 from gc_in hI R_61 rfl rfl)
            refine gv_get hD rfl rfl S_61 ⟨by decide, B_61⟩ (gc_hI S_61 rfl) ?_
            show gv_X _ _ (52, [(0, .inr (.inr (some 61))), (1, .inl a1), (2, .inl v2_2)], [.inl (I 61 15), .inr (.inr (some 61))], sh, gc_h sh I J A)
            refine gv_run 2 true hD (pc' := 54) (lv' := [(0, .inr (.inr (some 61))), (1, .inl a1), (2, .inl v2_2)]) (st' := [.inl ((I 61 15) + 1), .inr (.inr (some 61))]) (h' := gc_h sh I J A) (C := ((True ∧ True) ∧ True)) rfl ⟨⟨trivial, trivial⟩, trivial⟩ ?_
            refine gv_put hD rfl rfl S_61 ⟨by decide, B_61⟩ rfl trivial ?_
            refine gc_st (k := 15) hI S_61 rfl R_61 (lo := 0) (hi := 16) rfl rfl (by exact gz_m 62 (by omega)) (by exact gz_m 63 (by omega)) (fun I35 hI35 q36 p36 => ?_)
            have FI35 := gc_frs (W := fun q j => (q = 61 ∧ j = 15) ∨ q = 71 ∨ q = 72) FI (Or.inl ⟨rfl, rfl⟩) p36
            have f37 := (show 0 ≤ I35 61 15 ∧ I35 61 15 ≤ 16 from gc_in hI35 R_61 rfl rfl)
            show gv_X _ _ (57, [(0, .inr (.inr (some 61))), (1, .inl a1), (2, .inl v2_2)], [], sh, gc_h sh I35 J A)
            exact L57 I35 J hI35 FI35 FJ (by exact gz_m 64 (by omega)) (gc_TH_gr x0 p36 q36 (by exact gz_m 65 (by omega)))
        · show gv_X _ _ (37, [(0, .inr (.inr (some 61))), (1, .inl a1), (2, .inl v2_2)], [], sh, gc_h sh I J A)
          exact gv_vret hD rfl ⟨I, J, rfl, hI, FI, FJ, ⟨rfl, x0⟩⟩
      refine gv_run 1 true hD (pc' := 6) (lv' := [(0, .inr (.inr (some 61))), (1, .inl a1), (2, .inl v2_2)]) (st' := [.inl v2_2]) (h' := gc_h sh I J A) (C := (True ∧ True)) rfl ⟨trivial, trivial⟩ ?_
      refine gv_if_le (t := 31) hD rfl rfl ⟨by exact gz_m 66 (by omega), by exact gz_m 67 (by omega)⟩ (fun c38 => ?_) (fun c38 => ?_)
      · show gv_X _ _ (31, [(0, .inr (.inr (some 61))), (1, .inl a1), (2, .inl v2_2)], [], sh, gc_h sh I J A)
        exact L31 (by exact gz_m 68 (by omega))
      · show gv_X _ _ (9, [(0, .inr (.inr (some 61))), (1, .inl a1), (2, .inl v2_2)], [], sh, gc_h sh I J A)
        refine gv_run 3 true hD (pc' := 12) (lv' := [(0, .inr (.inr (some 61))), (1, .inl a1), (2, .inl v2_2)]) (st' := [.inr (.inr (some 61)), .inl a1, .inr (.inr (some 61))]) (h' := gc_h sh I J A) (C := (((True ∧ True) ∧ True) ∧ True)) rfl ⟨⟨⟨trivial, trivial⟩, trivial⟩, trivial⟩ ?_
        refine gv_get hD rfl rfl S_61 ⟨by decide, B_61⟩ (gc_hA S_61 rfl A_61_17) ?_
        show gv_X _ _ (15, [(0, .inr (.inr (some 61))), (1, .inl a1), (2, .inl v2_2)], [.inr (.inr (some 72)), .inl a1, .inr (.inr (some 61))], sh, gc_h sh I J A)
        refine gv_run 3 true hD (pc' := 18) (lv' := [(0, .inr (.inr (some 61))), (1, .inl a1), (2, .inl v2_2)]) (st' := [.inl (v2_2 - 1), .inr (.inr (some 72)), .inl a1, .inr (.inr (some 61))]) (h' := gc_h sh I J A) (C := (((True ∧ True) ∧ True) ∧ True)) rfl ⟨⟨⟨trivial, trivial⟩, trivial⟩, trivial⟩ ?_
        have f39 := (show 0 ≤ I 72 (Int.toNat (v2_2 - 1)) ∧ I 72 (Int.toNat (v2_2 - 1)) ≤ 47999 from gc_in hI R_72 rfl rfl)
        refine gv_iald hD rfl S_72 rfl ⟨by decide, B_72⟩ ⟨by exact gz_m 69 (by omega), by exact gz_m 70 (by omega)⟩ (gc_iI S_72 rfl) ?_
        show gv_X _ _ (19, [(0, .inr (.inr (some 61))), (1, .inl a1), (2, .inl v2_2)], [.inl (I 72 (Int.toNat (v2_2 - 1))), .inl a1, .inr (.inr (some 61))], sh, gc_h sh I J A)
        obtain ⟨r40, h40, E40, P40⟩ := d_X5_comesBefore (ws0 := ws0) (tb := tb) hws htb sh ro I J A hI  a1 ((I 72 (Int.toNat (v2_2 - 1)))) hb   ⟨by exact gz_m 71 (by omega), by exact gz_m 72 (by omega)⟩ ⟨by exact gz_m 73 (by omega), by exact gz_m 74 (by omega)⟩  
        obtain ⟨rfl, ⟨z40, rfl, q40⟩⟩ := P40
        refine gv_callV hD rfl (As := [.inl a1, .inl (I 72 (Int.toNat (v2_2 - 1)))]) (st := []) rfl B_61 S_61 rfl (gc_lV5 hws rfl) (Nat.le_of_ble_eq_true rfl) (gz_Ev_mono (d := 1) (by decide) E40) ?_
        show gv_X _ _ (22, [(0, .inr (.inr (some 61))), (1, .inl a1), (2, .inl v2_2)], [.inl z40], sh, gc_h sh I J A)
        refine gv_if_eq (t := 31) hD rfl rfl ⟨by exact gz_m 75 (by omega), by exact gz_m 76 (by omega)⟩ (fun c41 => ?_) (fun c41 => ?_)
        · show gv_X _ _ (31, [(0, .inr (.inr (some 61))), (1, .inl a1), (2, .inl v2_2)], [], sh, gc_h sh I J A)
          exact L31 (by exact gz_m 77 (by omega))
        · show gv_X _ _ (25, [(0, .inr (.inr (some 61))), (1, .inl a1), (2, .inl v2_2)], [], sh, gc_h sh I J A)
          refine gv_run 2 true hD (pc' := 5) (lv' := [(2, .inl (v2_2 + (-1))), (0, .inr (.inr (some 61))), (1, .inl a1)]) (st' := []) (h' := gc_h sh I J A) (C := ((True ∧ True) ∧ True)) rfl ⟨⟨trivial, trivial⟩, trivial⟩ ?_
          refine gv_pick [1, 2, 0] rfl ?_
          exact ih5 ((v2_2 + (-1))) (by exact gz_m 78 (by omega)) (by exact gz_m 79 (by omega))
  refine gv_run 1 true hD (pc' := 1) (lv' := [(0, .inr (.inr (some 61))), (1, .inl a1)]) (st' := [.inr (.inr (some 61))]) (h' := gc_h sh I J A) (C := (True ∧ True)) rfl ⟨trivial, trivial⟩ ?_
  have f42 := (show 0 ≤ I 61 15 ∧ I 61 15 ≤ 16 from gc_in hI R_61 rfl rfl)
  refine gv_get hD rfl rfl S_61 ⟨by decide, B_61⟩ (gc_hI S_61 rfl) ?_
  show gv_X _ _ (4, [(0, .inr (.inr (some 61))), (1, .inl a1)], [.inl (I 61 15)], sh, gc_h sh I J A)
  refine gv_run 1 true hD (pc' := 5) (lv' := [(2, .inl (I 61 15)), (0, .inr (.inr (some 61))), (1, .inl a1)]) (st' := []) (h' := gc_h sh I J A) (C := (True ∧ True)) rfl ⟨trivial, trivial⟩ ?_
  refine gv_pick [1, 2, 0] rfl ?_
  exact L5 _ (I 61 15) (Nat.lt_succ_self _) (by exact gz_m 80 (by omega))
