def gc_EL (hi e : Int) (I : gr_I) : Prop := 0 ≤ e ∧ ((Int.toNat e / 24 : Nat) : Int) < hi ∧ ((Int.toNat e % 24 : Nat) : Int) < I 76 (Int.toNat e / 24)
set_option maxHeartbeats 8000000 in
theorem gc_EL_mk {hi k b e : Int} {I : gr_I} (h0 : 0 ≤ k) (h1 : k < hi) (h2 : 0 ≤ b ∧ b ≤ 23) (h3 : b < I 76 (Int.toNat k)) (he : e = k * 24 + b) : gc_EL hi e I := by
  subst he
  have a : Int.toNat (k * 24 + b) / 24 = Int.toNat k := by exact gz_m 0 (by omega)
  refine ⟨by exact gz_m 1 (by omega), by rw [a]; exact gz_m 2 (by omega), ?_⟩
  rw [a]
  exact gz_m 3 (by omega)
def gc_OQ (I0 : gr_I) (hi n : Int) (I : gr_I) : Prop := ∀ j : Nat, (j : Int) < n → (j : Int) * 24 ≤ I 84 j ∧ I 85 j ≤ 6 ∧ gc_EL hi (I 84 j) I0
theorem gc_OQ_st {I0 : gr_I} {hi n n' : Int} {I I' : gr_I} (h : gc_OQ I0 hi n I) (hn : n' ≤ n) (r4 : ∀ j : Nat, (j : Int) < n' → I' 84 j = I 84 j) (r5 : ∀ j : Nat, (j : Int) < n' → I' 85 j = I 85 j) : gc_OQ I0 hi n' I' := fun j hj => by
  rw [r4 j hj, r5 j hj]
  exact h j (by omega)
theorem gc_OQ_up {I0 : gr_I} {hi n n' e : Int} {I : gr_I} (h : gc_OQ I0 hi n I) (hn : n' = n + 1) (h0 : 0 ≤ n) (he : I 84 (Int.toNat n) = e) (h1 : n * 24 ≤ e) (h2 : I 85 (Int.toNat n) ≤ 6) (h3 : gc_EL hi e I0) : gc_OQ I0 hi n' I := fun j hj => by
  by_cases e9 : (j : Int) = n
  · rw [show j = Int.toNat n from by exact gz_m 0 (by omega), he]
    exact ⟨by exact gz_m 1 (by omega), h2, h3⟩
  · exact h j (by exact gz_m 2 (by omega))
set_option maxHeartbeats 8000000 in
theorem gc_OE_at {σ : Nat → Int} {ς : Nat → Int → Int} {L hi : Int} {e : Int} {I : gr_I} (h : gc_OE σ ς L 0 hi (-1) I) (he : gc_EL hi e I) (hr : I 80 (Int.toNat e) < 0) : -1 - I 80 (Int.toNat e) < L ∧ ∀ s : Int, 0 ≤ s → s < 4 → s < σ (Int.toNat (-1 - I 80 (Int.toNat e))) → (e / 24 < I 75 (Int.toNat (e / 24 * 4 + ς (Int.toNat (-1 - I 80 (Int.toNat e))) s)) ∧ I 75 (Int.toNat (e / 24 * 4 + ς (Int.toNat (-1 - I 80 (Int.toNat e))) s)) < hi) ∧ gc_dh (I 81 (Int.toNat e)) (Int.toNat s) < I 76 (Int.toNat (I 75 (Int.toNat (e / 24 * 4 + ς (Int.toNat (-1 - I 80 (Int.toNat e))) s)))) := by
  obtain ⟨h0, h1, h2⟩ := he
  have h9 := (h (Int.toNat e) (by exact gz_m 0 (by omega)) (by exact gz_m 1 (by omega)) h1 h2).resolve_left (by exact gz_m 2 (by omega))
  have a : ((Int.toNat e / 24 : Nat) : Int) = e / 24 := by exact gz_m 3 (by omega)
  rw [a] at h9
  exact h9
def gc_SO (A : gc_A) (t : Nat) (I : gr_I) : Prop := ∀ i q : Nat, (i : Int) < I t 13 → A (t + 16) i = some q → ∀ a : Int, 0 ≤ a → a < I 12 (Int.toNat (I q 1)) → (0 ≤ I (q + 6) (Int.toNat a) ∧ I (q + 6) (Int.toNat a) < I q 8) ∧ I (q + 4) (Int.toNat (I (q + 6) (Int.toNat a))) = a
def gc_AG (A : gc_A) (t : Nat) (I : gr_I) : Prop := ∀ i q : Nat, (i : Int) < I t 13 → A (t + 16) i = some q → ∀ k : Int, 0 ≤ k → k < I q 4 → I (q + 1) (Int.toNat k) < I 12 (Int.toNat (I q 1))
set_option maxHeartbeats 8000000 in
set_option maxRecDepth 100000 in
theorem d_X7_write {ws0 : List Cond} {tb : String → gz_T} (hws : gc_Ws ws0) (htb : gc_tbs tb) (sh : gz_Sh) (ro : Nat → Nat) (I : gr_I) (J : gr_J) (A : gc_A) (hI : gc_Inv ro I) (t : Nat) (σ : Nat → Int) (ς : Nat → Int → Int) (L : Int) (hi : Int) (a1 : Int) (a2 : Nat) (hb : gc_Base sh ro A) (h_a2 : gc_isText sh ro A a2) (G_a2 : a2 + 3 < 39 ∨ (100 ≤ a2 ∧ a2 < 140)) (h_t : gc_isTongue sh ro A t) (G_t : 144 ≤ t) (ha1 : 0 ≤ a1 ∧ a1 ≤ 1439) (x0 : gc_OE σ ς L 0 hi (-1) I) (x1 : gc_Ls sh ro A t I) (x2 : gc_LP σ ς A t I) (x3 : gc_SO A t I) (x4 : gc_AG A t I) (x5 : L ≤ I t 13) (x6 : gc_EL hi a1 I) (x7 : hi ≤ 60) (x8 : I 74 1 = (t : Int)) : ∃ r h', gz_Ev ws0 tb 4 (yX7_write, cX7_write, 10, none) [.inr (.inr (some 74)), .inl a1, .inr (.inr (some a2))] sh (gc_h sh I J A) r sh h' 0 0 ∧ (∃ (I' : gr_I) (J' : gr_J), h' = gc_h sh I' J' A ∧ gc_Inv ro I' ∧ (∀ q j : Nat, (q = 84 ∨ q = 85 ∨ (q = a2 ∧ j = 1) ∨ q = (a2 + 1)) ∨ I' q j = I q j) ∧ (∀ q j : Nat, (False) ∨ J' q j = J q j) ∧ r = none) := by
  have FI : ∀ q j : Nat, (q = 84 ∨ q = 85 ∨ (q = a2 ∧ j = 1) ∨ q = (a2 + 1)) ∨ I q j = I q j := fun _ _ => Or.inr rfl
  have FJ : ∀ q j : Nat, (False) ∨ J q j = J q j := fun _ _ => Or.inr rfl
  have A_1_16 : A 1 16 = some 20 := gc_bA hb rfl
  have A_74_0 : A 74 0 = some 1 := gc_bA hb rfl
  have A_74_12 : A 74 12 = some 84 := gc_bA hb rfl
  have A_74_13 : A 74 13 = some 85 := gc_bA hb rfl
  have A_74_2 : A 74 2 = some 75 := gc_bA hb rfl
  have A_74_6 : A 74 6 = some 79 := gc_bA hb rfl
  have A_74_7 : A 74 7 = some 80 := gc_bA hb rfl
  have A_74_8 : A 74 8 = some 81 := gc_bA hb rfl
  have B_1 : 1 < 1000000 := by decide
  have B_20 : 20 < 1000000 := by decide
  have B_74 : 74 < 1000000 := by decide
  have B_75 : 75 < 1000000 := by decide
  have B_79 : 79 < 1000000 := by decide
  have B_80 : 80 < 1000000 := by decide
  have B_81 : 81 < 1000000 := by decide
  have B_84 : 84 < 1000000 := by decide
  have B_85 : 85 < 1000000 := by decide
  have R_20 : ro 20 = 36 := gc_bR hb (by decide) rfl
  have R_74 : ro 74 = 73 := gc_bR hb (by decide) rfl
  have R_75 : ro 75 = 38 := gc_bR hb (by decide) rfl
  have R_76 : ro 76 = 45 := gc_bR hb (by decide) rfl
  have R_79 : ro 79 = 55 := gc_bR hb (by decide) rfl
  have R_80 : ro 80 = 46 := gc_bR hb (by decide) rfl
  have R_81 : ro 81 = 56 := gc_bR hb (by decide) rfl
  have R_84 : ro 84 = 58 := gc_bR hb (by decide) rfl
  have R_85 : ro 85 = 59 := gc_bR hb (by decide) rfl
  have S_1 : sh[1]? = some (false, 8, 21) := gc_bS hb rfl
  have S_20 : sh[20]? = some (true, 0, 12000) := gc_bS hb rfl
  have S_74 : sh[74]? = some (false, 7, 14) := gc_bS hb rfl
  have S_75 : sh[75]? = some (true, 1, 240) := gc_bS hb rfl
  have S_79 : sh[79]? = some (true, 1, 1440) := gc_bS hb rfl
  have S_80 : sh[80]? = some (true, 1, 1440) := gc_bS hb rfl
  have S_81 : sh[81]? = some (true, 1, 1440) := gc_bS hb rfl
  have S_84 : sh[84]? = some (true, 1, 60) := gc_bS hb rfl
  have S_85 : sh[85]? = some (true, 1, 60) := gc_bS hb rfl
  obtain ⟨S_a2, R_a2, B_a2, A_a2_0, S_a2_1, R_a2_1, B_a2_1, A_a2_2, S_a2_2, R_a2_2, B_a2_2, A_a2_3, S_a2_3, R_a2_3, B_a2_3⟩ := id h_a2
  obtain ⟨S_t, R_t, B_t, A_t_0, h_t_1, A_t_1, h_t_3, A_t_2, S_t_5, R_t_5, B_t_5, A_t_3, S_t_6, R_t_6, B_t_6, A_t_4, h_t_7, A_t_5, S_t_9, R_t_9, B_t_9, A_t_7, S_t_10, R_t_10, B_t_10, A_t_8, h_t_11, A_t_9, S_t_13, R_t_13, B_t_13, A_t_10, S_t_14, R_t_14, B_t_14, A_t_12, S_t_15, R_t_15, B_t_15, A_t_14, S_t_16, R_t_16, B_t_16, A_t_15, h_t_17⟩ := id h_t
  obtain ⟨S_t_1, R_t_1, B_t_1, A_t_1_0, S_t_1_1, R_t_1_1, B_t_1_1, Q0_t_1, Q1_t_1, Q2_t_1⟩ := id h_t_1
  obtain ⟨S_t_3, R_t_3, B_t_3, A_t_3_0, S_t_3_1, R_t_3_1, B_t_3_1, Q0_t_3, Q1_t_3, Q2_t_3⟩ := id h_t_3
  obtain ⟨S_t_7, R_t_7, B_t_7, A_t_7_0, S_t_7_1, R_t_7_1, B_t_7_1, Q0_t_7, Q1_t_7, Q2_t_7⟩ := id h_t_7
  obtain ⟨S_t_11, R_t_11, B_t_11, A_t_11_0, S_t_11_1, R_t_11_1, B_t_11_1, Q0_t_11, Q1_t_11, Q2_t_11⟩ := id h_t_11
  obtain ⟨S_t_17, R_t_17, B_t_17, A_t_17_0, S_20, R_20, B_20, A_t_17_1, S_t_17_1, R_t_17_1, B_t_17_1, A_t_17_2, S_t_17_2, R_t_17_2, B_t_17_2, A_t_17_3, S_t_17_3, R_t_17_3, B_t_17_3, A_t_17_4, S_t_17_4, R_t_17_4, B_t_17_4, A_t_17_5, S_t_17_5, R_t_17_5, B_t_17_5, S_t_17_6, R_t_17_6, B_t_17_6, S_t_17_7, R_t_17_7, B_t_17_7⟩ := id h_t_17
  have hD : gv_D (gc_E7 ws0 tb 3 (yX7_write, cX7_write, 10, none) kX7_write) := gq_of oX7_write
  refine gc_ev7 (d := 3) (l := kX7_write) (Po := fun r h' => (∃ (I' : gr_I) (J' : gr_J), h' = gc_h sh I' J' A ∧ gc_Inv ro I' ∧ (∀ q j : Nat, (q = 84 ∨ q = 85 ∨ (q = a2 ∧ j = 1) ∨ q = (a2 + 1)) ∨ I' q j = I q j) ∧ (∀ q j : Nat, (False) ∨ J' q j = J q j) ∧ r = none)) htb rfl (Nat.le_of_ble_eq_true rfl) ?_
  have N_t__84 : ¬ (t = 84) := by exact gz_m 0 (by omega)
  have N_t__85 : ¬ (t = 85) := by exact gz_m 1 (by omega)
  have N_t__a2_1 : ¬ (t = (a2 + 1)) := by exact gz_m 2 (by omega)
  have N_74__a2 : ¬ (74 = a2) := by exact gz_m 3 (by omega)
  have N_74__a2_1 : ¬ (74 = (a2 + 1)) := by exact gz_m 4 (by omega)
  have f1 := (show 0 ≤ I t 13 ∧ I t 13 ≤ 384 from gc_in hI R_t rfl rfl)
  have f2 := (show (-1) ≤ I 74 1 ∧ I 74 1 ≤ 999999 from gc_in hI R_74 rfl rfl)
  have L19 : ∀ (n9 : Nat) (I3 : gr_I) (J4 : gr_J) (v3_5 : Int) (v4_5 : Int), (481 - v4_5).toNat < n9 → gc_Inv ro I3 → (∀ q j : Nat, (q = 84 ∨ q = 85 ∨ (q = a2 ∧ j = 1) ∨ q = (a2 + 1)) ∨ I3 q j = I q j) → (∀ q j : Nat, (False) ∨ J4 q j = J q j) → ((0 ≤ v3_5 ∧ v3_5 ≤ 60) ∧ (0 ≤ v4_5 ∧ v4_5 ≤ 480) ∧ (I3 t 13 = I t 13) ∧ (I3 74 1 = (t : Int))) → (gc_OQ I hi v3_5 I3) → gv_X (gc_E7 ws0 tb 3 (yX7_write, cX7_write, 10, none) kX7_write) (gv_Q cX7_write none sh (fun r h' => (∃ (I' : gr_I) (J' : gr_J), h' = gc_h sh I' J' A ∧ gc_Inv ro I' ∧ (∀ q j : Nat, (q = 84 ∨ q = 85 ∨ (q = a2 ∧ j = 1) ∨ q = (a2 + 1)) ∨ I' q j = I q j) ∧ (∀ q j : Nat, (False) ∨ J' q j = J q j) ∧ r = none))) (19, [(0, .inr (.inr (some 74))), (2, .inr (.inr (some a2))), (3, .inl v3_5), (4, .inl v4_5)], [], sh, gc_h sh I3 J4 A) := by
    intro n9
    induction n9 with
    | zero => intro I3 J4 v3_5 v4_5 hn; exact gz_m 5 (by omega)
    | succ n9 ih19 =>
      intro I3 J4 v3_5 v4_5 hn hI3 FI3 FJ4 m_5 e0_5
      obtain ⟨hv3_5, hv4_5, e1_5, e2_5⟩ := m_5
      have f6 := (show 0 ≤ I3 t 13 ∧ I3 t 13 ≤ 384 from gc_in hI3 R_t rfl rfl)
      have f7 := (show (-1) ≤ I3 74 1 ∧ I3 74 1 ≤ 999999 from gc_in hI3 R_74 rfl rfl)
      have L56 : ∀ (I8 : gr_I) (J9 : gr_J) (v5_10 : Int) (v6_10 : Int), gc_Inv ro I8 → (∀ q j : Nat, (q = 84 ∨ q = 85 ∨ (q = a2 ∧ j = 1) ∨ q = (a2 + 1)) ∨ I8 q j = I q j) → (∀ q j : Nat, (False) ∨ J9 q j = J q j) → ((1 ≤ v3_5 ∧ v3_5 ≤ 60) ∧ (0 ≤ v4_5 ∧ v4_5 ≤ 479) ∧ (0 ≤ v5_10 ∧ v5_10 ≤ 1439) ∧ (0 ≤ v6_10 ∧ v6_10 ≤ 6) ∧ ((v3_5 - 1) * 24 ≤ v5_10) ∧ (I8 84 (Int.toNat (v3_5 - 1)) = v5_10) ∧ (I8 85 (Int.toNat (v3_5 - 1)) = v6_10 + 1) ∧ (1 ≤ v3_5) ∧ (I8 t 13 = I t 13) ∧ (I8 74 1 = (t : Int))) → (gc_OQ I hi (v3_5 - 1) I8) → (gc_EL hi v5_10 I) → gv_X (gc_E7 ws0 tb 3 (yX7_write, cX7_write, 10, none) kX7_write) (gv_Q cX7_write none sh (fun r h' => (∃ (I' : gr_I) (J' : gr_J), h' = gc_h sh I' J' A ∧ gc_Inv ro I' ∧ (∀ q j : Nat, (q = 84 ∨ q = 85 ∨ (q = a2 ∧ j = 1) ∨ q = (a2 + 1)) ∨ I' q j = I q j) ∧ (∀ q j : Nat, (False) ∨ J' q j = J q j) ∧ r = none))) (56, [(0, .inr (.inr (some 74))), (2, .inr (.inr (some a2))), (3, .inl v3_5), (4, .inl v4_5), (5, .inl v5_10), (6, .inl v6_10)], [], sh, gc_h sh I8 J9 A) := by
        intro I8 J9 v5_10 v6_10 hI8 FI8 FJ9 m_10 e0_10 e1_10
        clear hv3_5 hv4_5 e1_5 e2_5 f6 f7
        obtain ⟨hv3_5_10, hv4_5_10, hv5_10, hv6_10, e2_10, e3_10, e4_10, e5_10, e6_10, e7_10⟩ := m_10
        have f11 := (show 0 ≤ I8 t 13 ∧ I8 t 13 ≤ 384 from gc_in hI8 R_t rfl rfl)
        have f12 := (show (-1) ≤ I8 74 1 ∧ I8 74 1 ≤ 999999 from gc_in hI8 R_74 rfl rfl)
        have L255 : ∀ (I13 : gr_I) (J14 : gr_J) (v3_15 : Int), gc_Inv ro I13 → (∀ q j : Nat, (q = 84 ∨ q = 85 ∨ (q = a2 ∧ j = 1) ∨ q = (a2 + 1)) ∨ I13 q j = I q j) → (∀ q j : Nat, (False) ∨ J14 q j = J q j) → ((0 ≤ v3_15 ∧ v3_15 ≤ 60) ∧ (0 ≤ v4_5 ∧ v4_5 ≤ 479) ∧ (I13 t 13 = I t 13) ∧ (I13 74 1 = (t : Int))) → (gc_OQ I hi v3_15 I13) → gv_X (gc_E7 ws0 tb 3 (yX7_write, cX7_write, 10, none) kX7_write) (gv_Q cX7_write none sh (fun r h' => (∃ (I' : gr_I) (J' : gr_J), h' = gc_h sh I' J' A ∧ gc_Inv ro I' ∧ (∀ q j : Nat, (q = 84 ∨ q = 85 ∨ (q = a2 ∧ j = 1) ∨ q = (a2 + 1)) ∨ I' q j = I q j) ∧ (∀ q j : Nat, (False) ∨ J' q j = J q j) ∧ r = none))) (255, [(0, .inr (.inr (some 74))), (2, .inr (.inr (some a2))), (3, .inl v3_15), (4, .inl v4_5)], [], sh, gc_h sh I13 J14 A) := by
          intro I13 J14 v3_15 hI13 FI13 FJ14 m_15 e0_15
          clear hv3_5_10 hv4_5_10 hv5_10 hv6_10 e2_10 e3_10 e4_10 e5_10 e6_10 e7_10 f11 f12
          obtain ⟨hv3_15, hv4_5_15, e1_15, e2_15⟩ := m_15
          have f16 := (show 0 ≤ I13 t 13 ∧ I13 t 13 ≤ 384 from gc_in hI13 R_t rfl rfl)
          have f17 := (show (-1) ≤ I13 74 1 ∧ I13 74 1 ≤ 999999 from gc_in hI13 R_74 rfl rfl)
          refine gv_run 2 true hD (pc' := 19) (lv' := [(4, .inl (v4_5 + 1)), (0, .inr (.inr (some 74))), (2, .inr (.inr (some a2))), (3, .inl v3_15)]) (st' := []) (h' := gc_h sh I13 J14 A) (C := ((True ∧ True) ∧ True)) rfl ⟨⟨trivial, trivial⟩, trivial⟩ ?_
          refine gv_pick [1, 2, 3, 0] rfl ?_
          exact ih19 I13 J14 v3_15 (v4_5 + 1) (by exact gz_m 6 (by omega)) hI13 FI13 FJ14 (by exact gz_m 7 (by omega)) e0_15
        have L218 : ∀ (v8_18 : Int) (v9_18 : Int), ((1 ≤ v3_5 ∧ v3_5 ≤ 60) ∧ (0 ≤ v4_5 ∧ v4_5 ≤ 479) ∧ (0 ≤ v5_10 ∧ v5_10 ≤ 1439) ∧ (0 ≤ v6_10 ∧ v6_10 ≤ 5) ∧ (0 ≤ v8_18 ∧ v8_18 ≤ 3) ∧ (0 ≤ v9_18 ∧ v9_18 ≤ 59) ∧ (v5_10 / 24 < v9_18) ∧ (v9_18 < hi) ∧ (v6_10 ≤ 5) ∧ (I8 t 13 = I t 13) ∧ (I8 74 1 = (t : Int))) → (gc_dh (I 81 (Int.toNat v5_10)) (Int.toNat v8_18) < I 76 (Int.toNat v9_18)) → gv_X (gc_E7 ws0 tb 3 (yX7_write, cX7_write, 10, none) kX7_write) (gv_Q cX7_write none sh (fun r h' => (∃ (I' : gr_I) (J' : gr_J), h' = gc_h sh I' J' A ∧ gc_Inv ro I' ∧ (∀ q j : Nat, (q = 84 ∨ q = 85 ∨ (q = a2 ∧ j = 1) ∨ q = (a2 + 1)) ∨ I' q j = I q j) ∧ (∀ q j : Nat, (False) ∨ J' q j = J q j) ∧ r = none))) (218, [(0, .inr (.inr (some 74))), (2, .inr (.inr (some a2))), (3, .inl v3_5), (4, .inl v4_5), (5, .inl v5_10), (6, .inl v6_10), (8, .inl v8_18), (9, .inl v9_18)], [], sh, gc_h sh I8 J9 A) := by
          intro v8_18 v9_18 m_18 e0_18
          obtain ⟨hv3_5_18, hv4_5_18, hv5_10_18, hv6_10_18, hv8_18, hv9_18, e1_18, e2_18, e3_18, e4_18, e5_18⟩ := m_18
          have f19 := (show 0 ≤ I8 t 13 ∧ I8 t 13 ≤ 384 from gc_in hI8 R_t rfl rfl)
          have f20 := (show (-1) ≤ I8 74 1 ∧ I8 74 1 ≤ 999999 from gc_in hI8 R_74 rfl rfl)
          refine gv_run 1 true hD (pc' := 219) (lv' := [(0, .inr (.inr (some 74))), (2, .inr (.inr (some a2))), (3, .inl v3_5), (4, .inl v4_5), (5, .inl v5_10), (6, .inl v6_10), (8, .inl v8_18), (9, .inl v9_18)]) (st' := [.inr (.inr (some 74))]) (h' := gc_h sh I8 J9 A) (C := (True ∧ True)) rfl ⟨trivial, trivial⟩ ?_
          refine gv_get hD rfl rfl S_74 ⟨by decide, B_74⟩ (gc_hA S_74 rfl A_74_12) ?_
          show gv_X _ _ (222, [(0, .inr (.inr (some 74))), (2, .inr (.inr (some a2))), (3, .inl v3_5), (4, .inl v4_5), (5, .inl v5_10), (6, .inl v6_10), (8, .inl v8_18), (9, .inl v9_18)], [.inr (.inr (some 84))], sh, gc_h sh I8 J9 A)
          refine gv_run 5 true hD (pc' := 229) (lv' := [(0, .inr (.inr (some 74))), (2, .inr (.inr (some a2))), (3, .inl v3_5), (4, .inl v4_5), (5, .inl v5_10), (6, .inl v6_10), (8, .inl v8_18), (9, .inl v9_18)]) (st' := [.inr (.inr (some 74)), .inl (v9_18 * 24), .inl v3_5, .inr (.inr (some 84))]) (h' := gc_h sh I8 J9 A) (C := (((((True ∧ True) ∧ True) ∧ True) ∧ True) ∧ True)) rfl ⟨⟨⟨⟨⟨trivial, trivial⟩, trivial⟩, trivial⟩, trivial⟩, trivial⟩ ?_
          refine gv_get hD rfl rfl S_74 ⟨by decide, B_74⟩ (gc_hA S_74 rfl A_74_8) ?_
          show gv_X _ _ (232, [(0, .inr (.inr (some 74))), (2, .inr (.inr (some a2))), (3, .inl v3_5), (4, .inl v4_5), (5, .inl v5_10), (6, .inl v6_10), (8, .inl v8_18), (9, .inl v9_18)], [.inr (.inr (some 81)), .inl (v9_18 * 24), .inl v3_5, .inr (.inr (some 84))], sh, gc_h sh I8 J9 A)
          refine gv_run 1 true hD (pc' := 234) (lv' := [(0, .inr (.inr (some 74))), (2, .inr (.inr (some a2))), (3, .inl v3_5), (4, .inl v4_5), (5, .inl v5_10), (6, .inl v6_10), (8, .inl v8_18), (9, .inl v9_18)]) (st' := [.inl v5_10, .inr (.inr (some 81)), .inl (v9_18 * 24), .inl v3_5, .inr (.inr (some 84))]) (h' := gc_h sh I8 J9 A) (C := (True ∧ True)) rfl ⟨trivial, trivial⟩ ?_
          have f21 := (show 0 ≤ I8 81 (Int.toNat v5_10) ∧ I8 81 (Int.toNat v5_10) ≤ 1048575 from gc_in hI8 R_81 rfl rfl)
          refine gv_iald hD rfl S_81 rfl ⟨by decide, B_81⟩ ⟨by exact gz_m 8 (by omega), by exact gz_m 9 (by omega)⟩ (gc_iI S_81 rfl) ?_
          show gv_X _ _ (235, [(0, .inr (.inr (some 74))), (2, .inr (.inr (some a2))), (3, .inl v3_5), (4, .inl v4_5), (5, .inl v5_10), (6, .inl v6_10), (8, .inl v8_18), (9, .inl v9_18)], [.inl (I8 81 (Int.toNat v5_10)), .inl (v9_18 * 24), .inl v3_5, .inr (.inr (some 84))], sh, gc_h sh I8 J9 A)
          have f22 := gw_shr (x := ((I8 81 (Int.toNat v5_10)))) (y := (5 * v8_18)) ⟨by exact gz_m 10 (by omega), by exact gz_m 11 (by omega)⟩
          have f23 := gw_and (x := (((Int32.ofInt ((I8 81 (Int.toNat v5_10))) >>> (Int32.ofInt (5 * v8_18) &&& 31)).toInt))) (y := 31) ⟨by exact gz_m 12 (by omega), by exact gz_m 13 (by omega)⟩
          refine gv_run 6 true hD (pc' := 243) (lv' := [(0, .inr (.inr (some 74))), (2, .inr (.inr (some a2))), (3, .inl v3_5), (4, .inl v4_5), (5, .inl v5_10), (6, .inl v6_10), (8, .inl v8_18), (9, .inl v9_18)]) (st' := [.inl ((Int32.ofInt (((Int32.ofInt ((I8 81 (Int.toNat v5_10))) >>> (Int32.ofInt (5 * v8_18) &&& 31)).toInt)) &&& Int32.ofInt 31).toInt), .inl (v9_18 * 24), .inl v3_5, .inr (.inr (some 84))]) (h' := gc_h sh I8 J9 A) (C := ((((((True ∧ True) ∧ True) ∧ True) ∧ True) ∧ True) ∧ True)) rfl ⟨⟨⟨⟨⟨⟨trivial, trivial⟩, trivial⟩, trivial⟩, trivial⟩, trivial⟩, trivial⟩ ?_
          have t24 := gc_dhx (z := I8 81 (Int.toNat v5_10)) (s := v8_18) ⟨by exact gz_m 14 (by omega), by exact gz_m 15 (by omega)⟩ ⟨by exact gz_m 16 (by omega), by exact gz_m 17 (by omega)⟩
          have t25 := (show gc_dh (I8 81 (Int.toNat v5_10)) (Int.toNat v8_18) = gc_dh (I 81 (Int.toNat v5_10)) (Int.toNat v8_18) from by rw [show I8 81 (Int.toNat v5_10) = I 81 (Int.toNat v5_10) from (FI8 81 _).resolve_left (by exact gz_m 18 (by omega))])
          have t26 := (show 0 ≤ I 76 (Int.toNat v9_18) ∧ I 76 (Int.toNat v9_18) ≤ 24 from gc_in hI R_76 rfl rfl)
          refine gv_run 1 true hD (pc' := 244) (lv' := [(0, .inr (.inr (some 74))), (2, .inr (.inr (some a2))), (3, .inl v3_5), (4, .inl v4_5), (5, .inl v5_10), (6, .inl v6_10), (8, .inl v8_18), (9, .inl v9_18)]) (st' := [.inl ((v9_18 * 24) + ((Int32.ofInt (((Int32.ofInt ((I8 81 (Int.toNat v5_10))) >>> (Int32.ofInt (5 * v8_18) &&& 31)).toInt)) &&& Int32.ofInt 31).toInt)), .inl v3_5, .inr (.inr (some 84))]) (h' := gc_h sh I8 J9 A) (C := (True ∧ True)) rfl ⟨trivial, trivial⟩ ?_
          refine gv_iast hD rfl S_84 ⟨by decide, B_84⟩ ⟨by exact gz_m 19 (by omega), by exact gz_m 20 (by omega)⟩ ?_
          refine gc_st hI8 S_84 rfl R_84 (lo := 0) (hi := 1439) rfl rfl (by exact gz_m 21 (by omega)) (by exact gz_m 22 (by omega)) (fun I27 hI27 q28 p28 => ?_)
          have FI27 := gc_frs (W := fun q j => q = 84 ∨ q = 85 ∨ (q = a2 ∧ j = 1) ∨ q = (a2 + 1)) FI8 (Or.inl rfl) p28
          have t29 := p28 t 13 (fun h => absurd h.1 N_t__84)
          have t30 := p28 74 1 (fun h => absurd h.1 (by decide))
          show gv_X _ _ (245, [(0, .inr (.inr (some 74))), (2, .inr (.inr (some a2))), (3, .inl v3_5), (4, .inl v4_5), (5, .inl v5_10), (6, .inl v6_10), (8, .inl v8_18), (9, .inl v9_18)], [], sh, gc_h sh I27 J9 A)
          refine gv_run 1 true hD (pc' := 246) (lv' := [(0, .inr (.inr (some 74))), (2, .inr (.inr (some a2))), (3, .inl v3_5), (4, .inl v4_5), (5, .inl v5_10), (6, .inl v6_10), (8, .inl v8_18), (9, .inl v9_18)]) (st' := [.inr (.inr (some 74))]) (h' := gc_h sh I27 J9 A) (C := (True ∧ True)) rfl ⟨trivial, trivial⟩ ?_
          refine gv_get hD rfl rfl S_74 ⟨by decide, B_74⟩ (gc_hA S_74 rfl A_74_13) ?_
          show gv_X _ _ (249, [(0, .inr (.inr (some 74))), (2, .inr (.inr (some a2))), (3, .inl v3_5), (4, .inl v4_5), (5, .inl v5_10), (6, .inl v6_10), (8, .inl v8_18), (9, .inl v9_18)], [.inr (.inr (some 85))], sh, gc_h sh I27 J9 A)
          refine gv_run 2 true hD (pc' := 251) (lv' := [(0, .inr (.inr (some 74))), (2, .inr (.inr (some a2))), (3, .inl v3_5), (4, .inl v4_5), (5, .inl v5_10), (6, .inl v6_10), (8, .inl v8_18), (9, .inl v9_18)]) (st' := [.inl 0, .inl v3_5, .inr (.inr (some 85))]) (h' := gc_h sh I27 J9 A) (C := ((True ∧ True) ∧ True)) rfl ⟨⟨trivial, trivial⟩, trivial⟩ ?_
          refine gv_iast hD rfl S_85 ⟨by decide, B_85⟩ ⟨by exact gz_m 23 (by omega), by exact gz_m 24 (by omega)⟩ ?_
          refine gc_st hI27 S_85 rfl R_85 (lo := 0) (hi := 7) rfl rfl (by exact gz_m 25 (by omega)) (by exact gz_m 26 (by omega)) (fun I31 hI31 q32 p32 => ?_)
          have FI31 := gc_frs (W := fun q j => q = 84 ∨ q = 85 ∨ (q = a2 ∧ j = 1) ∨ q = (a2 + 1)) FI27 (Or.inr (Or.inl rfl)) p32
          have t33 := p32 t 13 (fun h => absurd h.1 N_t__85)
          have t34 := p32 74 1 (fun h => absurd h.1 (by decide))
          show gv_X _ _ (252, [(0, .inr (.inr (some 74))), (2, .inr (.inr (some a2))), (3, .inl v3_5), (4, .inl v4_5), (5, .inl v5_10), (6, .inl v6_10), (8, .inl v8_18), (9, .inl v9_18)], [], sh, gc_h sh I31 J9 A)
          refine gv_run 1 true hD (pc' := 255) (lv' := [(3, .inl (v3_5 + 1)), (0, .inr (.inr (some 74))), (2, .inr (.inr (some a2))), (4, .inl v4_5), (5, .inl v5_10), (6, .inl v6_10), (8, .inl v8_18), (9, .inl v9_18)]) (st' := []) (h' := gc_h sh I31 J9 A) (C := (True ∧ True)) rfl ⟨trivial, trivial⟩ ?_
          refine gv_pick [1, 2, 0, 3] rfl ?_
          exact L255 I31 J9 (v3_5 + 1) hI31 FI31 FJ9 (by exact gz_m 27 (by omega)) (gc_OQ_up (n := v3_5) (gc_OQ_up (n := v3_5 - 1) (e := v5_10) (gc_OQ_st (n' := v3_5 - 1) e0_10 (by exact gz_m 28 (by omega)) (fun j hj => ((p32 84 j (fun h => absurd h.1 (by exact gz_m 29 (by omega)))).trans (p28 84 j (fun h => by have := h.2; exact gz_m 30 (by omega))))) (fun j hj => ((p32 85 j (fun h => by have := h.2; exact gz_m 31 (by omega))).trans (p28 85 j (fun h => absurd h.1 (by exact gz_m 32 (by omega))))))) (by exact gz_m 33 (by omega)) (by exact gz_m 34 (by omega)) ((((p32 84 (Int.toNat (v3_5 - 1)) (fun h => absurd h.1 (by exact gz_m 35 (by omega)))).trans (p28 84 (Int.toNat (v3_5 - 1)) (fun h => by have := h.2; exact gz_m 36 (by omega))))).trans (by exact gz_m 37 (by omega))) (by exact gz_m 38 (by omega)) (by rw [show I31 85 (Int.toNat (v3_5 - 1)) = _ from ((p32 85 (Int.toNat (v3_5 - 1)) (fun h => by have := h.2; exact gz_m 39 (by omega))).trans (p28 85 (Int.toNat (v3_5 - 1)) (fun h => absurd h.1 (by exact gz_m 40 (by omega)))))]; exact gz_m 41 (by omega)) e1_10) (by exact gz_m 42 (by omega)) (by exact gz_m 43 (by omega)) (((p32 84 (Int.toNat v3_5) (fun h => absurd h.1 (by exact gz_m 44 (by omega))))).trans q28) (by exact gz_m 45 (by omega)) (by rw [q32]; exact gz_m 46 (by omega)) (gc_EL_mk (k := v9_18) (b := gc_dh (I 81 (Int.toNat v5_10)) (Int.toNat v8_18)) (by exact gz_m 47 (by omega)) (by exact gz_m 48 (by omega)) (by exact gz_m 49 (by omega)) (by exact gz_m 50 (by omega)) (by exact gz_m 51 (by omega))))
        refine gv_run 1 true hD (pc' := 57) (lv' := [(0, .inr (.inr (some 74))), (2, .inr (.inr (some a2))), (3, .inl v3_5), (4, .inl v4_5), (5, .inl v5_10), (6, .inl v6_10)]) (st' := [.inr (.inr (some 74))]) (h' := gc_h sh I8 J9 A) (C := (True ∧ True)) rfl ⟨trivial, trivial⟩ ?_
        refine gv_get hD rfl rfl S_74 ⟨by decide, B_74⟩ (gc_hA S_74 rfl A_74_7) ?_
        show gv_X _ _ (60, [(0, .inr (.inr (some 74))), (2, .inr (.inr (some a2))), (3, .inl v3_5), (4, .inl v4_5), (5, .inl v5_10), (6, .inl v6_10)], [.inr (.inr (some 80))], sh, gc_h sh I8 J9 A)
        refine gv_run 1 true hD (pc' := 62) (lv' := [(0, .inr (.inr (some 74))), (2, .inr (.inr (some a2))), (3, .inl v3_5), (4, .inl v4_5), (5, .inl v5_10), (6, .inl v6_10)]) (st' := [.inl v5_10, .inr (.inr (some 80))]) (h' := gc_h sh I8 J9 A) (C := (True ∧ True)) rfl ⟨trivial, trivial⟩ ?_
        have f35 := (show (-384) ≤ I8 80 (Int.toNat v5_10) ∧ I8 80 (Int.toNat v5_10) ≤ 1535 from gc_in hI8 R_80 rfl rfl)
        refine gv_iald hD rfl S_80 rfl ⟨by decide, B_80⟩ ⟨by exact gz_m 52 (by omega), by exact gz_m 53 (by omega)⟩ (gc_iI S_80 rfl) ?_
        show gv_X _ _ (63, [(0, .inr (.inr (some 74))), (2, .inr (.inr (some a2))), (3, .inl v3_5), (4, .inl v4_5), (5, .inl v5_10), (6, .inl v6_10)], [.inl (I8 80 (Int.toNat v5_10))], sh, gc_h sh I8 J9 A)
        refine gv_if_lt (t := 103) hD rfl rfl ⟨by exact gz_m 54 (by omega), by exact gz_m 55 (by omega)⟩ (fun c36 => ?_) (fun c36 => ?_)
        · show gv_X _ _ (103, [(0, .inr (.inr (some 74))), (2, .inr (.inr (some a2))), (3, .inl v3_5), (4, .inl v4_5), (5, .inl v5_10), (6, .inl v6_10)], [], sh, gc_h sh I8 J9 A)
          refine gv_run 1 true hD (pc' := 104) (lv' := [(0, .inr (.inr (some 74))), (2, .inr (.inr (some a2))), (3, .inl v3_5), (4, .inl v4_5), (5, .inl v5_10), (6, .inl v6_10)]) (st' := [.inr (.inr (some 74))]) (h' := gc_h sh I8 J9 A) (C := (True ∧ True)) rfl ⟨trivial, trivial⟩ ?_
          refine gv_get hD rfl rfl S_74 ⟨by decide, B_74⟩ (gc_h5 (t := t) S_74 rfl (by exact gz_m 56 (by omega))) ?_
          show gv_X _ _ (107, [(0, .inr (.inr (some 74))), (2, .inr (.inr (some a2))), (3, .inl v3_5), (4, .inl v4_5), (5, .inl v5_10), (6, .inl v6_10)], [.inr (.inr (some t))], sh, gc_h sh I8 J9 A)
          refine gv_get hD rfl rfl S_t ⟨by decide, B_t⟩ (gc_hA S_t rfl A_t_14) ?_
          show gv_X _ _ (110, [(0, .inr (.inr (some 74))), (2, .inr (.inr (some a2))), (3, .inl v3_5), (4, .inl v4_5), (5, .inl v5_10), (6, .inl v6_10)], [.inr (.inr (some (t + 16)))], sh, gc_h sh I8 J9 A)
          refine gv_run 2 true hD (pc' := 112) (lv' := [(0, .inr (.inr (some 74))), (2, .inr (.inr (some a2))), (3, .inl v3_5), (4, .inl v4_5), (5, .inl v5_10), (6, .inl v6_10)]) (st' := [.inr (.inr (some 74)), .inl (-1), .inr (.inr (some (t + 16)))]) (h' := gc_h sh I8 J9 A) (C := ((True ∧ True) ∧ True)) rfl ⟨⟨trivial, trivial⟩, trivial⟩ ?_
          refine gv_get hD rfl rfl S_74 ⟨by decide, B_74⟩ (gc_hA S_74 rfl A_74_7) ?_
          show gv_X _ _ (115, [(0, .inr (.inr (some 74))), (2, .inr (.inr (some a2))), (3, .inl v3_5), (4, .inl v4_5), (5, .inl v5_10), (6, .inl v6_10)], [.inr (.inr (some 80)), .inl (-1), .inr (.inr (some (t + 16)))], sh, gc_h sh I8 J9 A)
          refine gv_run 1 true hD (pc' := 117) (lv' := [(0, .inr (.inr (some 74))), (2, .inr (.inr (some a2))), (3, .inl v3_5), (4, .inl v4_5), (5, .inl v5_10), (6, .inl v6_10)]) (st' := [.inl v5_10, .inr (.inr (some 80)), .inl (-1), .inr (.inr (some (t + 16)))]) (h' := gc_h sh I8 J9 A) (C := (True ∧ True)) rfl ⟨trivial, trivial⟩ ?_
          have f37 := (show (-384) ≤ I8 80 (Int.toNat v5_10) ∧ I8 80 (Int.toNat v5_10) ≤ 1535 from gc_in hI8 R_80 rfl rfl)
          refine gv_iald hD rfl S_80 rfl ⟨by decide, B_80⟩ ⟨by exact gz_m 57 (by omega), by exact gz_m 58 (by omega)⟩ (gc_iI S_80 rfl) ?_
          show gv_X _ _ (118, [(0, .inr (.inr (some 74))), (2, .inr (.inr (some a2))), (3, .inl v3_5), (4, .inl v4_5), (5, .inl v5_10), (6, .inl v6_10)], [.inl (I8 80 (Int.toNat v5_10)), .inl (-1), .inr (.inr (some (t + 16)))], sh, gc_h sh I8 J9 A)
          refine gv_run 1 true hD (pc' := 119) (lv' := [(0, .inr (.inr (some 74))), (2, .inr (.inr (some a2))), (3, .inl v3_5), (4, .inl v4_5), (5, .inl v5_10), (6, .inl v6_10)]) (st' := [.inl ((-1) - (I8 80 (Int.toNat v5_10))), .inr (.inr (some (t + 16)))]) (h' := gc_h sh I8 J9 A) (C := (True ∧ True)) rfl ⟨trivial, trivial⟩ ?_
          have t38 := (FI8 80 (Int.toNat v5_10)).resolve_left (by exact gz_m 59 (by omega))
          have t39 := (gc_OE_at x0 e1_10 (by exact gz_m 60 (by omega))).1
          obtain ⟨t40_, A_t40, h_t40, G_t40, U_t40, _⟩ := (gc_Ls_fr x1 ((FI8 t 13).resolve_left (by exact gz_m 61 (by omega))) (fun q hL hq d k hd => (FI8 (q + d) k).resolve_left (by have := gc_dj_LT hL h_t; exact gz_m 62 (by omega)))) (Int.toNat (((-1) - (I8 80 (Int.toNat v5_10))))) (by exact gz_m 63 (by omega))
          obtain ⟨S_t40, R_t40, B_t40, A_t40_5, S_t40__1, R_t40__1, B_t40__1, A_t40_6, S_t40__2, R_t40__2, B_t40__2, A_t40_7, S_t40__3, R_t40__3, B_t40__3, A_t40_9, S_t40__4, R_t40__4, B_t40__4, A_t40_10, S_t40__5, R_t40__5, B_t40__5, A_t40_11, S_t40__6, R_t40__6, B_t40__6, A_t40_13, S_t40__7, R_t40__7, B_t40__7, A_t40_15, S_t40__8, R_t40__8, B_t40__8⟩ := id h_t40
          refine gv_aald hD rfl S_t_16 ⟨by decide, by decide⟩ ⟨by decide, B_t_16⟩ ⟨by exact gz_m 64 (by omega), by exact gz_m 65 (by omega)⟩ ((gc_aA S_t_16 rfl).trans A_t40) ?_
          show gv_X _ _ (120, [(0, .inr (.inr (some 74))), (2, .inr (.inr (some a2))), (3, .inl v3_5), (4, .inl v4_5), (5, .inl v5_10), (6, .inl v6_10)], [.inr (.inr (some t40_))], sh, gc_h sh I8 J9 A)
          refine gv_run 3 true hD (pc' := 126) (lv' := [(7, .inr (.inr (some t40_))), (0, .inr (.inr (some 74))), (2, .inr (.inr (some a2))), (3, .inl v3_5), (4, .inl v4_5), (5, .inl v5_10), (6, .inl v6_10)]) (st' := [.inr (.inr (some t40_)), .inl v6_10]) (h' := gc_h sh I8 J9 A) (C := (((True ∧ True) ∧ True) ∧ True)) rfl ⟨⟨⟨trivial, trivial⟩, trivial⟩, trivial⟩ ?_
          have f41 := (show 0 ≤ I8 t40_ 4 ∧ I8 t40_ 4 ≤ 6 from gc_in hI8 R_t40 rfl rfl)
          refine gv_get hD rfl rfl S_t40 ⟨by decide, B_t40⟩ (gc_hI S_t40 rfl) ?_
          show gv_X _ _ (129, [(7, .inr (.inr (some t40_))), (0, .inr (.inr (some 74))), (2, .inr (.inr (some a2))), (3, .inl v3_5), (4, .inl v4_5), (5, .inl v5_10), (6, .inl v6_10)], [.inl (I8 t40_ 4), .inl v6_10], sh, gc_h sh I8 J9 A)
          refine gv_icmp_lt (t := 138) hD rfl rfl ⟨⟨by exact gz_m 66 (by omega), by exact gz_m 67 (by omega)⟩, ⟨by exact gz_m 68 (by omega), by exact gz_m 69 (by omega)⟩⟩ (fun c42 => ?_) (fun c42 => ?_)
          · show gv_X _ _ (138, [(7, .inr (.inr (some t40_))), (0, .inr (.inr (some 74))), (2, .inr (.inr (some a2))), (3, .inl v3_5), (4, .inl v4_5), (5, .inl v5_10), (6, .inl v6_10)], [], sh, gc_h sh I8 J9 A)
            refine gv_run 1 true hD (pc' := 140) (lv' := [(7, .inr (.inr (some t40_))), (0, .inr (.inr (some 74))), (2, .inr (.inr (some a2))), (3, .inl v3_5), (4, .inl v4_5), (5, .inl v5_10), (6, .inl v6_10)]) (st' := [.inr (.inr (some t40_))]) (h' := gc_h sh I8 J9 A) (C := (True ∧ True)) rfl ⟨trivial, trivial⟩ ?_
            refine gv_get hD rfl rfl S_t40 ⟨by decide, B_t40⟩ (gc_hA S_t40 rfl A_t40_5) ?_
            show gv_X _ _ (143, [(7, .inr (.inr (some t40_))), (0, .inr (.inr (some 74))), (2, .inr (.inr (some a2))), (3, .inl v3_5), (4, .inl v4_5), (5, .inl v5_10), (6, .inl v6_10)], [.inr (.inr (some (t40_ + 1)))], sh, gc_h sh I8 J9 A)
            refine gv_run 1 true hD (pc' := 145) (lv' := [(7, .inr (.inr (some t40_))), (0, .inr (.inr (some 74))), (2, .inr (.inr (some a2))), (3, .inl v3_5), (4, .inl v4_5), (5, .inl v5_10), (6, .inl v6_10)]) (st' := [.inl v6_10, .inr (.inr (some (t40_ + 1)))]) (h' := gc_h sh I8 J9 A) (C := (True ∧ True)) rfl ⟨trivial, trivial⟩ ?_
            have f43 := (show (-1) ≤ I8 (t40_ + 1) (Int.toNat v6_10) ∧ I8 (t40_ + 1) (Int.toNat v6_10) ≤ 3 from gc_in hI8 R_t40__1 rfl rfl)
            refine gv_iald hD rfl S_t40__1 rfl ⟨by decide, B_t40__1⟩ ⟨by exact gz_m 70 (by omega), by exact gz_m 71 (by omega)⟩ (gc_iI S_t40__1 rfl) ?_
            show gv_X _ _ (146, [(7, .inr (.inr (some t40_))), (0, .inr (.inr (some 74))), (2, .inr (.inr (some a2))), (3, .inl v3_5), (4, .inl v4_5), (5, .inl v5_10), (6, .inl v6_10)], [.inl (I8 (t40_ + 1) (Int.toNat v6_10))], sh, gc_h sh I8 J9 A)
            refine gv_if_ge (t := 179) hD rfl rfl ⟨by exact gz_m 72 (by omega), by exact gz_m 73 (by omega)⟩ (fun c44 => ?_) (fun c44 => ?_)
            · show gv_X _ _ (179, [(7, .inr (.inr (some t40_))), (0, .inr (.inr (some 74))), (2, .inr (.inr (some a2))), (3, .inl v3_5), (4, .inl v4_5), (5, .inl v5_10), (6, .inl v6_10)], [], sh, gc_h sh I8 J9 A)
              refine gv_run 1 true hD (pc' := 181) (lv' := [(7, .inr (.inr (some t40_))), (0, .inr (.inr (some 74))), (2, .inr (.inr (some a2))), (3, .inl v3_5), (4, .inl v4_5), (5, .inl v5_10), (6, .inl v6_10)]) (st' := [.inr (.inr (some t40_))]) (h' := gc_h sh I8 J9 A) (C := (True ∧ True)) rfl ⟨trivial, trivial⟩ ?_
              refine gv_get hD rfl rfl S_t40 ⟨by decide, B_t40⟩ (gc_hA S_t40 rfl A_t40_11) ?_
              show gv_X _ _ (184, [(7, .inr (.inr (some t40_))), (0, .inr (.inr (some 74))), (2, .inr (.inr (some a2))), (3, .inl v3_5), (4, .inl v4_5), (5, .inl v5_10), (6, .inl v6_10)], [.inr (.inr (some (t40_ + 6)))], sh, gc_h sh I8 J9 A)
              refine gv_run 1 true hD (pc' := 186) (lv' := [(7, .inr (.inr (some t40_))), (0, .inr (.inr (some 74))), (2, .inr (.inr (some a2))), (3, .inl v3_5), (4, .inl v4_5), (5, .inl v5_10), (6, .inl v6_10)]) (st' := [.inr (.inr (some t40_)), .inr (.inr (some (t40_ + 6)))]) (h' := gc_h sh I8 J9 A) (C := (True ∧ True)) rfl ⟨trivial, trivial⟩ ?_
              refine gv_get hD rfl rfl S_t40 ⟨by decide, B_t40⟩ (gc_hA S_t40 rfl A_t40_5) ?_
              show gv_X _ _ (189, [(7, .inr (.inr (some t40_))), (0, .inr (.inr (some 74))), (2, .inr (.inr (some a2))), (3, .inl v3_5), (4, .inl v4_5), (5, .inl v5_10), (6, .inl v6_10)], [.inr (.inr (some (t40_ + 1))), .inr (.inr (some (t40_ + 6)))], sh, gc_h sh I8 J9 A)
              refine gv_run 1 true hD (pc' := 191) (lv' := [(7, .inr (.inr (some t40_))), (0, .inr (.inr (some 74))), (2, .inr (.inr (some a2))), (3, .inl v3_5), (4, .inl v4_5), (5, .inl v5_10), (6, .inl v6_10)]) (st' := [.inl v6_10, .inr (.inr (some (t40_ + 1))), .inr (.inr (some (t40_ + 6)))]) (h' := gc_h sh I8 J9 A) (C := (True ∧ True)) rfl ⟨trivial, trivial⟩ ?_
              have f45 := (show (-1) ≤ I8 (t40_ + 1) (Int.toNat v6_10) ∧ I8 (t40_ + 1) (Int.toNat v6_10) ≤ 3 from gc_in hI8 R_t40__1 rfl rfl)
              refine gv_iald hD rfl S_t40__1 rfl ⟨by decide, B_t40__1⟩ ⟨by exact gz_m 74 (by omega), by exact gz_m 75 (by omega)⟩ (gc_iI S_t40__1 rfl) ?_
              show gv_X _ _ (192, [(7, .inr (.inr (some t40_))), (0, .inr (.inr (some 74))), (2, .inr (.inr (some a2))), (3, .inl v3_5), (4, .inl v4_5), (5, .inl v5_10), (6, .inl v6_10)], [.inl (I8 (t40_ + 1) (Int.toNat v6_10)), .inr (.inr (some (t40_ + 6)))], sh, gc_h sh I8 J9 A)
              have t46 := (FI8 (t40_ + 1) (Int.toNat v6_10)).resolve_left (by exact gz_m 76 (by omega))
              have t47 := (FI8 t40_ 4).resolve_left (by exact gz_m 77 (by omega))
              have t48 := (show 0 ≤ I t40_ 8 ∧ I t40_ 8 ≤ 4 from gc_in hI R_t40 rfl rfl)
              have t49 := x4 (Int.toNat (-1 - I 80 (Int.toNat v5_10))) t40_ (by exact gz_m 78 (by omega)) (show A (t + 16) (Int.toNat (-1 - I 80 (Int.toNat v5_10))) = some t40_ from by rw [← show I8 80 (Int.toNat v5_10) = I 80 (Int.toNat v5_10) from (FI8 80 (Int.toNat v5_10)).resolve_left (by exact gz_m 79 (by omega))]; exact A_t40) v6_10 (by exact gz_m 80 (by omega)) (by exact gz_m 81 (by omega))
              have f50 := (show (-1) ≤ I8 (t40_ + 6) (Int.toNat ((I8 (t40_ + 1) (Int.toNat v6_10)))) ∧ I8 (t40_ + 6) (Int.toNat ((I8 (t40_ + 1) (Int.toNat v6_10)))) ≤ 3 from gc_in hI8 R_t40__6 rfl rfl)
              refine gv_iald hD rfl S_t40__6 rfl ⟨by decide, B_t40__6⟩ ⟨by exact gz_m 82 (by omega), by exact gz_m 83 (by omega)⟩ (gc_iI S_t40__6 rfl) ?_
              show gv_X _ _ (193, [(7, .inr (.inr (some t40_))), (0, .inr (.inr (some 74))), (2, .inr (.inr (some a2))), (3, .inl v3_5), (4, .inl v4_5), (5, .inl v5_10), (6, .inl v6_10)], [.inl (I8 (t40_ + 6) (Int.toNat ((I8 (t40_ + 1) (Int.toNat v6_10)))))], sh, gc_h sh I8 J9 A)
              refine gv_run 2 true hD (pc' := 196) (lv' := [(8, .inl (I8 (t40_ + 6) (Int.toNat ((I8 (t40_ + 1) (Int.toNat v6_10)))))), (7, .inr (.inr (some t40_))), (0, .inr (.inr (some 74))), (2, .inr (.inr (some a2))), (3, .inl v3_5), (4, .inl v4_5), (5, .inl v5_10), (6, .inl v6_10)]) (st' := [.inr (.inr (some 74))]) (h' := gc_h sh I8 J9 A) (C := ((True ∧ True) ∧ True)) rfl ⟨⟨trivial, trivial⟩, trivial⟩ ?_
              refine gv_get hD rfl rfl S_74 ⟨by decide, B_74⟩ (gc_hA S_74 rfl A_74_2) ?_
              show gv_X _ _ (199, [(8, .inl (I8 (t40_ + 6) (Int.toNat ((I8 (t40_ + 1) (Int.toNat v6_10)))))), (7, .inr (.inr (some t40_))), (0, .inr (.inr (some 74))), (2, .inr (.inr (some a2))), (3, .inl v3_5), (4, .inl v4_5), (5, .inl v5_10), (6, .inl v6_10)], [.inr (.inr (some 75))], sh, gc_h sh I8 J9 A)
              have f51 := gw_div (x := v5_10) (y := 24) ⟨by exact gz_m 84 (by omega), by exact gz_m 85 (by omega)⟩ ⟨by exact gz_m 86 (by omega), by exact gz_m 87 (by omega)⟩
              refine gv_run 6 true hD (pc' := 208) (lv' := [(8, .inl (I8 (t40_ + 6) (Int.toNat ((I8 (t40_ + 1) (Int.toNat v6_10)))))), (7, .inr (.inr (some t40_))), (0, .inr (.inr (some 74))), (2, .inr (.inr (some a2))), (3, .inl v3_5), (4, .inl v4_5), (5, .inl v5_10), (6, .inl v6_10)]) (st' := [.inr (.inr (some t40_)), .inl (((Int32.ofInt v5_10 / Int32.ofInt 24).toInt) * 4), .inr (.inr (some 75))]) (h' := gc_h sh I8 J9 A) (C := ((((((True ∧ True) ∧ True) ∧ (gz_R 24 ∧ ¬ 24 = 0)) ∧ True) ∧ True) ∧ True)) rfl ⟨⟨⟨⟨⟨⟨trivial, trivial⟩, trivial⟩, ⟨⟨by exact gz_m 88 (by omega), by exact gz_m 89 (by omega)⟩, by exact gz_m 90 (by omega)⟩⟩, trivial⟩, trivial⟩, trivial⟩ ?_
              refine gv_get hD rfl rfl S_t40 ⟨by decide, B_t40⟩ (gc_hA S_t40 rfl A_t40_5) ?_
              show gv_X _ _ (211, [(8, .inl (I8 (t40_ + 6) (Int.toNat ((I8 (t40_ + 1) (Int.toNat v6_10)))))), (7, .inr (.inr (some t40_))), (0, .inr (.inr (some 74))), (2, .inr (.inr (some a2))), (3, .inl v3_5), (4, .inl v4_5), (5, .inl v5_10), (6, .inl v6_10)], [.inr (.inr (some (t40_ + 1))), .inl (((Int32.ofInt v5_10 / Int32.ofInt 24).toInt) * 4), .inr (.inr (some 75))], sh, gc_h sh I8 J9 A)
              refine gv_run 1 true hD (pc' := 213) (lv' := [(8, .inl (I8 (t40_ + 6) (Int.toNat ((I8 (t40_ + 1) (Int.toNat v6_10)))))), (7, .inr (.inr (some t40_))), (0, .inr (.inr (some 74))), (2, .inr (.inr (some a2))), (3, .inl v3_5), (4, .inl v4_5), (5, .inl v5_10), (6, .inl v6_10)]) (st' := [.inl v6_10, .inr (.inr (some (t40_ + 1))), .inl (((Int32.ofInt v5_10 / Int32.ofInt 24).toInt) * 4), .inr (.inr (some 75))]) (h' := gc_h sh I8 J9 A) (C := (True ∧ True)) rfl ⟨trivial, trivial⟩ ?_
              have f52 := (show (-1) ≤ I8 (t40_ + 1) (Int.toNat v6_10) ∧ I8 (t40_ + 1) (Int.toNat v6_10) ≤ 3 from gc_in hI8 R_t40__1 rfl rfl)
              refine gv_iald hD rfl S_t40__1 rfl ⟨by decide, B_t40__1⟩ ⟨by exact gz_m 91 (by omega), by exact gz_m 92 (by omega)⟩ (gc_iI S_t40__1 rfl) ?_
              show gv_X _ _ (214, [(8, .inl (I8 (t40_ + 6) (Int.toNat ((I8 (t40_ + 1) (Int.toNat v6_10)))))), (7, .inr (.inr (some t40_))), (0, .inr (.inr (some 74))), (2, .inr (.inr (some a2))), (3, .inl v3_5), (4, .inl v4_5), (5, .inl v5_10), (6, .inl v6_10)], [.inl (I8 (t40_ + 1) (Int.toNat v6_10)), .inl (((Int32.ofInt v5_10 / Int32.ofInt 24).toInt) * 4), .inr (.inr (some 75))], sh, gc_h sh I8 J9 A)
              refine gv_run 1 true hD (pc' := 215) (lv' := [(8, .inl (I8 (t40_ + 6) (Int.toNat ((I8 (t40_ + 1) (Int.toNat v6_10)))))), (7, .inr (.inr (some t40_))), (0, .inr (.inr (some 74))), (2, .inr (.inr (some a2))), (3, .inl v3_5), (4, .inl v4_5), (5, .inl v5_10), (6, .inl v6_10)]) (st' := [.inl ((((Int32.ofInt v5_10 / Int32.ofInt 24).toInt) * 4) + (I8 (t40_ + 1) (Int.toNat v6_10))), .inr (.inr (some 75))]) (h' := gc_h sh I8 J9 A) (C := (True ∧ True)) rfl ⟨trivial, trivial⟩ ?_
              have f53 := (show 0 ≤ I8 75 (Int.toNat (((((Int32.ofInt v5_10 / Int32.ofInt 24).toInt) * 4) + (I8 (t40_ + 1) (Int.toNat v6_10))))) ∧ I8 75 (Int.toNat (((((Int32.ofInt v5_10 / Int32.ofInt 24).toInt) * 4) + (I8 (t40_ + 1) (Int.toNat v6_10))))) ≤ 59 from gc_in hI8 R_75 rfl rfl)
              refine gv_iald hD rfl S_75 rfl ⟨by decide, B_75⟩ ⟨by exact gz_m 93 (by omega), by exact gz_m 94 (by omega)⟩ (gc_iI S_75 rfl) ?_
              show gv_X _ _ (216, [(8, .inl (I8 (t40_ + 6) (Int.toNat ((I8 (t40_ + 1) (Int.toNat v6_10)))))), (7, .inr (.inr (some t40_))), (0, .inr (.inr (some 74))), (2, .inr (.inr (some a2))), (3, .inl v3_5), (4, .inl v4_5), (5, .inl v5_10), (6, .inl v6_10)], [.inl (I8 75 (Int.toNat (((((Int32.ofInt v5_10 / Int32.ofInt 24).toInt) * 4) + (I8 (t40_ + 1) (Int.toNat v6_10))))))], sh, gc_h sh I8 J9 A)
              have t54 := (x3 (Int.toNat (-1 - I 80 (Int.toNat v5_10))) t40_ (by exact gz_m 95 (by omega)) (show A (t + 16) (Int.toNat (-1 - I 80 (Int.toNat v5_10))) = some t40_ from by rw [← show I8 80 (Int.toNat v5_10) = I 80 (Int.toNat v5_10) from (FI8 80 (Int.toNat v5_10)).resolve_left (by exact gz_m 96 (by omega))]; exact A_t40) (I (t40_ + 1) (Int.toNat v6_10)) (by exact gz_m 97 (by omega)) (by exact gz_m 98 (by omega)))
              have t55 := (show I8 (t40_ + 6) (Int.toNat (I8 (t40_ + 1) (Int.toNat v6_10))) = I (t40_ + 6) (Int.toNat (I (t40_ + 1) (Int.toNat v6_10))) from by rw [show I8 (t40_ + 1) (Int.toNat v6_10) = (I (t40_ + 1) (Int.toNat v6_10)) from (FI8 (t40_ + 1) _).resolve_left (by exact gz_m 99 (by omega))]; exact (FI8 (t40_ + 6) _).resolve_left (by exact gz_m 100 (by omega)))
              have t56 := (show (I8 75 (Int.toNat (((((Int32.ofInt v5_10 / Int32.ofInt 24).toInt) * 4) + (I8 (t40_ + 1) (Int.toNat v6_10)))))) = I 75 (Int.toNat (v5_10 / 24 * 4 + (I (t40_ + 1) (Int.toNat v6_10)))) from by rw [show (((((Int32.ofInt v5_10 / Int32.ofInt 24).toInt) * 4) + (I8 (t40_ + 1) (Int.toNat v6_10)))) = (v5_10 / 24 * 4 + (I (t40_ + 1) (Int.toNat v6_10))) from by exact gz_m 101 (by omega)]; exact (FI8 75 _).resolve_left (by exact gz_m 102 (by omega)))
              have t57 := (show (v5_10 / 24 < I 75 (Int.toNat (v5_10 / 24 * 4 + (I (t40_ + 1) (Int.toNat v6_10)))) ∧ I 75 (Int.toNat (v5_10 / 24 * 4 + (I (t40_ + 1) (Int.toNat v6_10)))) < hi) ∧ gc_dh (I 81 (Int.toNat v5_10)) (Int.toNat (I (t40_ + 6) (Int.toNat (I (t40_ + 1) (Int.toNat v6_10))))) < I 76 (Int.toNat (I 75 (Int.toNat (v5_10 / 24 * 4 + (I (t40_ + 1) (Int.toNat v6_10)))))) from by have h9 := ((gc_OE_at x0 e1_10 (by exact gz_m 103 (by omega))).2 (I (t40_ + 6) (Int.toNat (I (t40_ + 1) (Int.toNat v6_10)))) (by exact gz_m 104 (by omega)) (by exact gz_m 105 (by omega)) (by rw [(x2 (Int.toNat (-1 - I 80 (Int.toNat v5_10))) t40_ (by exact gz_m 106 (by omega)) (show A (t + 16) (Int.toNat (-1 - I 80 (Int.toNat v5_10))) = some t40_ from by rw [← show I8 80 (Int.toNat v5_10) = I 80 (Int.toNat v5_10) from (FI8 80 (Int.toNat v5_10)).resolve_left (by exact gz_m 107 (by omega))]; exact A_t40)).2.1]; exact gz_m 108 (by omega))); rw [(x2 (Int.toNat (-1 - I 80 (Int.toNat v5_10))) t40_ (by exact gz_m 109 (by omega)) (show A (t + 16) (Int.toNat (-1 - I 80 (Int.toNat v5_10))) = some t40_ from by rw [← show I8 80 (Int.toNat v5_10) = I 80 (Int.toNat v5_10) from (FI8 80 (Int.toNat v5_10)).resolve_left (by exact gz_m 110 (by omega))]; exact A_t40)).2.2.1 (I (t40_ + 6) (Int.toNat (I (t40_ + 1) (Int.toNat v6_10)))) (by exact gz_m 111 (by omega)) (by exact gz_m 112 (by omega)), (x3 (Int.toNat (-1 - I 80 (Int.toNat v5_10))) t40_ (by exact gz_m 113 (by omega)) (show A (t + 16) (Int.toNat (-1 - I 80 (Int.toNat v5_10))) = some t40_ from by rw [← show I8 80 (Int.toNat v5_10) = I 80 (Int.toNat v5_10) from (FI8 80 (Int.toNat v5_10)).resolve_left (by exact gz_m 114 (by omega))]; exact A_t40) (I (t40_ + 1) (Int.toNat v6_10)) (by exact gz_m 115 (by omega)) (by exact gz_m 116 (by omega))).2] at h9; exact h9).1
              refine gv_run 1 true hD (pc' := 218) (lv' := [(9, .inl (I8 75 (Int.toNat (((((Int32.ofInt v5_10 / Int32.ofInt 24).toInt) * 4) + (I8 (t40_ + 1) (Int.toNat v6_10))))))), (8, .inl (I8 (t40_ + 6) (Int.toNat ((I8 (t40_ + 1) (Int.toNat v6_10)))))), (7, .inr (.inr (some t40_))), (0, .inr (.inr (some 74))), (2, .inr (.inr (some a2))), (3, .inl v3_5), (4, .inl v4_5), (5, .inl v5_10), (6, .inl v6_10)]) (st' := []) (h' := gc_h sh I8 J9 A) (C := (True ∧ True)) rfl ⟨trivial, trivial⟩ ?_
              refine gv_pick [3, 4, 5, 6, 7, 8, 1, 0] rfl ?_
              exact L218 ((I8 (t40_ + 6) (Int.toNat ((I8 (t40_ + 1) (Int.toNat v6_10)))))) ((I8 75 (Int.toNat (((((Int32.ofInt v5_10 / Int32.ofInt 24).toInt) * 4) + (I8 (t40_ + 1) (Int.toNat v6_10))))))) (by exact gz_m 117 (by omega)) (by rw [(show I8 (t40_ + 6) (Int.toNat (I8 (t40_ + 1) (Int.toNat v6_10))) = I (t40_ + 6) (Int.toNat (I (t40_ + 1) (Int.toNat v6_10))) from by rw [show I8 (t40_ + 1) (Int.toNat v6_10) = (I (t40_ + 1) (Int.toNat v6_10)) from (FI8 (t40_ + 1) _).resolve_left (by exact gz_m 118 (by omega))]; exact (FI8 (t40_ + 6) _).resolve_left (by exact gz_m 119 (by omega))), (show (I8 75 (Int.toNat (((((Int32.ofInt v5_10 / Int32.ofInt 24).toInt) * 4) + (I8 (t40_ + 1) (Int.toNat v6_10)))))) = I 75 (Int.toNat (v5_10 / 24 * 4 + (I (t40_ + 1) (Int.toNat v6_10)))) from by rw [show (((((Int32.ofInt v5_10 / Int32.ofInt 24).toInt) * 4) + (I8 (t40_ + 1) (Int.toNat v6_10)))) = (v5_10 / 24 * 4 + (I (t40_ + 1) (Int.toNat v6_10))) from by exact gz_m 120 (by omega)]; exact (FI8 75 _).resolve_left (by exact gz_m 121 (by omega)))]; exact (show (v5_10 / 24 < I 75 (Int.toNat (v5_10 / 24 * 4 + (I (t40_ + 1) (Int.toNat v6_10)))) ∧ I 75 (Int.toNat (v5_10 / 24 * 4 + (I (t40_ + 1) (Int.toNat v6_10)))) < hi) ∧ gc_dh (I 81 (Int.toNat v5_10)) (Int.toNat (I (t40_ + 6) (Int.toNat (I (t40_ + 1) (Int.toNat v6_10))))) < I 76 (Int.toNat (I 75 (Int.toNat (v5_10 / 24 * 4 + (I (t40_ + 1) (Int.toNat v6_10)))))) from by have h9 := ((gc_OE_at x0 e1_10 (by exact gz_m 122 (by omega))).2 (I (t40_ + 6) (Int.toNat (I (t40_ + 1) (Int.toNat v6_10)))) (by exact gz_m 123 (by omega)) (by exact gz_m 124 (by omega)) (by rw [(x2 (Int.toNat (-1 - I 80 (Int.toNat v5_10))) t40_ (by exact gz_m 125 (by omega)) (show A (t + 16) (Int.toNat (-1 - I 80 (Int.toNat v5_10))) = some t40_ from by rw [← show I8 80 (Int.toNat v5_10) = I 80 (Int.toNat v5_10) from (FI8 80 (Int.toNat v5_10)).resolve_left (by exact gz_m 126 (by omega))]; exact A_t40)).2.1]; exact gz_m 127 (by omega))); rw [(x2 (Int.toNat (-1 - I 80 (Int.toNat v5_10))) t40_ (by exact gz_m 128 (by omega)) (show A (t + 16) (Int.toNat (-1 - I 80 (Int.toNat v5_10))) = some t40_ from by rw [← show I8 80 (Int.toNat v5_10) = I 80 (Int.toNat v5_10) from (FI8 80 (Int.toNat v5_10)).resolve_left (by exact gz_m 129 (by omega))]; exact A_t40)).2.2.1 (I (t40_ + 6) (Int.toNat (I (t40_ + 1) (Int.toNat v6_10)))) (by exact gz_m 130 (by omega)) (by exact gz_m 131 (by omega)), (x3 (Int.toNat (-1 - I 80 (Int.toNat v5_10))) t40_ (by exact gz_m 132 (by omega)) (show A (t + 16) (Int.toNat (-1 - I 80 (Int.toNat v5_10))) = some t40_ from by rw [← show I8 80 (Int.toNat v5_10) = I 80 (Int.toNat v5_10) from (FI8 80 (Int.toNat v5_10)).resolve_left (by exact gz_m 133 (by omega))]; exact A_t40) (I (t40_ + 1) (Int.toNat v6_10)) (by exact gz_m 134 (by omega)) (by exact gz_m 135 (by omega))).2] at h9; exact h9).2)
            · show gv_X _ _ (149, [(7, .inr (.inr (some t40_))), (0, .inr (.inr (some 74))), (2, .inr (.inr (some a2))), (3, .inl v3_5), (4, .inl v4_5), (5, .inl v5_10), (6, .inl v6_10)], [], sh, gc_h sh I8 J9 A)
              refine gv_run 2 true hD (pc' := 151) (lv' := [(7, .inr (.inr (some t40_))), (0, .inr (.inr (some 74))), (2, .inr (.inr (some a2))), (3, .inl v3_5), (4, .inl v4_5), (5, .inl v5_10), (6, .inl v6_10)]) (st' := [.inr (.inr (some 74)), .inr (.inr (some a2))]) (h' := gc_h sh I8 J9 A) (C := ((True ∧ True) ∧ True)) rfl ⟨⟨trivial, trivial⟩, trivial⟩ ?_
              refine gv_get hD rfl rfl S_74 ⟨by decide, B_74⟩ (gc_hA S_74 rfl A_74_0) ?_
              show gv_X _ _ (154, [(7, .inr (.inr (some t40_))), (0, .inr (.inr (some 74))), (2, .inr (.inr (some a2))), (3, .inl v3_5), (4, .inl v4_5), (5, .inl v5_10), (6, .inl v6_10)], [.inr (.inr (some 1)), .inr (.inr (some a2))], sh, gc_h sh I8 J9 A)
              refine gv_get hD rfl rfl S_1 ⟨by decide, B_1⟩ (gc_hA S_1 rfl A_1_16) ?_
              show gv_X _ _ (157, [(7, .inr (.inr (some t40_))), (0, .inr (.inr (some 74))), (2, .inr (.inr (some a2))), (3, .inl v3_5), (4, .inl v4_5), (5, .inl v5_10), (6, .inl v6_10)], [.inr (.inr (some 20)), .inr (.inr (some a2))], sh, gc_h sh I8 J9 A)
              refine gv_run 1 true hD (pc' := 159) (lv' := [(7, .inr (.inr (some t40_))), (0, .inr (.inr (some 74))), (2, .inr (.inr (some a2))), (3, .inl v3_5), (4, .inl v4_5), (5, .inl v5_10), (6, .inl v6_10)]) (st' := [.inr (.inr (some t40_)), .inr (.inr (some 20)), .inr (.inr (some a2))]) (h' := gc_h sh I8 J9 A) (C := (True ∧ True)) rfl ⟨trivial, trivial⟩ ?_
              refine gv_get hD rfl rfl S_t40 ⟨by decide, B_t40⟩ (gc_hA S_t40 rfl A_t40_6) ?_
              show gv_X _ _ (162, [(7, .inr (.inr (some t40_))), (0, .inr (.inr (some 74))), (2, .inr (.inr (some a2))), (3, .inl v3_5), (4, .inl v4_5), (5, .inl v5_10), (6, .inl v6_10)], [.inr (.inr (some (t40_ + 2))), .inr (.inr (some 20)), .inr (.inr (some a2))], sh, gc_h sh I8 J9 A)
              refine gv_run 1 true hD (pc' := 164) (lv' := [(7, .inr (.inr (some t40_))), (0, .inr (.inr (some 74))), (2, .inr (.inr (some a2))), (3, .inl v3_5), (4, .inl v4_5), (5, .inl v5_10), (6, .inl v6_10)]) (st' := [.inl v6_10, .inr (.inr (some (t40_ + 2))), .inr (.inr (some 20)), .inr (.inr (some a2))]) (h' := gc_h sh I8 J9 A) (C := (True ∧ True)) rfl ⟨trivial, trivial⟩ ?_
              have f58 := (show 0 ≤ I8 (t40_ + 2) (Int.toNat v6_10) ∧ I8 (t40_ + 2) (Int.toNat v6_10) ≤ 2000 from gc_in hI8 R_t40__2 rfl rfl)
              refine gv_iald hD rfl S_t40__2 rfl ⟨by decide, B_t40__2⟩ ⟨by exact gz_m 136 (by omega), by exact gz_m 137 (by omega)⟩ (gc_iI S_t40__2 rfl) ?_
              show gv_X _ _ (165, [(7, .inr (.inr (some t40_))), (0, .inr (.inr (some 74))), (2, .inr (.inr (some a2))), (3, .inl v3_5), (4, .inl v4_5), (5, .inl v5_10), (6, .inl v6_10)], [.inl (I8 (t40_ + 2) (Int.toNat v6_10)), .inr (.inr (some 20)), .inr (.inr (some a2))], sh, gc_h sh I8 J9 A)
              refine gv_run 1 true hD (pc' := 167) (lv' := [(7, .inr (.inr (some t40_))), (0, .inr (.inr (some 74))), (2, .inr (.inr (some a2))), (3, .inl v3_5), (4, .inl v4_5), (5, .inl v5_10), (6, .inl v6_10)]) (st' := [.inr (.inr (some t40_)), .inl (I8 (t40_ + 2) (Int.toNat v6_10)), .inr (.inr (some 20)), .inr (.inr (some a2))]) (h' := gc_h sh I8 J9 A) (C := (True ∧ True)) rfl ⟨trivial, trivial⟩ ?_
              refine gv_get hD rfl rfl S_t40 ⟨by decide, B_t40⟩ (gc_hA S_t40 rfl A_t40_7) ?_
              show gv_X _ _ (170, [(7, .inr (.inr (some t40_))), (0, .inr (.inr (some 74))), (2, .inr (.inr (some a2))), (3, .inl v3_5), (4, .inl v4_5), (5, .inl v5_10), (6, .inl v6_10)], [.inr (.inr (some (t40_ + 3))), .inl (I8 (t40_ + 2) (Int.toNat v6_10)), .inr (.inr (some 20)), .inr (.inr (some a2))], sh, gc_h sh I8 J9 A)
              refine gv_run 1 true hD (pc' := 172) (lv' := [(7, .inr (.inr (some t40_))), (0, .inr (.inr (some 74))), (2, .inr (.inr (some a2))), (3, .inl v3_5), (4, .inl v4_5), (5, .inl v5_10), (6, .inl v6_10)]) (st' := [.inl v6_10, .inr (.inr (some (t40_ + 3))), .inl (I8 (t40_ + 2) (Int.toNat v6_10)), .inr (.inr (some 20)), .inr (.inr (some a2))]) (h' := gc_h sh I8 J9 A) (C := (True ∧ True)) rfl ⟨trivial, trivial⟩ ?_
              have f59 := (show 0 ≤ I8 (t40_ + 3) (Int.toNat v6_10) ∧ I8 (t40_ + 3) (Int.toNat v6_10) ≤ 24 from gc_in hI8 R_t40__3 rfl rfl)
              refine gv_iald hD rfl S_t40__3 rfl ⟨by decide, B_t40__3⟩ ⟨by exact gz_m 138 (by omega), by exact gz_m 139 (by omega)⟩ (gc_iI S_t40__3 rfl) ?_
              show gv_X _ _ (173, [(7, .inr (.inr (some t40_))), (0, .inr (.inr (some 74))), (2, .inr (.inr (some a2))), (3, .inl v3_5), (4, .inl v4_5), (5, .inl v5_10), (6, .inl v6_10)], [.inl (I8 (t40_ + 3) (Int.toNat v6_10)), .inl (I8 (t40_ + 2) (Int.toNat v6_10)), .inr (.inr (some 20)), .inr (.inr (some a2))], sh, gc_h sh I8 J9 A)
              obtain ⟨r60, h60, E60, P60⟩ := d_X9_putSpaced_q (ws0 := ws0) (tb := tb) hws htb sh ro I8 J9 A hI8 a2 12000 20 ((I8 (t40_ + 2) (Int.toNat v6_10))) ((I8 (t40_ + 3) (Int.toNat v6_10))) h_a2 S_20 R_20 B_20 (by decide)  ⟨by exact gz_m 140 (by omega), by exact gz_m 141 (by omega)⟩ ⟨by exact gz_m 142 (by omega), by exact gz_m 143 (by omega)⟩  
              obtain ⟨I61, J62, rfl, hI61, g60, k60, rfl⟩ := P60
              have FI61 := gc_frc (W := fun q j => q = 84 ∨ q = 85 ∨ (q = a2 ∧ j = 1) ∨ q = (a2 + 1)) (V := fun q j => (q = a2 ∧ j = 1) ∨ q = (a2 + 1)) FI8 (fun q j h => (h.elim (fun h => (Or.inr (Or.inr (Or.inl h)))) (fun h => (Or.inr (Or.inr (Or.inr h)))))) g60
              have t63 := (g60 t 13).resolve_left (fun h => h.elim (fun h => absurd h.2 (by decide)) (fun h => absurd h N_t__a2_1))
              have t64 := (g60 74 1).resolve_left (fun h => h.elim (fun h => absurd h.1 N_74__a2) (fun h => absurd h N_74__a2_1))
              obtain rfl : J9 = J62 := funext fun q => funext fun j => ((k60 q j).resolve_left id).symm
              refine gv_callV hD rfl (As := [.inr (.inr (some 20)), .inl (I8 (t40_ + 2) (Int.toNat v6_10)), .inl (I8 (t40_ + 3) (Int.toNat v6_10))]) (st := []) rfl B_a2 S_a2 rfl (gc_lV7 hws rfl) (Nat.le_of_ble_eq_true rfl) (gz_Ev_mono (d := 3) (by decide) E60) ?_
              show gv_X _ _ (176, [(7, .inr (.inr (some t40_))), (0, .inr (.inr (some 74))), (2, .inr (.inr (some a2))), (3, .inl v3_5), (4, .inl v4_5), (5, .inl v5_10), (6, .inl v6_10)], [], sh, gc_h sh I61 J9 A)
              refine gv_run 1 true hD (pc' := 255) (lv' := [(7, .inr (.inr (some t40_))), (0, .inr (.inr (some 74))), (2, .inr (.inr (some a2))), (3, .inl v3_5), (4, .inl v4_5), (5, .inl v5_10), (6, .inl v6_10)]) (st' := []) (h' := gc_h sh I61 J9 A) (C := (True ∧ True)) rfl ⟨trivial, trivial⟩ ?_
              refine gv_pick [1, 2, 3, 4] rfl ?_
              exact L255 I61 J9 v3_5 hI61 FI61 FJ9 (by exact gz_m 144 (by omega)) (gc_OQ_up (n := v3_5 - 1) (e := v5_10) (gc_OQ_st (n' := v3_5 - 1) e0_10 (by exact gz_m 145 (by omega)) (fun j hj => ((g60 84 j).resolve_left (by exact gz_m 146 (by omega)))) (fun j hj => ((g60 85 j).resolve_left (by exact gz_m 147 (by omega))))) (by exact gz_m 148 (by omega)) (by exact gz_m 149 (by omega)) ((((g60 84 (Int.toNat (v3_5 - 1))).resolve_left (by exact gz_m 150 (by omega)))).trans (by exact gz_m 151 (by omega))) (by exact gz_m 152 (by omega)) (by rw [show I61 85 (Int.toNat (v3_5 - 1)) = _ from ((g60 85 (Int.toNat (v3_5 - 1))).resolve_left (by exact gz_m 153 (by omega)))]; exact gz_m 154 (by omega)) e1_10)
          · show gv_X _ _ (132, [(7, .inr (.inr (some t40_))), (0, .inr (.inr (some 74))), (2, .inr (.inr (some a2))), (3, .inl v3_5), (4, .inl v4_5), (5, .inl v5_10), (6, .inl v6_10)], [], sh, gc_h sh I8 J9 A)
            refine gv_run 2 true hD (pc' := 255) (lv' := [(3, .inl (v3_5 + (-1))), (7, .inr (.inr (some t40_))), (0, .inr (.inr (some 74))), (2, .inr (.inr (some a2))), (4, .inl v4_5), (5, .inl v5_10), (6, .inl v6_10)]) (st' := []) (h' := gc_h sh I8 J9 A) (C := ((True ∧ True) ∧ True)) rfl ⟨⟨trivial, trivial⟩, trivial⟩ ?_
            refine gv_pick [2, 3, 0, 4] rfl ?_
            exact L255 I8 J9 ((v3_5 + (-1))) hI8 FI8 FJ9 (by exact gz_m 155 (by omega)) (gc_OQ_st e0_10 (by exact gz_m 156 (by omega)) (fun j hj => rfl) (fun j hj => rfl))
        · show gv_X _ _ (66, [(0, .inr (.inr (some 74))), (2, .inr (.inr (some a2))), (3, .inl v3_5), (4, .inl v4_5), (5, .inl v5_10), (6, .inl v6_10)], [], sh, gc_h sh I8 J9 A)
          have t65 := (FI8 80 (Int.toNat v5_10)).resolve_left (by exact gz_m 157 (by omega))
          refine gv_run 2 true hD (pc' := 68) (lv' := [(0, .inr (.inr (some 74))), (2, .inr (.inr (some a2))), (3, .inl v3_5), (4, .inl v4_5), (5, .inl v5_10), (6, .inl v6_10)]) (st' := [.inr (.inr (some 74)), .inr (.inr (some a2))]) (h' := gc_h sh I8 J9 A) (C := ((True ∧ True) ∧ True)) rfl ⟨⟨trivial, trivial⟩, trivial⟩ ?_
          refine gv_get hD rfl rfl S_74 ⟨by decide, B_74⟩ (gc_h5 (t := t) S_74 rfl (by exact gz_m 158 (by omega))) ?_
          show gv_X _ _ (71, [(0, .inr (.inr (some 74))), (2, .inr (.inr (some a2))), (3, .inl v3_5), (4, .inl v4_5), (5, .inl v5_10), (6, .inl v6_10)], [.inr (.inr (some t)), .inr (.inr (some a2))], sh, gc_h sh I8 J9 A)
          refine gv_get hD rfl rfl S_t ⟨by decide, B_t⟩ (gc_hA S_t rfl A_t_15) ?_
          show gv_X _ _ (74, [(0, .inr (.inr (some 74))), (2, .inr (.inr (some a2))), (3, .inl v3_5), (4, .inl v4_5), (5, .inl v5_10), (6, .inl v6_10)], [.inr (.inr (some (t + 17))), .inr (.inr (some a2))], sh, gc_h sh I8 J9 A)
          refine gv_get hD rfl rfl S_t_17 ⟨by decide, B_t_17⟩ (gc_hA S_t_17 rfl A_t_17_1) ?_
          show gv_X _ _ (77, [(0, .inr (.inr (some 74))), (2, .inr (.inr (some a2))), (3, .inl v3_5), (4, .inl v4_5), (5, .inl v5_10), (6, .inl v6_10)], [.inr (.inr (some ((t + 17) + 1))), .inr (.inr (some a2))], sh, gc_h sh I8 J9 A)
          refine gv_run 1 true hD (pc' := 78) (lv' := [(0, .inr (.inr (some 74))), (2, .inr (.inr (some a2))), (3, .inl v3_5), (4, .inl v4_5), (5, .inl v5_10), (6, .inl v6_10)]) (st' := [.inr (.inr (some 74)), .inr (.inr (some ((t + 17) + 1))), .inr (.inr (some a2))]) (h' := gc_h sh I8 J9 A) (C := (True ∧ True)) rfl ⟨trivial, trivial⟩ ?_
          refine gv_get hD rfl rfl S_74 ⟨by decide, B_74⟩ (gc_hA S_74 rfl A_74_7) ?_
          show gv_X _ _ (81, [(0, .inr (.inr (some 74))), (2, .inr (.inr (some a2))), (3, .inl v3_5), (4, .inl v4_5), (5, .inl v5_10), (6, .inl v6_10)], [.inr (.inr (some 80)), .inr (.inr (some ((t + 17) + 1))), .inr (.inr (some a2))], sh, gc_h sh I8 J9 A)
          refine gv_run 1 true hD (pc' := 83) (lv' := [(0, .inr (.inr (some 74))), (2, .inr (.inr (some a2))), (3, .inl v3_5), (4, .inl v4_5), (5, .inl v5_10), (6, .inl v6_10)]) (st' := [.inl v5_10, .inr (.inr (some 80)), .inr (.inr (some ((t + 17) + 1))), .inr (.inr (some a2))]) (h' := gc_h sh I8 J9 A) (C := (True ∧ True)) rfl ⟨trivial, trivial⟩ ?_
          have f66 := (show (-384) ≤ I8 80 (Int.toNat v5_10) ∧ I8 80 (Int.toNat v5_10) ≤ 1535 from gc_in hI8 R_80 rfl rfl)
          refine gv_iald hD rfl S_80 rfl ⟨by decide, B_80⟩ ⟨by exact gz_m 159 (by omega), by exact gz_m 160 (by omega)⟩ (gc_iI S_80 rfl) ?_
          show gv_X _ _ (84, [(0, .inr (.inr (some 74))), (2, .inr (.inr (some a2))), (3, .inl v3_5), (4, .inl v4_5), (5, .inl v5_10), (6, .inl v6_10)], [.inl (I8 80 (Int.toNat v5_10)), .inr (.inr (some ((t + 17) + 1))), .inr (.inr (some a2))], sh, gc_h sh I8 J9 A)
          refine gv_run 3 true hD (pc' := 88) (lv' := [(0, .inr (.inr (some 74))), (2, .inr (.inr (some a2))), (3, .inl v3_5), (4, .inl v4_5), (5, .inl v5_10), (6, .inl v6_10)]) (st' := [.inr (.inr (some 74)), .inl ((I8 80 (Int.toNat v5_10)) * 24), .inr (.inr (some ((t + 17) + 1))), .inr (.inr (some a2))]) (h' := gc_h sh I8 J9 A) (C := (((True ∧ True) ∧ True) ∧ True)) rfl ⟨⟨⟨trivial, trivial⟩, trivial⟩, trivial⟩ ?_
          refine gv_get hD rfl rfl S_74 ⟨by decide, B_74⟩ (gc_hA S_74 rfl A_74_6) ?_
          show gv_X _ _ (91, [(0, .inr (.inr (some 74))), (2, .inr (.inr (some a2))), (3, .inl v3_5), (4, .inl v4_5), (5, .inl v5_10), (6, .inl v6_10)], [.inr (.inr (some 79)), .inl ((I8 80 (Int.toNat v5_10)) * 24), .inr (.inr (some ((t + 17) + 1))), .inr (.inr (some a2))], sh, gc_h sh I8 J9 A)
          refine gv_run 1 true hD (pc' := 93) (lv' := [(0, .inr (.inr (some 74))), (2, .inr (.inr (some a2))), (3, .inl v3_5), (4, .inl v4_5), (5, .inl v5_10), (6, .inl v6_10)]) (st' := [.inl v5_10, .inr (.inr (some 79)), .inl ((I8 80 (Int.toNat v5_10)) * 24), .inr (.inr (some ((t + 17) + 1))), .inr (.inr (some a2))]) (h' := gc_h sh I8 J9 A) (C := (True ∧ True)) rfl ⟨trivial, trivial⟩ ?_
          have f67 := (show 0 ≤ I8 79 (Int.toNat v5_10) ∧ I8 79 (Int.toNat v5_10) ≤ 1000 from gc_in hI8 R_79 rfl rfl)
          refine gv_iald hD rfl S_79 rfl ⟨by decide, B_79⟩ ⟨by exact gz_m 161 (by omega), by exact gz_m 162 (by omega)⟩ (gc_iI S_79 rfl) ?_
          show gv_X _ _ (94, [(0, .inr (.inr (some 74))), (2, .inr (.inr (some a2))), (3, .inl v3_5), (4, .inl v4_5), (5, .inl v5_10), (6, .inl v6_10)], [.inl (I8 79 (Int.toNat v5_10)), .inl ((I8 80 (Int.toNat v5_10)) * 24), .inr (.inr (some ((t + 17) + 1))), .inr (.inr (some a2))], sh, gc_h sh I8 J9 A)
          obtain ⟨r68, h68, E68, P68⟩ := d_X9_putSpaced (ws0 := ws0) (tb := tb) hws htb sh ro I8 J9 A hI8 a2 36864 (((t + 17) + 1)) (((I8 80 (Int.toNat v5_10)) * 24)) ((I8 79 (Int.toNat v5_10))) h_a2 S_t_17_1 R_t_17_1 B_t_17_1 (by decide)  ⟨by exact gz_m 163 (by omega), by exact gz_m 164 (by omega)⟩ ⟨by exact gz_m 165 (by omega), by exact gz_m 166 (by omega)⟩  
          obtain ⟨I69, J70, rfl, hI69, g68, k68, rfl⟩ := P68
          have FI69 := gc_frc (W := fun q j => q = 84 ∨ q = 85 ∨ (q = a2 ∧ j = 1) ∨ q = (a2 + 1)) (V := fun q j => (q = a2 ∧ j = 1) ∨ q = (a2 + 1)) FI8 (fun q j h => (h.elim (fun h => (Or.inr (Or.inr (Or.inl h)))) (fun h => (Or.inr (Or.inr (Or.inr h)))))) g68
          have t71 := (g68 t 13).resolve_left (fun h => h.elim (fun h => absurd h.2 (by decide)) (fun h => absurd h N_t__a2_1))
          have t72 := (g68 74 1).resolve_left (fun h => h.elim (fun h => absurd h.1 N_74__a2) (fun h => absurd h N_74__a2_1))
          obtain rfl : J9 = J70 := funext fun q => funext fun j => ((k68 q j).resolve_left id).symm
          refine gv_callV hD rfl (As := [.inr (.inr (some ((t + 17) + 1))), .inl ((I8 80 (Int.toNat v5_10)) * 24), .inl (I8 79 (Int.toNat v5_10))]) (st := []) rfl B_a2 S_a2 rfl (gc_lV7 hws rfl) (Nat.le_of_ble_eq_true rfl) (gz_Ev_mono (d := 3) (by decide) E68) ?_
          show gv_X _ _ (97, [(0, .inr (.inr (some 74))), (2, .inr (.inr (some a2))), (3, .inl v3_5), (4, .inl v4_5), (5, .inl v5_10), (6, .inl v6_10)], [], sh, gc_h sh I69 J9 A)
          refine gv_run 2 true hD (pc' := 255) (lv' := [(3, .inl (v3_5 + (-1))), (0, .inr (.inr (some 74))), (2, .inr (.inr (some a2))), (4, .inl v4_5), (5, .inl v5_10), (6, .inl v6_10)]) (st' := []) (h' := gc_h sh I69 J9 A) (C := ((True ∧ True) ∧ True)) rfl ⟨⟨trivial, trivial⟩, trivial⟩ ?_
          refine gv_pick [1, 2, 0, 3] rfl ?_
          exact L255 I69 J9 ((v3_5 + (-1))) hI69 FI69 FJ9 (by exact gz_m 167 (by omega)) (gc_OQ_st e0_10 (by exact gz_m 168 (by omega)) (fun j hj => ((g68 84 j).resolve_left (by exact gz_m 169 (by omega)))) (fun j hj => ((g68 85 j).resolve_left (by exact gz_m 170 (by omega)))))
      have L261 : ((I3 t 13 = I t 13) ∧ (I3 74 1 = (t : Int))) → gv_X (gc_E7 ws0 tb 3 (yX7_write, cX7_write, 10, none) kX7_write) (gv_Q cX7_write none sh (fun r h' => (∃ (I' : gr_I) (J' : gr_J), h' = gc_h sh I' J' A ∧ gc_Inv ro I' ∧ (∀ q j : Nat, (q = 84 ∨ q = 85 ∨ (q = a2 ∧ j = 1) ∨ q = (a2 + 1)) ∨ I' q j = I q j) ∧ (∀ q j : Nat, (False) ∨ J' q j = J q j) ∧ r = none))) (261, [], [], sh, gc_h sh I3 J4 A) := by
        intro m_73
        obtain ⟨e0_73, e1_73⟩ := m_73
        have f74 := (show 0 ≤ I3 t 13 ∧ I3 t 13 ≤ 384 from gc_in hI3 R_t rfl rfl)
        have f75 := (show (-1) ≤ I3 74 1 ∧ I3 74 1 ≤ 999999 from gc_in hI3 R_74 rfl rfl)
        exact gv_vret hD rfl ⟨I3, J4, rfl, hI3, FI3, FJ4, rfl⟩
      refine gv_run 2 true hD (pc' := 24) (lv' := [(0, .inr (.inr (some 74))), (2, .inr (.inr (some a2))), (3, .inl v3_5), (4, .inl v4_5)]) (st' := [.inl 480, .inl v4_5]) (h' := gc_h sh I3 J4 A) (C := ((True ∧ True) ∧ True)) rfl ⟨⟨trivial, trivial⟩, trivial⟩ ?_
      refine gv_icmp_ge (t := 261) hD rfl rfl ⟨⟨by exact gz_m 171 (by omega), by exact gz_m 172 (by omega)⟩, ⟨by exact gz_m 173 (by omega), by exact gz_m 174 (by omega)⟩⟩ (fun c76 => ?_) (fun c76 => ?_)
      · show gv_X _ _ (261, [(0, .inr (.inr (some 74))), (2, .inr (.inr (some a2))), (3, .inl v3_5), (4, .inl v4_5)], [], sh, gc_h sh I3 J4 A)
        refine gv_pick [] rfl ?_
        exact L261 (by exact gz_m 175 (by omega))
      · show gv_X _ _ (27, [(0, .inr (.inr (some 74))), (2, .inr (.inr (some a2))), (3, .inl v3_5), (4, .inl v4_5)], [], sh, gc_h sh I3 J4 A)
        refine gv_run 1 true hD (pc' := 28) (lv' := [(0, .inr (.inr (some 74))), (2, .inr (.inr (some a2))), (3, .inl v3_5), (4, .inl v4_5)]) (st' := [.inl v3_5]) (h' := gc_h sh I3 J4 A) (C := (True ∧ True)) rfl ⟨trivial, trivial⟩ ?_
        refine gv_if_le (t := 261) hD rfl rfl ⟨by exact gz_m 176 (by omega), by exact gz_m 177 (by omega)⟩ (fun c77 => ?_) (fun c77 => ?_)
        · show gv_X _ _ (261, [(0, .inr (.inr (some 74))), (2, .inr (.inr (some a2))), (3, .inl v3_5), (4, .inl v4_5)], [], sh, gc_h sh I3 J4 A)
          refine gv_pick [] rfl ?_
          exact L261 (by exact gz_m 178 (by omega))
        · show gv_X _ _ (31, [(0, .inr (.inr (some 74))), (2, .inr (.inr (some a2))), (3, .inl v3_5), (4, .inl v4_5)], [], sh, gc_h sh I3 J4 A)
          refine gv_run 1 true hD (pc' := 32) (lv' := [(0, .inr (.inr (some 74))), (2, .inr (.inr (some a2))), (3, .inl v3_5), (4, .inl v4_5)]) (st' := [.inr (.inr (some 74))]) (h' := gc_h sh I3 J4 A) (C := (True ∧ True)) rfl ⟨trivial, trivial⟩ ?_
          refine gv_get hD rfl rfl S_74 ⟨by decide, B_74⟩ (gc_hA S_74 rfl A_74_12) ?_
          show gv_X _ _ (35, [(0, .inr (.inr (some 74))), (2, .inr (.inr (some a2))), (3, .inl v3_5), (4, .inl v4_5)], [.inr (.inr (some 84))], sh, gc_h sh I3 J4 A)
          refine gv_run 3 true hD (pc' := 38) (lv' := [(0, .inr (.inr (some 74))), (2, .inr (.inr (some a2))), (3, .inl v3_5), (4, .inl v4_5)]) (st' := [.inl (v3_5 - 1), .inr (.inr (some 84))]) (h' := gc_h sh I3 J4 A) (C := (((True ∧ True) ∧ True) ∧ True)) rfl ⟨⟨⟨trivial, trivial⟩, trivial⟩, trivial⟩ ?_
          have f78 := (show 0 ≤ I3 84 (Int.toNat (v3_5 - 1)) ∧ I3 84 (Int.toNat (v3_5 - 1)) ≤ 1439 from gc_in hI3 R_84 rfl rfl)
          refine gv_iald hD rfl S_84 rfl ⟨by decide, B_84⟩ ⟨by exact gz_m 179 (by omega), by exact gz_m 180 (by omega)⟩ (gc_iI S_84 rfl) ?_
          show gv_X _ _ (39, [(0, .inr (.inr (some 74))), (2, .inr (.inr (some a2))), (3, .inl v3_5), (4, .inl v4_5)], [.inl (I3 84 (Int.toNat (v3_5 - 1)))], sh, gc_h sh I3 J4 A)
          refine gv_run 2 true hD (pc' := 42) (lv' := [(5, .inl (I3 84 (Int.toNat (v3_5 - 1)))), (0, .inr (.inr (some 74))), (2, .inr (.inr (some a2))), (3, .inl v3_5), (4, .inl v4_5)]) (st' := [.inr (.inr (some 74))]) (h' := gc_h sh I3 J4 A) (C := ((True ∧ True) ∧ True)) rfl ⟨⟨trivial, trivial⟩, trivial⟩ ?_
          refine gv_get hD rfl rfl S_74 ⟨by decide, B_74⟩ (gc_hA S_74 rfl A_74_13) ?_
          show gv_X _ _ (45, [(5, .inl (I3 84 (Int.toNat (v3_5 - 1)))), (0, .inr (.inr (some 74))), (2, .inr (.inr (some a2))), (3, .inl v3_5), (4, .inl v4_5)], [.inr (.inr (some 85))], sh, gc_h sh I3 J4 A)
          refine gv_run 3 true hD (pc' := 48) (lv' := [(5, .inl (I3 84 (Int.toNat (v3_5 - 1)))), (0, .inr (.inr (some 74))), (2, .inr (.inr (some a2))), (3, .inl v3_5), (4, .inl v4_5)]) (st' := [.inl (v3_5 - 1), .inr (.inr (some 85))]) (h' := gc_h sh I3 J4 A) (C := (((True ∧ True) ∧ True) ∧ True)) rfl ⟨⟨⟨trivial, trivial⟩, trivial⟩, trivial⟩ ?_
          have t79 := (e0_5 (Int.toNat (v3_5 - 1)) (by exact gz_m 181 (by omega))).1
          have t80 := (e0_5 (Int.toNat (v3_5 - 1)) (by exact gz_m 182 (by omega))).2.1
          refine gv_run 1 true hD (pc' := 49) (lv' := [(5, .inl (I3 84 (Int.toNat (v3_5 - 1)))), (0, .inr (.inr (some 74))), (2, .inr (.inr (some a2))), (3, .inl v3_5), (4, .inl v4_5)]) (st' := [.inl (v3_5 - 1), .inr (.inr (some 85)), .inl (v3_5 - 1), .inr (.inr (some 85))]) (h' := gc_h sh I3 J4 A) (C := (True ∧ True)) rfl ⟨trivial, trivial⟩ ?_
          have f81 := (show 0 ≤ I3 85 (Int.toNat (v3_5 - 1)) ∧ I3 85 (Int.toNat (v3_5 - 1)) ≤ 7 from gc_in hI3 R_85 rfl rfl)
          refine gv_iald hD rfl S_85 rfl ⟨by decide, B_85⟩ ⟨by exact gz_m 183 (by omega), by exact gz_m 184 (by omega)⟩ (gc_iI S_85 rfl) ?_
          show gv_X _ _ (50, [(5, .inl (I3 84 (Int.toNat (v3_5 - 1)))), (0, .inr (.inr (some 74))), (2, .inr (.inr (some a2))), (3, .inl v3_5), (4, .inl v4_5)], [.inl (I3 85 (Int.toNat (v3_5 - 1))), .inl (v3_5 - 1), .inr (.inr (some 85))], sh, gc_h sh I3 J4 A)
          refine gv_run 3 true hD (pc' := 53) (lv' := [(5, .inl (I3 84 (Int.toNat (v3_5 - 1)))), (0, .inr (.inr (some 74))), (2, .inr (.inr (some a2))), (3, .inl v3_5), (4, .inl v4_5)]) (st' := [.inl ((I3 85 (Int.toNat (v3_5 - 1))) + 1), .inl (v3_5 - 1), .inr (.inr (some 85)), .inl (I3 85 (Int.toNat (v3_5 - 1)))]) (h' := gc_h sh I3 J4 A) (C := (((True ∧ True) ∧ True) ∧ True)) rfl ⟨⟨⟨trivial, trivial⟩, trivial⟩, trivial⟩ ?_
          refine gv_iast hD rfl S_85 ⟨by decide, B_85⟩ ⟨by exact gz_m 185 (by omega), by exact gz_m 186 (by omega)⟩ ?_
          refine gc_st hI3 S_85 rfl R_85 (lo := 0) (hi := 7) rfl rfl (by exact gz_m 187 (by omega)) (by exact gz_m 188 (by omega)) (fun I82 hI82 q83 p83 => ?_)
          have FI82 := gc_frs (W := fun q j => q = 84 ∨ q = 85 ∨ (q = a2 ∧ j = 1) ∨ q = (a2 + 1)) FI3 (Or.inr (Or.inl rfl)) p83
          have t84 := p83 t 13 (fun h => absurd h.1 N_t__85)
          have t85 := p83 74 1 (fun h => absurd h.1 (by decide))
          show gv_X _ _ (54, [(5, .inl (I3 84 (Int.toNat (v3_5 - 1)))), (0, .inr (.inr (some 74))), (2, .inr (.inr (some a2))), (3, .inl v3_5), (4, .inl v4_5)], [.inl (I3 85 (Int.toNat (v3_5 - 1)))], sh, gc_h sh I82 J4 A)
          have t86 := p83 84 (Int.toNat (v3_5 - 1)) (fun h => absurd h.1 (by decide))
          refine gv_run 1 true hD (pc' := 56) (lv' := [(6, .inl (I3 85 (Int.toNat (v3_5 - 1)))), (5, .inl (I3 84 (Int.toNat (v3_5 - 1)))), (0, .inr (.inr (some 74))), (2, .inr (.inr (some a2))), (3, .inl v3_5), (4, .inl v4_5)]) (st' := []) (h' := gc_h sh I82 J4 A) (C := (True ∧ True)) rfl ⟨trivial, trivial⟩ ?_
          refine gv_pick [2, 3, 4, 5, 1, 0] rfl ?_
          exact L56 I82 J4 ((I3 84 (Int.toNat (v3_5 - 1)))) ((I3 85 (Int.toNat (v3_5 - 1)))) hI82 FI82 FJ4 (by exact gz_m 189 (by omega)) (gc_OQ_st e0_5 (by exact gz_m 190 (by omega)) (fun j hj => (p83 84 j (fun h => absurd h.1 (by exact gz_m 191 (by omega))))) (fun j hj => (p83 85 j (fun h => by have := h.2; exact gz_m 192 (by omega))))) (e0_5 (Int.toNat (v3_5 - 1)) (by exact gz_m 193 (by omega))).2.2
  refine gv_run 3 true hD (pc' := 3) (lv' := [(3, .inl 1), (0, .inr (.inr (some 74))), (1, .inl a1), (2, .inr (.inr (some a2)))]) (st' := [.inr (.inr (some 74))]) (h' := gc_h sh I J A) (C := (((True ∧ True) ∧ True) ∧ True)) rfl ⟨⟨⟨trivial, trivial⟩, trivial⟩, trivial⟩ ?_
  refine gv_get hD rfl rfl S_74 ⟨by decide, B_74⟩ (gc_hA S_74 rfl A_74_12) ?_
  show gv_X _ _ (6, [(3, .inl 1), (0, .inr (.inr (some 74))), (1, .inl a1), (2, .inr (.inr (some a2)))], [.inr (.inr (some 84))], sh, gc_h sh I J A)
  refine gv_run 2 true hD (pc' := 8) (lv' := [(3, .inl 1), (0, .inr (.inr (some 74))), (1, .inl a1), (2, .inr (.inr (some a2)))]) (st' := [.inl a1, .inl 0, .inr (.inr (some 84))]) (h' := gc_h sh I J A) (C := ((True ∧ True) ∧ True)) rfl ⟨⟨trivial, trivial⟩, trivial⟩ ?_
  refine gv_iast hD rfl S_84 ⟨by decide, B_84⟩ ⟨by exact gz_m 194 (by omega), by exact gz_m 195 (by omega)⟩ ?_
  refine gc_st (k := 0) hI S_84 rfl R_84 (lo := 0) (hi := 1439) rfl rfl (by exact gz_m 196 (by omega)) (by exact gz_m 197 (by omega)) (fun I87 hI87 q88 p88 => ?_)
  have FI87 := gc_frs (W := fun q j => q = 84 ∨ q = 85 ∨ (q = a2 ∧ j = 1) ∨ q = (a2 + 1)) FI (Or.inl rfl) p88
  have t89 := p88 t 13 (fun h => absurd h.2 (by decide))
  have t90 := p88 74 1 (fun h => absurd h.2 (by decide))
  show gv_X _ _ (9, [(3, .inl 1), (0, .inr (.inr (some 74))), (1, .inl a1), (2, .inr (.inr (some a2)))], [], sh, gc_h sh I87 J A)
  refine gv_run 1 true hD (pc' := 10) (lv' := [(3, .inl 1), (0, .inr (.inr (some 74))), (1, .inl a1), (2, .inr (.inr (some a2)))]) (st' := [.inr (.inr (some 74))]) (h' := gc_h sh I87 J A) (C := (True ∧ True)) rfl ⟨trivial, trivial⟩ ?_
  refine gv_get hD rfl rfl S_74 ⟨by decide, B_74⟩ (gc_hA S_74 rfl A_74_13) ?_
  show gv_X _ _ (13, [(3, .inl 1), (0, .inr (.inr (some 74))), (1, .inl a1), (2, .inr (.inr (some a2)))], [.inr (.inr (some 85))], sh, gc_h sh I87 J A)
  refine gv_run 2 true hD (pc' := 15) (lv' := [(3, .inl 1), (0, .inr (.inr (some 74))), (1, .inl a1), (2, .inr (.inr (some a2)))]) (st' := [.inl 0, .inl 0, .inr (.inr (some 85))]) (h' := gc_h sh I87 J A) (C := ((True ∧ True) ∧ True)) rfl ⟨⟨trivial, trivial⟩, trivial⟩ ?_
  refine gv_iast hD rfl S_85 ⟨by decide, B_85⟩ ⟨by exact gz_m 198 (by omega), by exact gz_m 199 (by omega)⟩ ?_
  refine gc_st (k := 0) hI87 S_85 rfl R_85 (lo := 0) (hi := 7) rfl rfl (by exact gz_m 200 (by omega)) (by exact gz_m 201 (by omega)) (fun I91 hI91 q92 p92 => ?_)
  have FI91 := gc_frs (W := fun q j => q = 84 ∨ q = 85 ∨ (q = a2 ∧ j = 1) ∨ q = (a2 + 1)) FI87 (Or.inr (Or.inl rfl)) p92
  have t93 := p92 t 13 (fun h => absurd h.2 (by decide))
  have t94 := p92 74 1 (fun h => absurd h.2 (by decide))
  show gv_X _ _ (16, [(3, .inl 1), (0, .inr (.inr (some 74))), (1, .inl a1), (2, .inr (.inr (some a2)))], [], sh, gc_h sh I91 J A)
  refine gv_run 2 true hD (pc' := 19) (lv' := [(4, .inl 0), (3, .inl 1), (0, .inr (.inr (some 74))), (1, .inl a1), (2, .inr (.inr (some a2)))]) (st' := []) (h' := gc_h sh I91 J A) (C := ((True ∧ True) ∧ True)) rfl ⟨⟨trivial, trivial⟩, trivial⟩ ?_
  refine gv_pick [2, 4, 1, 0] rfl ?_
  exact L19 _ I91 J 1 0 (Nat.lt_succ_self _) hI91 FI91 FJ (by exact gz_m 202 (by omega)) (gc_OQ_up (n := 0) (e := a1) (fun j hj => by exact gz_m 203 (by omega)) (by exact gz_m 204 (by omega)) (by exact gz_m 205 (by omega)) (((p92 84 0 (fun h => absurd h.1 (by exact gz_m 206 (by omega))))).trans q88) (by exact gz_m 207 (by omega)) (show I91 85 0 ≤ 6 from by exact gz_m 208 (by omega)) x6)
