def gc_op (I : gr_I) (T : Nat) : Nat → Int
  | 0 => 1
  | n + 1 => gc_op I T n - 1 + I 12 (Int.toNat (I T n))
def gc_wtr (I : gr_I) (T : Nat) (n : Int) : Prop := (∀ i : Nat, (i : Int) < n → 1 ≤ gc_op I T i) ∧ gc_op I T (Int.toNat n) = 0
theorem gc_op_fr {I I' : gr_I} {T : Nat} : ∀ {n : Nat}, (∀ k, k < n → I' T k = I T k) → (∀ k, I' 12 k = I 12 k) → gc_op I' T n = gc_op I T n
  | 0, _, _ => rfl
  | n + 1, h, h2 => by
    show gc_op I' T n - 1 + I' 12 (Int.toNat (I' T n)) = gc_op I T n - 1 + I 12 (Int.toNat (I T n))
    rw [gc_op_fr (n := n) (fun k hk => h k (by omega)) h2, h n (by omega), h2]
def gc_SE (I : gr_I) (n : Int) : Prop := ∀ k : Nat, (k : Int) < n → 0 ≤ I 47 k ∧ I 47 k < I 12 (Int.toNat (I 46 k))
def gc_ss (I : gr_I) : Nat → Int
  | 0 => 0
  | d + 1 => gc_ss I d + (I 12 (Int.toNat (I 46 d)) - I 47 d - 1)
theorem gc_ss_at {I : gr_I} {d : Int} (h : 0 < d) : gc_ss I (Int.toNat d) = gc_ss I (Int.toNat (d - 1)) + (I 12 (Int.toNat (I 46 (Int.toNat (d - 1)))) - I 47 (Int.toNat (d - 1)) - 1) := by
  rw [show Int.toNat d = Int.toNat (d - 1) + 1 from by omega]
  rfl
set_option maxHeartbeats 8000000 in
theorem gc_ss_fr {I I' : gr_I} : ∀ {d : Nat}, (∀ k, k < d → I' 47 k = I 47 k) → (∀ k, k < d → I' 46 k = I 46 k) → (∀ k, I' 12 k = I 12 k) → gc_ss I' d = gc_ss I d
  | 0, _, _, _ => rfl
  | d + 1, h, h2, h3 => by
    show gc_ss I' d + (I' 12 (Int.toNat (I' 46 d)) - I' 47 d - 1) = gc_ss I d + (I 12 (Int.toNat (I 46 d)) - I 47 d - 1)
    rw [gc_ss_fr (d := d) (fun k hk => h k (by exact gz_m 0 (by omega))) (fun k hk => h2 k (by exact gz_m 1 (by omega))) h3, h d (by exact gz_m 2 (by omega)), h2 d (by exact gz_m 3 (by omega)), h3]
theorem gc_SE_fr {I I' : gr_I} {n : Int} (h : gc_SE I n) (h1 : ∀ k : Nat, (k : Int) < n → I' 47 k = I 47 k) (h2 : ∀ k : Nat, (k : Int) < n → I' 46 k = I 46 k) (h3 : ∀ k, I' 12 k = I 12 k) : gc_SE I' n := fun k hk => by rw [h1 k hk, h2 k hk, h3]; exact h k hk
theorem gc_ss_nn {I : gr_I} : ∀ {d : Nat}, gc_SE I (d : Int) → 0 ≤ gc_ss I d
  | 0, _ => Int.le_refl 0
  | d + 1, h => by
    have h1 := gc_ss_nn (d := d) (fun k hk => h k (by exact gz_m 0 (by omega)))
    have h2 := h d (by exact gz_m 1 (by omega))
    show 0 ≤ gc_ss I d + (I 12 (Int.toNat (I 46 d)) - I 47 d - 1)
    exact gz_m 2 (by omega)
set_option maxHeartbeats 8000000 in
set_option maxRecDepth 100000 in
theorem d_X6_kindWanted {ws0 : List Cond} {tb : String → gz_T} (hws : gc_Ws ws0) (htb : gc_tbs tb) (sh : gz_Sh) (ro : Nat → Nat) (I : gr_I) (J : gr_J) (A : gc_A) (hI : gc_Inv ro I) (a1 : Int) (hb : gc_Base sh ro A) (ha1 : 0 ≤ a1 ∧ a1 ≤ 59) (x0 : 0 ≤ I 47 (Int.toNat a1) ∧ I 47 (Int.toNat a1) ≤ 3) : ∃ r h', gz_Ev ws0 tb 1 (yX6_kindWanted, cX6_kindWanted, 2, (some .int)) [.inr (.inr (some 39)), .inl a1] sh (gc_h sh I J A) r sh h' 0 0 ∧ (h' = gc_h sh I J A ∧ (∃ z : Int, r = some (.inl z) ∧ 0 ≤ z ∧ z ≤ 31)) := by
  have A_1_8 : A 1 8 = some 13 := gc_bA hb rfl
  have A_39_0 : A 39 0 = some 1 := gc_bA hb rfl
  have A_39_17 : A 39 17 = some 46 := gc_bA hb rfl
  have A_39_18 : A 39 18 = some 47 := gc_bA hb rfl
  have B_1 : 1 < 1000000 := by decide
  have B_13 : 13 < 1000000 := by decide
  have B_39 : 39 < 1000000 := by decide
  have B_46 : 46 < 1000000 := by decide
  have B_47 : 47 < 1000000 := by decide
  have R_13 : ro 13 = 25 := gc_bR hb (by decide) rfl
  have R_46 : ro 46 = 37 := gc_bR hb (by decide) rfl
  have R_47 : ro 47 = 0 := gc_bR hb (by decide) rfl
  have S_1 : sh[1]? = some (false, 8, 21) := gc_bS hb rfl
  have S_13 : sh[13]? = some (true, 1, 384) := gc_bS hb rfl
  have S_39 : sh[39]? = some (false, 6, 19) := gc_bS hb rfl
  have S_46 : sh[46]? = some (true, 1, 60) := gc_bS hb rfl
  have S_47 : sh[47]? = some (true, 1, 60) := gc_bS hb rfl
  have hD : gv_D (gc_E6 ws0 tb 0 (yX6_kindWanted, cX6_kindWanted, 2, (some .int)) kX6_kindWanted) := gq_of oX6_kindWanted
  refine gc_ev6 (d := 0) (l := kX6_kindWanted) (Po := fun r h' => (h' = gc_h sh I J A ∧ (∃ z : Int, r = some (.inl z) ∧ 0 ≤ z ∧ z ≤ 31))) htb rfl (Nat.le_of_ble_eq_true rfl) ?_
  refine gv_run 1 true hD (pc' := 1) (lv' := [(0, .inr (.inr (some 39))), (1, .inl a1)]) (st' := [.inr (.inr (some 39))]) (h' := gc_h sh I J A) (C := (True ∧ True)) rfl ⟨trivial, trivial⟩ ?_
  refine gv_get hD rfl rfl S_39 ⟨by decide, B_39⟩ (gc_hA S_39 rfl A_39_0) ?_
  show gv_X _ _ (4, [(0, .inr (.inr (some 39))), (1, .inl a1)], [.inr (.inr (some 1))], sh, gc_h sh I J A)
  refine gv_get hD rfl rfl S_1 ⟨by decide, B_1⟩ (gc_hA S_1 rfl A_1_8) ?_
  show gv_X _ _ (7, [(0, .inr (.inr (some 39))), (1, .inl a1)], [.inr (.inr (some 13))], sh, gc_h sh I J A)
  refine gv_run 1 true hD (pc' := 8) (lv' := [(0, .inr (.inr (some 39))), (1, .inl a1)]) (st' := [.inr (.inr (some 39)), .inr (.inr (some 13))]) (h' := gc_h sh I J A) (C := (True ∧ True)) rfl ⟨trivial, trivial⟩ ?_
  refine gv_get hD rfl rfl S_39 ⟨by decide, B_39⟩ (gc_hA S_39 rfl A_39_17) ?_
  show gv_X _ _ (11, [(0, .inr (.inr (some 39))), (1, .inl a1)], [.inr (.inr (some 46)), .inr (.inr (some 13))], sh, gc_h sh I J A)
  refine gv_run 1 true hD (pc' := 12) (lv' := [(0, .inr (.inr (some 39))), (1, .inl a1)]) (st' := [.inl a1, .inr (.inr (some 46)), .inr (.inr (some 13))]) (h' := gc_h sh I J A) (C := (True ∧ True)) rfl ⟨trivial, trivial⟩ ?_
  have f1 := (show 0 ≤ I 46 (Int.toNat a1) ∧ I 46 (Int.toNat a1) ≤ 95 from gc_in hI R_46 rfl rfl)
  refine gv_iald hD rfl S_46 rfl ⟨by decide, B_46⟩ ⟨by exact gz_m 0 (by omega), by exact gz_m 1 (by omega)⟩ (gc_iI S_46 rfl) ?_
  show gv_X _ _ (13, [(0, .inr (.inr (some 39))), (1, .inl a1)], [.inl (I 46 (Int.toNat a1)), .inr (.inr (some 13))], sh, gc_h sh I J A)
  refine gv_run 3 true hD (pc' := 16) (lv' := [(0, .inr (.inr (some 39))), (1, .inl a1)]) (st' := [.inr (.inr (some 39)), .inl ((I 46 (Int.toNat a1)) * 4), .inr (.inr (some 13))]) (h' := gc_h sh I J A) (C := (((True ∧ True) ∧ True) ∧ True)) rfl ⟨⟨⟨trivial, trivial⟩, trivial⟩, trivial⟩ ?_
  refine gv_get hD rfl rfl S_39 ⟨by decide, B_39⟩ (gc_hA S_39 rfl A_39_18) ?_
  show gv_X _ _ (19, [(0, .inr (.inr (some 39))), (1, .inl a1)], [.inr (.inr (some 47)), .inl ((I 46 (Int.toNat a1)) * 4), .inr (.inr (some 13))], sh, gc_h sh I J A)
  refine gv_run 1 true hD (pc' := 20) (lv' := [(0, .inr (.inr (some 39))), (1, .inl a1)]) (st' := [.inl a1, .inr (.inr (some 47)), .inl ((I 46 (Int.toNat a1)) * 4), .inr (.inr (some 13))]) (h' := gc_h sh I J A) (C := (True ∧ True)) rfl ⟨trivial, trivial⟩ ?_
  have f2 := (show (-2147483648) ≤ I 47 (Int.toNat a1) ∧ I 47 (Int.toNat a1) ≤ 2147483647 from gc_in hI R_47 rfl rfl)
  refine gv_iald hD rfl S_47 rfl ⟨by decide, B_47⟩ ⟨by exact gz_m 2 (by omega), by exact gz_m 3 (by omega)⟩ (gc_iI S_47 rfl) ?_
  show gv_X _ _ (21, [(0, .inr (.inr (some 39))), (1, .inl a1)], [.inl (I 47 (Int.toNat a1)), .inl ((I 46 (Int.toNat a1)) * 4), .inr (.inr (some 13))], sh, gc_h sh I J A)
  refine gv_run 1 true hD (pc' := 22) (lv' := [(0, .inr (.inr (some 39))), (1, .inl a1)]) (st' := [.inl (((I 46 (Int.toNat a1)) * 4) + (I 47 (Int.toNat a1))), .inr (.inr (some 13))]) (h' := gc_h sh I J A) (C := (True ∧ True)) rfl ⟨trivial, trivial⟩ ?_
  have f3 := (show 0 ≤ I 13 (Int.toNat ((((I 46 (Int.toNat a1)) * 4) + (I 47 (Int.toNat a1))))) ∧ I 13 (Int.toNat ((((I 46 (Int.toNat a1)) * 4) + (I 47 (Int.toNat a1))))) ≤ 31 from gc_in hI R_13 rfl rfl)
  refine gv_iald hD rfl S_13 rfl ⟨by decide, B_13⟩ ⟨by exact gz_m 4 (by omega), by exact gz_m 5 (by omega)⟩ (gc_iI S_13 rfl) ?_
  show gv_X _ _ (23, [(0, .inr (.inr (some 39))), (1, .inl a1)], [.inl (I 13 (Int.toNat ((((I 46 (Int.toNat a1)) * 4) + (I 47 (Int.toNat a1))))))], sh, gc_h sh I J A)
  exact gv_iret hD rfl ⟨rfl, ⟨_, rfl, by exact gz_m 6 (by omega)⟩⟩
set_option maxHeartbeats 8000000 in
set_option maxRecDepth 100000 in
theorem d_X6_closeArguments {ws0 : List Cond} {tb : String → gz_T} (hws : gc_Ws ws0) (htb : gc_tbs tb) (sh : gz_Sh) (ro : Nat → Nat) (I : gr_I) (J : gr_J) (A : gc_A) (hI : gc_Inv ro I) (a1 : Int) (hb : gc_Base sh ro A) (ha1 : 0 ≤ a1 ∧ a1 ≤ 60) (x0 : gc_SE I a1) (KLT_I : gc_LT I) (KTK_I : gc_TK I) : ∃ r h', gz_Ev ws0 tb 3 (yX6_closeArguments, cX6_closeArguments, 4, (some .int)) [.inr (.inr (some 39)), .inl a1] sh (gc_h sh I J A) r sh h' 0 0 ∧ (∃ (I' : gr_I) (J' : gr_J), h' = gc_h sh I' J' A ∧ gc_Inv ro I' ∧ (∀ q j : Nat, ((q = 39 ∧ j = 3) ∨ (q = 39 ∧ j = 4) ∨ (q = 23 ∧ j = 5) ∨ (q = 23 ∧ j = 6) ∨ (q = 23 ∧ j = 7) ∨ (q = 23 ∧ j = 8) ∨ q = 47) ∨ I' q j = I q j) ∧ (∀ q j : Nat, ((q = 23 ∧ j = 9)) ∨ J' q j = J q j) ∧ gc_LT I' ∧ gc_TK I' ∧ (∃ z : Int, r = some (.inl z) ∧ (-1) ≤ z ∧ z ≤ 60 ∧ (I' 23 1 = I 23 1) ∧ (I 23 5 ≤ I' 23 5) ∧ (z ≤ a1) ∧ (gc_SE I' z) ∧ (z = 0 → gc_ss I (Int.toNat a1) = 0) ∧ (1 ≤ z → gc_ss I' (Int.toNat z) = gc_ss I (Int.toNat a1) - 1))) := by
  have FI : ∀ q j : Nat, ((q = 39 ∧ j = 3) ∨ (q = 39 ∧ j = 4) ∨ (q = 23 ∧ j = 5) ∨ (q = 23 ∧ j = 6) ∨ (q = 23 ∧ j = 7) ∨ (q = 23 ∧ j = 8) ∨ q = 47) ∨ I q j = I q j := fun _ _ => Or.inr rfl
  have FJ : ∀ q j : Nat, ((q = 23 ∧ j = 9)) ∨ J q j = J q j := fun _ _ => Or.inr rfl
  have A_1_7 : A 1 7 = some 12 := gc_bA hb rfl
  have A_39_0 : A 39 0 = some 1 := gc_bA hb rfl
  have A_39_1 : A 39 1 = some 23 := gc_bA hb rfl
  have A_39_17 : A 39 17 = some 46 := gc_bA hb rfl
  have A_39_18 : A 39 18 = some 47 := gc_bA hb rfl
  have B_1 : 1 < 1000000 := by decide
  have B_12 : 12 < 1000000 := by decide
  have B_23 : 23 < 1000000 := by decide
  have B_39 : 39 < 1000000 := by decide
  have B_46 : 46 < 1000000 := by decide
  have B_47 : 47 < 1000000 := by decide
  have R_12 : ro 12 = 26 := gc_bR hb (by decide) rfl
  have R_23 : ro 23 = 3 := gc_bR hb (by decide) rfl
  have R_46 : ro 46 = 37 := gc_bR hb (by decide) rfl
  have R_47 : ro 47 = 0 := gc_bR hb (by decide) rfl
  have S_1 : sh[1]? = some (false, 8, 21) := gc_bS hb rfl
  have S_12 : sh[12]? = some (true, 1, 96) := gc_bS hb rfl
  have S_23 : sh[23]? = some (false, 9, 10) := gc_bS hb rfl
  have S_39 : sh[39]? = some (false, 6, 19) := gc_bS hb rfl
  have S_46 : sh[46]? = some (true, 1, 60) := gc_bS hb rfl
  have S_47 : sh[47]? = some (true, 1, 60) := gc_bS hb rfl
  have hD : gv_D (gc_E6 ws0 tb 2 (yX6_closeArguments, cX6_closeArguments, 4, (some .int)) kX6_closeArguments) := gq_of oX6_closeArguments
  refine gc_ev6 (d := 2) (l := kX6_closeArguments) (Po := fun r h' => (∃ (I' : gr_I) (J' : gr_J), h' = gc_h sh I' J' A ∧ gc_Inv ro I' ∧ (∀ q j : Nat, ((q = 39 ∧ j = 3) ∨ (q = 39 ∧ j = 4) ∨ (q = 23 ∧ j = 5) ∨ (q = 23 ∧ j = 6) ∨ (q = 23 ∧ j = 7) ∨ (q = 23 ∧ j = 8) ∨ q = 47) ∨ I' q j = I q j) ∧ (∀ q j : Nat, ((q = 23 ∧ j = 9)) ∨ J' q j = J q j) ∧ gc_LT I' ∧ gc_TK I' ∧ (∃ z : Int, r = some (.inl z) ∧ (-1) ≤ z ∧ z ≤ 60 ∧ (I' 23 1 = I 23 1) ∧ (I 23 5 ≤ I' 23 5) ∧ (z ≤ a1) ∧ (gc_SE I' z) ∧ (z = 0 → gc_ss I (Int.toNat a1) = 0) ∧ (1 ≤ z → gc_ss I' (Int.toNat z) = gc_ss I (Int.toNat a1) - 1)))) htb rfl (Nat.le_of_ble_eq_true rfl) ?_
  have t1 := gc_TK_mo KTK_I
  have f2 := (show 0 ≤ I 23 1 ∧ I 23 1 ≤ 1000 from gc_in hI R_23 rfl rfl)
  have f3 := (show 0 ≤ I 23 5 ∧ I 23 5 ≤ 1000 from gc_in hI R_23 rfl rfl)
  have f4 := (show 0 ≤ I 23 6 ∧ I 23 6 ≤ 1001 from gc_in hI R_23 rfl rfl)
  have f5 := (show 0 ≤ I 23 7 ∧ I 23 7 ≤ 125 from gc_in hI R_23 rfl rfl)
  have L2 : ∀ (n9 : Nat) (I6 : gr_I) (J7 : gr_J) (v2_8 : Int), (v2_8).toNat < n9 → gc_Inv ro I6 → (∀ q j : Nat, ((q = 39 ∧ j = 3) ∨ (q = 39 ∧ j = 4) ∨ (q = 23 ∧ j = 5) ∨ (q = 23 ∧ j = 6) ∨ (q = 23 ∧ j = 7) ∨ (q = 23 ∧ j = 8) ∨ q = 47) ∨ I6 q j = I q j) → (∀ q j : Nat, ((q = 23 ∧ j = 9)) ∨ J7 q j = J q j) → gc_LT I6 → gc_TK I6 → ((0 ≤ v2_8 ∧ v2_8 ≤ 60) ∧ (v2_8 ≤ a1) ∧ (I6 23 1 = I 23 1) ∧ (I 23 5 ≤ I6 23 5)) → (gc_SE I6 v2_8) → (gc_ss I6 (Int.toNat v2_8) = gc_ss I (Int.toNat a1)) → gv_X (gc_E6 ws0 tb 2 (yX6_closeArguments, cX6_closeArguments, 4, (some .int)) kX6_closeArguments) (gv_Q cX6_closeArguments (some .int) sh (fun r h' => (∃ (I' : gr_I) (J' : gr_J), h' = gc_h sh I' J' A ∧ gc_Inv ro I' ∧ (∀ q j : Nat, ((q = 39 ∧ j = 3) ∨ (q = 39 ∧ j = 4) ∨ (q = 23 ∧ j = 5) ∨ (q = 23 ∧ j = 6) ∨ (q = 23 ∧ j = 7) ∨ (q = 23 ∧ j = 8) ∨ q = 47) ∨ I' q j = I q j) ∧ (∀ q j : Nat, ((q = 23 ∧ j = 9)) ∨ J' q j = J q j) ∧ gc_LT I' ∧ gc_TK I' ∧ (∃ z : Int, r = some (.inl z) ∧ (-1) ≤ z ∧ z ≤ 60 ∧ (I' 23 1 = I 23 1) ∧ (I 23 5 ≤ I' 23 5) ∧ (z ≤ a1) ∧ (gc_SE I' z) ∧ (z = 0 → gc_ss I (Int.toNat a1) = 0) ∧ (1 ≤ z → gc_ss I' (Int.toNat z) = gc_ss I (Int.toNat a1) - 1))))) (2, [(0, .inr (.inr (some 39))), (2, .inl v2_8)], [], sh, gc_h sh I6 J7 A) := by
    intro n9
    induction n9 with
    | zero => intro I6 J7 v2_8 hn; exact gz_m 0 (by omega)
    | succ n9 ih2 =>
      intro I6 J7 v2_8 hn hI6 FI6 FJ7 KLT_I6 KTK_I6 m_8 e0_8 e1_8
      obtain ⟨hv2_8, e2_8, e3_8, e4_8⟩ := m_8
      have t9 := gc_TK_mo KTK_I6
      have f10 := (show 0 ≤ I6 23 1 ∧ I6 23 1 ≤ 1000 from gc_in hI6 R_23 rfl rfl)
      have f11 := (show 0 ≤ I6 23 5 ∧ I6 23 5 ≤ 1000 from gc_in hI6 R_23 rfl rfl)
      have f12 := (show 0 ≤ I6 23 6 ∧ I6 23 6 ≤ 1001 from gc_in hI6 R_23 rfl rfl)
      have f13 := (show 0 ≤ I6 23 7 ∧ I6 23 7 ≤ 125 from gc_in hI6 R_23 rfl rfl)
      have L50 : ∀ (I14 : gr_I) (J15 : gr_J) (s0_16 : Int), gc_Inv ro I14 → (∀ q j : Nat, ((q = 39 ∧ j = 3) ∨ (q = 39 ∧ j = 4) ∨ (q = 23 ∧ j = 5) ∨ (q = 23 ∧ j = 6) ∨ (q = 23 ∧ j = 7) ∨ (q = 23 ∧ j = 8) ∨ q = 47) ∨ I14 q j = I q j) → (∀ q j : Nat, ((q = 23 ∧ j = 9)) ∨ J15 q j = J q j) → gc_LT I14 → gc_TK I14 → ((1 ≤ v2_8 ∧ v2_8 ≤ 60) ∧ (0 ≤ s0_16 ∧ s0_16 ≤ 1) ∧ (1 ≤ v2_8) ∧ (0 ≤ I14 47 (Int.toNat (v2_8 - 1))) ∧ (I14 47 (Int.toNat (v2_8 - 1)) ≤ I14 12 (Int.toNat (I14 46 (Int.toNat (v2_8 - 1))))) ∧ (s0_16 = 0 ∨ I14 47 (Int.toNat (v2_8 - 1)) < I14 12 (Int.toNat (I14 46 (Int.toNat (v2_8 - 1))))) ∧ (s0_16 = 1 ∨ I14 47 (Int.toNat (v2_8 - 1)) = I14 12 (Int.toNat (I14 46 (Int.toNat (v2_8 - 1))))) ∧ (v2_8 ≤ a1) ∧ (I14 23 1 = I 23 1) ∧ (I 23 5 ≤ I14 23 5)) → (gc_SE I14 (v2_8 - 1)) → (gc_ss I14 (Int.toNat v2_8) = gc_ss I (Int.toNat a1) - 1) → gv_X (gc_E6 ws0 tb 2 (yX6_closeArguments, cX6_closeArguments, 4, (some .int)) kX6_closeArguments) (gv_Q cX6_closeArguments (some .int) sh (fun r h' => (∃ (I' : gr_I) (J' : gr_J), h' = gc_h sh I' J' A ∧ gc_Inv ro I' ∧ (∀ q j : Nat, ((q = 39 ∧ j = 3) ∨ (q = 39 ∧ j = 4) ∨ (q = 23 ∧ j = 5) ∨ (q = 23 ∧ j = 6) ∨ (q = 23 ∧ j = 7) ∨ (q = 23 ∧ j = 8) ∨ q = 47) ∨ I' q j = I q j) ∧ (∀ q j : Nat, ((q = 23 ∧ j = 9)) ∨ J' q j = J q j) ∧ gc_LT I' ∧ gc_TK I' ∧ (∃ z : Int, r = some (.inl z) ∧ (-1) ≤ z ∧ z ≤ 60 ∧ (I' 23 1 = I 23 1) ∧ (I 23 5 ≤ I' 23 5) ∧ (z ≤ a1) ∧ (gc_SE I' z) ∧ (z = 0 → gc_ss I (Int.toNat a1) = 0) ∧ (1 ≤ z → gc_ss I' (Int.toNat z) = gc_ss I (Int.toNat a1) - 1))))) (50, [(0, .inr (.inr (some 39))), (2, .inl v2_8)], [.inl s0_16], sh, gc_h sh I14 J15 A) := by
        intro I14 J15 s0_16 hI14 FI14 FJ15 KLT_I14 KTK_I14 m_16 e0_16 e1_16
        clear hv2_8 e2_8 e3_8 e4_8 t9 f10 f11 f12 f13
        obtain ⟨hv2_8_16, hs0_16, e2_16, e3_16, e4_16, e5_16, e6_16, e7_16, e8_16, e9_16⟩ := m_16
        have t17 := gc_TK_mo KTK_I14
        have f18 := (show 0 ≤ I14 23 1 ∧ I14 23 1 ≤ 1000 from gc_in hI14 R_23 rfl rfl)
        have f19 := (show 0 ≤ I14 23 5 ∧ I14 23 5 ≤ 1000 from gc_in hI14 R_23 rfl rfl)
        have f20 := (show 0 ≤ I14 23 6 ∧ I14 23 6 ≤ 1001 from gc_in hI14 R_23 rfl rfl)
        have f21 := (show 0 ≤ I14 23 7 ∧ I14 23 7 ≤ 125 from gc_in hI14 R_23 rfl rfl)
        have L69 : ∀ (v3_22 : Int) (s0_22 : Int) (s1_22 : Int), ((1 ≤ v2_8 ∧ v2_8 ≤ 60) ∧ (0 ≤ v3_22 ∧ v3_22 ≤ 1) ∧ (0 ≤ s0_22 ∧ s0_22 ≤ 125) ∧ (41 ≤ s1_22 ∧ s1_22 ≤ 44) ∧ (1 ≤ v2_8) ∧ (0 ≤ I14 47 (Int.toNat (v2_8 - 1))) ∧ (v3_22 = 0 ∨ I14 47 (Int.toNat (v2_8 - 1)) < I14 12 (Int.toNat (I14 46 (Int.toNat (v2_8 - 1))))) ∧ (v3_22 = 1 ∨ I14 47 (Int.toNat (v2_8 - 1)) = I14 12 (Int.toNat (I14 46 (Int.toNat (v2_8 - 1))))) ∧ (s1_22 = 44 ∨ s1_22 = 41) ∧ (s0_22 = I14 23 7) ∧ (v2_8 ≤ a1) ∧ (I14 23 1 = I 23 1) ∧ (I 23 5 ≤ I14 23 5)) → gv_X (gc_E6 ws0 tb 2 (yX6_closeArguments, cX6_closeArguments, 4, (some .int)) kX6_closeArguments) (gv_Q cX6_closeArguments (some .int) sh (fun r h' => (∃ (I' : gr_I) (J' : gr_J), h' = gc_h sh I' J' A ∧ gc_Inv ro I' ∧ (∀ q j : Nat, ((q = 39 ∧ j = 3) ∨ (q = 39 ∧ j = 4) ∨ (q = 23 ∧ j = 5) ∨ (q = 23 ∧ j = 6) ∨ (q = 23 ∧ j = 7) ∨ (q = 23 ∧ j = 8) ∨ q = 47) ∨ I' q j = I q j) ∧ (∀ q j : Nat, ((q = 23 ∧ j = 9)) ∨ J' q j = J q j) ∧ gc_LT I' ∧ gc_TK I' ∧ (∃ z : Int, r = some (.inl z) ∧ (-1) ≤ z ∧ z ≤ 60 ∧ (I' 23 1 = I 23 1) ∧ (I 23 5 ≤ I' 23 5) ∧ (z ≤ a1) ∧ (gc_SE I' z) ∧ (z = 0 → gc_ss I (Int.toNat a1) = 0) ∧ (1 ≤ z → gc_ss I' (Int.toNat z) = gc_ss I (Int.toNat a1) - 1))))) (69, [(0, .inr (.inr (some 39))), (2, .inl v2_8), (3, .inl v3_22)], [.inl s1_22, .inl s0_22], sh, gc_h sh I14 J15 A) := by
          intro v3_22 s0_22 s1_22 m_22
          obtain ⟨hv2_8_22, hv3_22, hs0_22, hs1_22, e0_22, e1_22, e2_22, e3_22, e4_22, e5_22, e6_22, e7_22, e8_22⟩ := m_22
          have t23 := gc_TK_mo KTK_I14
          have f24 := (show 0 ≤ I14 23 1 ∧ I14 23 1 ≤ 1000 from gc_in hI14 R_23 rfl rfl)
          have f25 := (show 0 ≤ I14 23 5 ∧ I14 23 5 ≤ 1000 from gc_in hI14 R_23 rfl rfl)
          have f26 := (show 0 ≤ I14 23 6 ∧ I14 23 6 ≤ 1001 from gc_in hI14 R_23 rfl rfl)
          have f27 := (show 0 ≤ I14 23 7 ∧ I14 23 7 ≤ 125 from gc_in hI14 R_23 rfl rfl)
          refine gv_icmp_eq (t := 74) hD rfl rfl ⟨⟨by exact gz_m 1 (by omega), by exact gz_m 2 (by omega)⟩, ⟨by exact gz_m 3 (by omega), by exact gz_m 4 (by omega)⟩⟩ (fun c28 => ?_) (fun c28 => ?_)
          · show gv_X _ _ (74, [(0, .inr (.inr (some 39))), (2, .inl v2_8), (3, .inl v3_22)], [], sh, gc_h sh I14 J15 A)
            refine gv_run 1 true hD (pc' := 75) (lv' := [(0, .inr (.inr (some 39))), (2, .inl v2_8), (3, .inl v3_22)]) (st' := [.inr (.inr (some 39))]) (h' := gc_h sh I14 J15 A) (C := (True ∧ True)) rfl ⟨trivial, trivial⟩ ?_
            refine gv_get hD rfl rfl S_39 ⟨by decide, B_39⟩ (gc_hA S_39 rfl A_39_1) ?_
            show gv_X _ _ (78, [(0, .inr (.inr (some 39))), (2, .inl v2_8), (3, .inl v3_22)], [.inr (.inr (some 23))], sh, gc_h sh I14 J15 A)
            have t30 := gc_TK_nx KTK_I14 (by exact gz_m 5 (by omega))
            obtain ⟨r29, h29, E29, P29⟩ := d_X9_advance (ws0 := ws0) (tb := tb) hws htb sh ro I14 J15 A hI14 23  (gc_b23 hb)    (by exact gz_m 6 (by omega)) 
            obtain ⟨I31, J32, rfl, hI31, g29, k29, ⟨rfl, V29_0, V29_1, V29_2, V29_3, V29_4, q29⟩⟩ := P29
            have FI31 := gc_frc (W := fun q j => (q = 39 ∧ j = 3) ∨ (q = 39 ∧ j = 4) ∨ (q = 23 ∧ j = 5) ∨ (q = 23 ∧ j = 6) ∨ (q = 23 ∧ j = 7) ∨ (q = 23 ∧ j = 8) ∨ q = 47) (V := fun q j => (q = 23 ∧ j = 5) ∨ (q = 23 ∧ j = 6) ∨ (q = 23 ∧ j = 7) ∨ (q = 23 ∧ j = 8)) FI14 (fun q j h => (h.elim (fun h => (Or.inr (Or.inr (Or.inl h)))) (fun h => (h.elim (fun h => (Or.inr (Or.inr (Or.inr (Or.inl h))))) (fun h => (h.elim (fun h => (Or.inr (Or.inr (Or.inr (Or.inr (Or.inl h)))))) (fun h => (Or.inr (Or.inr (Or.inr (Or.inr (Or.inr (Or.inl h))))))))))))) g29
            have FJ32 := gc_frc (W := fun q j => (q = 23 ∧ j = 9)) (V := fun q j => (q = 23 ∧ j = 9)) FJ15 (fun q j h => h) k29
            have t33 := (g29 23 1).resolve_left (fun h => h.elim (fun h => absurd h.2 (by decide)) (fun h => h.elim (fun h => absurd h.2 (by decide)) (fun h => h.elim (fun h => absurd h.2 (by decide)) (fun h => absurd h.2 (by decide)))))
            have f34 := (show 0 ≤ I31 23 5 ∧ I31 23 5 ≤ 1000 from gc_in hI31 R_23 rfl rfl)
            have f35 := (show 0 ≤ I31 23 6 ∧ I31 23 6 ≤ 1001 from gc_in hI31 R_23 rfl rfl)
            have f36 := (show 0 ≤ I31 23 7 ∧ I31 23 7 ≤ 125 from gc_in hI31 R_23 rfl rfl)
            have KLT_I31 : gc_LT I31 := q29.2.2
            have KTK_I31 : gc_TK I31 := And.intro V29_0 (And.intro V29_1 (And.intro V29_2 (And.intro V29_3 V29_4)))
            have t37 := gc_TK_mo KTK_I31
            clear V29_0 V29_1 V29_2 V29_3 V29_4
            refine gv_callV hD rfl (As := []) (st := []) rfl B_23 S_23 rfl (gc_lV6 hws rfl) (Nat.le_of_ble_eq_true rfl) (gz_Ev_mono (d := 2) (by decide) E29) ?_
            show gv_X _ _ (81, [(0, .inr (.inr (some 39))), (2, .inl v2_8), (3, .inl v3_22)], [], sh, gc_h sh I31 J32 A)
            have t38 := (show I31 47 (Int.toNat (v2_8 - 1)) = I14 47 (Int.toNat (v2_8 - 1)) from (g29 47 _).resolve_left (by exact gz_m 7 (by omega)))
            have t39 := (show I31 12 (Int.toNat (I31 46 (Int.toNat (v2_8 - 1)))) = I14 12 (Int.toNat (I14 46 (Int.toNat (v2_8 - 1)))) from by rw [show I31 46 (Int.toNat (v2_8 - 1)) = I14 46 (Int.toNat (v2_8 - 1)) from (g29 46 _).resolve_left (by exact gz_m 8 (by omega))]; exact (g29 12 _).resolve_left (by exact gz_m 9 (by omega)))
            refine gv_run 1 true hD (pc' := 82) (lv' := [(0, .inr (.inr (some 39))), (2, .inl v2_8), (3, .inl v3_22)]) (st' := [.inl v3_22]) (h' := gc_h sh I31 J32 A) (C := (True ∧ True)) rfl ⟨trivial, trivial⟩ ?_
            refine gv_if_eq (t := 87) hD rfl rfl ⟨by exact gz_m 10 (by omega), by exact gz_m 11 (by omega)⟩ (fun c40 => ?_) (fun c40 => ?_)
            · show gv_X _ _ (87, [(0, .inr (.inr (some 39))), (2, .inl v2_8), (3, .inl v3_22)], [], sh, gc_h sh I31 J32 A)
              refine gv_run 2 true hD (pc' := 2) (lv' := [(2, .inl (v2_8 + (-1))), (0, .inr (.inr (some 39))), (3, .inl v3_22)]) (st' := []) (h' := gc_h sh I31 J32 A) (C := ((True ∧ True) ∧ True)) rfl ⟨⟨trivial, trivial⟩, trivial⟩ ?_
              refine gv_pick [1, 0] rfl ?_
              exact ih2 I31 J32 ((v2_8 + (-1))) (by exact gz_m 12 (by omega)) hI31 FI31 FJ32 KLT_I31 KTK_I31 (by exact gz_m 13 (by omega)) (fun k hk => (gc_SE_fr e0_16 (fun k _ => (g29 47 k).resolve_left (by exact gz_m 14 (by omega))) (fun k _ => (g29 46 k).resolve_left (by exact gz_m 15 (by omega))) (fun k => (g29 12 k).resolve_left (by exact gz_m 16 (by omega)))) k (by exact gz_m 17 (by omega))) (by have h1 := e1_16; have h2 := gc_ss_at (I := I14) (d := v2_8) (by exact gz_m 18 (by omega)); have h3 := gc_ss_fr (I := I14) (I' := I31) (d := Int.toNat (v2_8 - 1)) (fun k _ => (g29 47 k).resolve_left (by exact gz_m 19 (by omega))) (fun k _ => (g29 46 k).resolve_left (by exact gz_m 20 (by omega))) (fun k => (g29 12 k).resolve_left (by exact gz_m 21 (by omega))); rw [show Int.toNat (v2_8 + (-1)) = Int.toNat (v2_8 - 1) from by exact gz_m 22 (by omega)]; exact gz_m 23 (by omega))
            · show gv_X _ _ (85, [(0, .inr (.inr (some 39))), (2, .inl v2_8), (3, .inl v3_22)], [], sh, gc_h sh I31 J32 A)
              refine gv_run 1 true hD (pc' := 86) (lv' := [(0, .inr (.inr (some 39))), (2, .inl v2_8), (3, .inl v3_22)]) (st' := [.inl v2_8]) (h' := gc_h sh I31 J32 A) (C := (True ∧ True)) rfl ⟨trivial, trivial⟩ ?_
              exact gv_iret hD rfl ⟨I31, J32, rfl, hI31, FI31, FJ32, KLT_I31, KTK_I31, ⟨_, rfl, by exact gz_m 24 (by omega), by exact gz_m 25 (by omega), by exact gz_m 26 (by omega), by exact gz_m 27 (by omega), by exact gz_m 28 (by omega), (fun k hk => if hkk : k = Int.toNat (v2_8 - 1) then (by rw [hkk]; exact gz_m 29 (by omega)) else ((gc_SE_fr e0_16 (fun k _ => (g29 47 k).resolve_left (by exact gz_m 30 (by omega))) (fun k _ => (g29 46 k).resolve_left (by exact gz_m 31 (by omega))) (fun k => (g29 12 k).resolve_left (by exact gz_m 32 (by omega)))) k (by exact gz_m 33 (by omega)))), (fun h => by exact gz_m 34 (by omega)), (fun _ => by have h1 := e1_16; have h3 := gc_ss_fr (I := I14) (I' := I31) (d := Int.toNat v2_8) (fun k _ => (g29 47 k).resolve_left (by exact gz_m 35 (by omega))) (fun k _ => (g29 46 k).resolve_left (by exact gz_m 36 (by omega))) (fun k => (g29 12 k).resolve_left (by exact gz_m 37 (by omega))); exact gz_m 38 (by omega))⟩⟩
          · show gv_X _ _ (72, [(0, .inr (.inr (some 39))), (2, .inl v2_8), (3, .inl v3_22)], [], sh, gc_h sh I14 J15 A)
            refine gv_run 1 true hD (pc' := 73) (lv' := [(0, .inr (.inr (some 39))), (2, .inl v2_8), (3, .inl v3_22)]) (st' := [.inl (-1)]) (h' := gc_h sh I14 J15 A) (C := (True ∧ True)) rfl ⟨trivial, trivial⟩ ?_
            exact gv_iret hD rfl ⟨I14, J15, rfl, hI14, FI14, FJ15, KLT_I14, KTK_I14, ⟨_, rfl, by exact gz_m 39 (by omega), by exact gz_m 40 (by omega), by exact gz_m 41 (by omega), by exact gz_m 42 (by omega), by exact gz_m 43 (by omega), (fun k hk => by exact gz_m 44 (by omega)), (fun h => by exact gz_m 45 (by omega)), (fun h => by exact gz_m 46 (by omega))⟩⟩
        refine gv_run 2 true hD (pc' := 52) (lv' := [(3, .inl s0_16), (0, .inr (.inr (some 39))), (2, .inl v2_8)]) (st' := [.inr (.inr (some 39))]) (h' := gc_h sh I14 J15 A) (C := ((True ∧ True) ∧ True)) rfl ⟨⟨trivial, trivial⟩, trivial⟩ ?_
        refine gv_get hD rfl rfl S_39 ⟨by decide, B_39⟩ (gc_hA S_39 rfl A_39_1) ?_
        show gv_X _ _ (55, [(3, .inl s0_16), (0, .inr (.inr (some 39))), (2, .inl v2_8)], [.inr (.inr (some 23))], sh, gc_h sh I14 J15 A)
        have f41 := (show 0 ≤ I14 23 7 ∧ I14 23 7 ≤ 125 from gc_in hI14 R_23 rfl rfl)
        refine gv_get hD rfl rfl S_23 ⟨by decide, B_23⟩ (gc_hI S_23 rfl) ?_
        show gv_X _ _ (58, [(3, .inl s0_16), (0, .inr (.inr (some 39))), (2, .inl v2_8)], [.inl (I14 23 7)], sh, gc_h sh I14 J15 A)
        refine gv_run 1 true hD (pc' := 59) (lv' := [(3, .inl s0_16), (0, .inr (.inr (some 39))), (2, .inl v2_8)]) (st' := [.inl s0_16, .inl (I14 23 7)]) (h' := gc_h sh I14 J15 A) (C := (True ∧ True)) rfl ⟨trivial, trivial⟩ ?_
        refine gv_if_eq (t := 67) hD rfl rfl ⟨by exact gz_m 47 (by omega), by exact gz_m 48 (by omega)⟩ (fun c42 => ?_) (fun c42 => ?_)
        · show gv_X _ _ (67, [(3, .inl s0_16), (0, .inr (.inr (some 39))), (2, .inl v2_8)], [.inl (I14 23 7)], sh, gc_h sh I14 J15 A)
          refine gv_run 1 true hD (pc' := 69) (lv' := [(3, .inl s0_16), (0, .inr (.inr (some 39))), (2, .inl v2_8)]) (st' := [.inl 41, .inl (I14 23 7)]) (h' := gc_h sh I14 J15 A) (C := (True ∧ True)) rfl ⟨trivial, trivial⟩ ?_
          refine gv_pick [1, 2, 0] rfl ?_
          exact L69 s0_16 (I14 23 7) 41 (by exact gz_m 49 (by omega))
        · show gv_X _ _ (62, [(3, .inl s0_16), (0, .inr (.inr (some 39))), (2, .inl v2_8)], [.inl (I14 23 7)], sh, gc_h sh I14 J15 A)
          refine gv_run 2 true hD (pc' := 69) (lv' := [(3, .inl s0_16), (0, .inr (.inr (some 39))), (2, .inl v2_8)]) (st' := [.inl 44, .inl (I14 23 7)]) (h' := gc_h sh I14 J15 A) (C := ((True ∧ True) ∧ True)) rfl ⟨⟨trivial, trivial⟩, trivial⟩ ?_
          refine gv_pick [1, 2, 0] rfl ?_
          exact L69 s0_16 (I14 23 7) 44 (by exact gz_m 50 (by omega))
      refine gv_run 1 true hD (pc' := 3) (lv' := [(0, .inr (.inr (some 39))), (2, .inl v2_8)]) (st' := [.inl v2_8]) (h' := gc_h sh I6 J7 A) (C := (True ∧ True)) rfl ⟨trivial, trivial⟩ ?_
      refine gv_if_le (t := 93) hD rfl rfl ⟨by exact gz_m 51 (by omega), by exact gz_m 52 (by omega)⟩ (fun c43 => ?_) (fun c43 => ?_)
      · show gv_X _ _ (93, [(0, .inr (.inr (some 39))), (2, .inl v2_8)], [], sh, gc_h sh I6 J7 A)
        refine gv_run 1 true hD (pc' := 94) (lv' := [(0, .inr (.inr (some 39))), (2, .inl v2_8)]) (st' := [.inl 0]) (h' := gc_h sh I6 J7 A) (C := (True ∧ True)) rfl ⟨trivial, trivial⟩ ?_
        exact gv_iret hD rfl ⟨I6, J7, rfl, hI6, FI6, FJ7, KLT_I6, KTK_I6, ⟨_, rfl, by exact gz_m 53 (by omega), by exact gz_m 54 (by omega), by exact gz_m 55 (by omega), by exact gz_m 56 (by omega), by exact gz_m 57 (by omega), (fun k hk => by exact gz_m 58 (by omega)), (fun _ => by have h1 := e1_8; rw [show Int.toNat v2_8 = 0 from by exact gz_m 59 (by omega)] at h1; exact h1.symm), (fun h => by exact gz_m 60 (by omega))⟩⟩
      · show gv_X _ _ (6, [(0, .inr (.inr (some 39))), (2, .inl v2_8)], [], sh, gc_h sh I6 J7 A)
        have t44 := e0_8 (Int.toNat (v2_8 - 1)) (by exact gz_m 61 (by omega))
        have t45 := (show 0 ≤ I6 12 (Int.toNat (I6 46 (Int.toNat (v2_8 - 1)))) ∧ I6 12 (Int.toNat (I6 46 (Int.toNat (v2_8 - 1)))) ≤ 4 from gc_in hI6 R_12 rfl rfl)
        refine gv_run 1 true hD (pc' := 7) (lv' := [(0, .inr (.inr (some 39))), (2, .inl v2_8)]) (st' := [.inr (.inr (some 39))]) (h' := gc_h sh I6 J7 A) (C := (True ∧ True)) rfl ⟨trivial, trivial⟩ ?_
        refine gv_get hD rfl rfl S_39 ⟨by decide, B_39⟩ (gc_hA S_39 rfl A_39_18) ?_
        show gv_X _ _ (10, [(0, .inr (.inr (some 39))), (2, .inl v2_8)], [.inr (.inr (some 47))], sh, gc_h sh I6 J7 A)
        refine gv_run 4 true hD (pc' := 14) (lv' := [(0, .inr (.inr (some 39))), (2, .inl v2_8)]) (st' := [.inl (v2_8 - 1), .inr (.inr (some 47)), .inl (v2_8 - 1), .inr (.inr (some 47))]) (h' := gc_h sh I6 J7 A) (C := ((((True ∧ True) ∧ True) ∧ True) ∧ True)) rfl ⟨⟨⟨⟨trivial, trivial⟩, trivial⟩, trivial⟩, trivial⟩ ?_
        have f46 := (show (-2147483648) ≤ I6 47 (Int.toNat (v2_8 - 1)) ∧ I6 47 (Int.toNat (v2_8 - 1)) ≤ 2147483647 from gc_in hI6 R_47 rfl rfl)
        refine gv_iald hD rfl S_47 rfl ⟨by decide, B_47⟩ ⟨by exact gz_m 62 (by omega), by exact gz_m 63 (by omega)⟩ (gc_iI S_47 rfl) ?_
        show gv_X _ _ (15, [(0, .inr (.inr (some 39))), (2, .inl v2_8)], [.inl (I6 47 (Int.toNat (v2_8 - 1))), .inl (v2_8 - 1), .inr (.inr (some 47))], sh, gc_h sh I6 J7 A)
        refine gv_run 2 true hD (pc' := 17) (lv' := [(0, .inr (.inr (some 39))), (2, .inl v2_8)]) (st' := [.inl ((I6 47 (Int.toNat (v2_8 - 1))) + 1), .inl (v2_8 - 1), .inr (.inr (some 47))]) (h' := gc_h sh I6 J7 A) (C := ((True ∧ True) ∧ True)) rfl ⟨⟨trivial, trivial⟩, trivial⟩ ?_
        refine gv_iast hD rfl S_47 ⟨by decide, B_47⟩ ⟨by exact gz_m 64 (by omega), by exact gz_m 65 (by omega)⟩ ?_
        refine gc_st hI6 S_47 rfl R_47 (lo := (-2147483648)) (hi := 2147483647) rfl rfl (by exact gz_m 66 (by omega)) (by exact gz_m 67 (by omega)) (fun I47 hI47 q48 p48 => ?_)
        have FI47 := gc_frs (W := fun q j => (q = 39 ∧ j = 3) ∨ (q = 39 ∧ j = 4) ∨ (q = 23 ∧ j = 5) ∨ (q = 23 ∧ j = 6) ∨ (q = 23 ∧ j = 7) ∨ (q = 23 ∧ j = 8) ∨ q = 47) FI6 (Or.inr (Or.inr (Or.inr (Or.inr (Or.inr (Or.inr rfl)))))) p48
        have t49 := p48 23 1 (fun h => absurd h.1 (by decide))
        have t50 := p48 23 5 (fun h => absurd h.1 (by decide))
        have t51 := p48 23 6 (fun h => absurd h.1 (by decide))
        have t52 := p48 23 7 (fun h => absurd h.1 (by decide))
        have KLT_I47 := gc_LT_fr KLT_I6 (p48 23 5 (fun h => absurd h.1 (by decide))) (p48 23 6 (fun h => absurd h.1 (by decide))) (p48 23 7 (fun h => absurd h.1 (by decide))) (fun k => p48 24 k (fun h => absurd h.1 (by decide)))
        have KTK_I47 := gc_TK_fr KTK_I6 (p48 23 1 (fun h => absurd h.1 (by decide))) (p48 23 5 (fun h => absurd h.1 (by decide))) (p48 23 6 (fun h => absurd h.1 (by decide))) (p48 23 7 (fun h => absurd h.1 (by decide)))
        show gv_X _ _ (18, [(0, .inr (.inr (some 39))), (2, .inl v2_8)], [], sh, gc_h sh I47 J7 A)
        refine gv_run 1 true hD (pc' := 19) (lv' := [(0, .inr (.inr (some 39))), (2, .inl v2_8)]) (st' := [.inr (.inr (some 39))]) (h' := gc_h sh I47 J7 A) (C := (True ∧ True)) rfl ⟨trivial, trivial⟩ ?_
        refine gv_get hD rfl rfl S_39 ⟨by decide, B_39⟩ (gc_hA S_39 rfl A_39_18) ?_
        show gv_X _ _ (22, [(0, .inr (.inr (some 39))), (2, .inl v2_8)], [.inr (.inr (some 47))], sh, gc_h sh I47 J7 A)
        refine gv_run 3 true hD (pc' := 25) (lv' := [(0, .inr (.inr (some 39))), (2, .inl v2_8)]) (st' := [.inl (v2_8 - 1), .inr (.inr (some 47))]) (h' := gc_h sh I47 J7 A) (C := (((True ∧ True) ∧ True) ∧ True)) rfl ⟨⟨⟨trivial, trivial⟩, trivial⟩, trivial⟩ ?_
        have f53 := (show (-2147483648) ≤ I47 47 (Int.toNat (v2_8 - 1)) ∧ I47 47 (Int.toNat (v2_8 - 1)) ≤ 2147483647 from gc_in hI47 R_47 rfl rfl)
        refine gv_iald hD rfl S_47 rfl ⟨by decide, B_47⟩ ⟨by exact gz_m 68 (by omega), by exact gz_m 69 (by omega)⟩ (gc_iI S_47 rfl) ?_
        show gv_X _ _ (26, [(0, .inr (.inr (some 39))), (2, .inl v2_8)], [.inl (I47 47 (Int.toNat (v2_8 - 1)))], sh, gc_h sh I47 J7 A)
        refine gv_run 1 true hD (pc' := 27) (lv' := [(0, .inr (.inr (some 39))), (2, .inl v2_8)]) (st' := [.inr (.inr (some 39)), .inl (I47 47 (Int.toNat (v2_8 - 1)))]) (h' := gc_h sh I47 J7 A) (C := (True ∧ True)) rfl ⟨trivial, trivial⟩ ?_
        refine gv_get hD rfl rfl S_39 ⟨by decide, B_39⟩ (gc_hA S_39 rfl A_39_0) ?_
        show gv_X _ _ (30, [(0, .inr (.inr (some 39))), (2, .inl v2_8)], [.inr (.inr (some 1)), .inl (I47 47 (Int.toNat (v2_8 - 1)))], sh, gc_h sh I47 J7 A)
        refine gv_get hD rfl rfl S_1 ⟨by decide, B_1⟩ (gc_hA S_1 rfl A_1_7) ?_
        show gv_X _ _ (33, [(0, .inr (.inr (some 39))), (2, .inl v2_8)], [.inr (.inr (some 12)), .inl (I47 47 (Int.toNat (v2_8 - 1)))], sh, gc_h sh I47 J7 A)
        refine gv_run 1 true hD (pc' := 34) (lv' := [(0, .inr (.inr (some 39))), (2, .inl v2_8)]) (st' := [.inr (.inr (some 39)), .inr (.inr (some 12)), .inl (I47 47 (Int.toNat (v2_8 - 1)))]) (h' := gc_h sh I47 J7 A) (C := (True ∧ True)) rfl ⟨trivial, trivial⟩ ?_
        refine gv_get hD rfl rfl S_39 ⟨by decide, B_39⟩ (gc_hA S_39 rfl A_39_17) ?_
        show gv_X _ _ (37, [(0, .inr (.inr (some 39))), (2, .inl v2_8)], [.inr (.inr (some 46)), .inr (.inr (some 12)), .inl (I47 47 (Int.toNat (v2_8 - 1)))], sh, gc_h sh I47 J7 A)
        refine gv_run 3 true hD (pc' := 40) (lv' := [(0, .inr (.inr (some 39))), (2, .inl v2_8)]) (st' := [.inl (v2_8 - 1), .inr (.inr (some 46)), .inr (.inr (some 12)), .inl (I47 47 (Int.toNat (v2_8 - 1)))]) (h' := gc_h sh I47 J7 A) (C := (((True ∧ True) ∧ True) ∧ True)) rfl ⟨⟨⟨trivial, trivial⟩, trivial⟩, trivial⟩ ?_
        have f54 := (show 0 ≤ I47 46 (Int.toNat (v2_8 - 1)) ∧ I47 46 (Int.toNat (v2_8 - 1)) ≤ 95 from gc_in hI47 R_46 rfl rfl)
        refine gv_iald hD rfl S_46 rfl ⟨by decide, B_46⟩ ⟨by exact gz_m 70 (by omega), by exact gz_m 71 (by omega)⟩ (gc_iI S_46 rfl) ?_
        show gv_X _ _ (41, [(0, .inr (.inr (some 39))), (2, .inl v2_8)], [.inl (I47 46 (Int.toNat (v2_8 - 1))), .inr (.inr (some 12)), .inl (I47 47 (Int.toNat (v2_8 - 1)))], sh, gc_h sh I47 J7 A)
        have f55 := (show 0 ≤ I47 12 (Int.toNat ((I47 46 (Int.toNat (v2_8 - 1))))) ∧ I47 12 (Int.toNat ((I47 46 (Int.toNat (v2_8 - 1))))) ≤ 4 from gc_in hI47 R_12 rfl rfl)
        refine gv_iald hD rfl S_12 rfl ⟨by decide, B_12⟩ ⟨by exact gz_m 72 (by omega), by exact gz_m 73 (by omega)⟩ (gc_iI S_12 rfl) ?_
        show gv_X _ _ (42, [(0, .inr (.inr (some 39))), (2, .inl v2_8)], [.inl (I47 12 (Int.toNat ((I47 46 (Int.toNat (v2_8 - 1)))))), .inl (I47 47 (Int.toNat (v2_8 - 1)))], sh, gc_h sh I47 J7 A)
        have t56 := e0_8 (Int.toNat (v2_8 - 1)) (by exact gz_m 74 (by omega))
        have t57 := (show I47 12 (Int.toNat (I47 46 (Int.toNat (v2_8 - 1)))) = I6 12 (Int.toNat (I6 46 (Int.toNat (v2_8 - 1)))) from by rw [p48 46 _ (fun h => absurd h.1 (by exact gz_m 75 (by omega))), p48 12 _ (fun h => absurd h.1 (by exact gz_m 76 (by omega)))])
        refine gv_icmp_ge (t := 49) hD rfl rfl ⟨⟨by exact gz_m 77 (by omega), by exact gz_m 78 (by omega)⟩, ⟨by exact gz_m 79 (by omega), by exact gz_m 80 (by omega)⟩⟩ (fun c58 => ?_) (fun c58 => ?_)
        · show gv_X _ _ (49, [(0, .inr (.inr (some 39))), (2, .inl v2_8)], [], sh, gc_h sh I47 J7 A)
          refine gv_run 1 true hD (pc' := 50) (lv' := [(0, .inr (.inr (some 39))), (2, .inl v2_8)]) (st' := [.inl 0]) (h' := gc_h sh I47 J7 A) (C := (True ∧ True)) rfl ⟨trivial, trivial⟩ ?_
          exact L50 I47 J7 0 hI47 FI47 FJ7 KLT_I47 KTK_I47 (by exact gz_m 81 (by omega)) (gc_SE_fr (n := v2_8 - 1) (fun k hk => e0_8 k (by exact gz_m 82 (by omega))) (fun k hk => p48 47 k (fun h => by have := h.2; exact gz_m 83 (by omega))) (fun k _ => p48 46 k (fun h => absurd h.1 (by exact gz_m 84 (by omega)))) (fun k => p48 12 k (fun h => absurd h.1 (by exact gz_m 85 (by omega))))) (by have h1 := gc_ss_at (I := I6) (d := v2_8) (by exact gz_m 86 (by omega)); have h2 := gc_ss_at (I := I47) (d := v2_8) (by exact gz_m 87 (by omega)); have h3 := gc_ss_fr (I := I6) (I' := I47) (d := Int.toNat (v2_8 - 1)) (fun k hk => p48 47 k (fun h => by have := h.2; exact gz_m 88 (by omega))) (fun k _ => p48 46 k (fun h => absurd h.1 (by exact gz_m 89 (by omega)))) (fun k => p48 12 k (fun h => absurd h.1 (by exact gz_m 90 (by omega)))); have h4 := (show I47 12 (Int.toNat (I47 46 (Int.toNat (v2_8 - 1)))) = I6 12 (Int.toNat (I6 46 (Int.toNat (v2_8 - 1)))) from by rw [p48 46 _ (fun h => absurd h.1 (by exact gz_m 91 (by omega))), p48 12 _ (fun h => absurd h.1 (by exact gz_m 92 (by omega)))]); have h5 := e1_8; exact gz_m 93 (by omega))
        · show gv_X _ _ (45, [(0, .inr (.inr (some 39))), (2, .inl v2_8)], [], sh, gc_h sh I47 J7 A)
          refine gv_run 2 true hD (pc' := 50) (lv' := [(0, .inr (.inr (some 39))), (2, .inl v2_8)]) (st' := [.inl 1]) (h' := gc_h sh I47 J7 A) (C := ((True ∧ True) ∧ True)) rfl ⟨⟨trivial, trivial⟩, trivial⟩ ?_
          exact L50 I47 J7 1 hI47 FI47 FJ7 KLT_I47 KTK_I47 (by exact gz_m 94 (by omega)) (gc_SE_fr (n := v2_8 - 1) (fun k hk => e0_8 k (by exact gz_m 95 (by omega))) (fun k hk => p48 47 k (fun h => by have := h.2; exact gz_m 96 (by omega))) (fun k _ => p48 46 k (fun h => absurd h.1 (by exact gz_m 97 (by omega)))) (fun k => p48 12 k (fun h => absurd h.1 (by exact gz_m 98 (by omega))))) (by have h1 := gc_ss_at (I := I6) (d := v2_8) (by exact gz_m 99 (by omega)); have h2 := gc_ss_at (I := I47) (d := v2_8) (by exact gz_m 100 (by omega)); have h3 := gc_ss_fr (I := I6) (I' := I47) (d := Int.toNat (v2_8 - 1)) (fun k hk => p48 47 k (fun h => by have := h.2; exact gz_m 101 (by omega))) (fun k _ => p48 46 k (fun h => absurd h.1 (by exact gz_m 102 (by omega)))) (fun k => p48 12 k (fun h => absurd h.1 (by exact gz_m 103 (by omega)))); have h4 := (show I47 12 (Int.toNat (I47 46 (Int.toNat (v2_8 - 1)))) = I6 12 (Int.toNat (I6 46 (Int.toNat (v2_8 - 1)))) from by rw [p48 46 _ (fun h => absurd h.1 (by exact gz_m 104 (by omega))), p48 12 _ (fun h => absurd h.1 (by exact gz_m 105 (by omega)))]); have h5 := e1_8; exact gz_m 106 (by omega))
  refine gv_run 2 true hD (pc' := 2) (lv' := [(2, .inl a1), (0, .inr (.inr (some 39))), (1, .inl a1)]) (st' := []) (h' := gc_h sh I J A) (C := ((True ∧ True) ∧ True)) rfl ⟨⟨trivial, trivial⟩, trivial⟩ ?_
  refine gv_pick [1, 0] rfl ?_
  exact L2 _ I J a1 (Nat.lt_succ_self _) hI FI FJ KLT_I KTK_I (by exact gz_m 107 (by omega)) x0 rfl
