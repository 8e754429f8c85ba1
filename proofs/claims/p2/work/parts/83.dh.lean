def gc_op (I : gr_I) (T : Nat) : Nat → Int
  | 0 => 1
  | n + 1 => gc_op I T n - 1 + I 12 (Int.toNat (I T n))
def gc_wt (I : gr_I) (T : Nat) (n : Int) : Prop := (∀ i : Nat, (i : Int) < n → 1 ≤ gc_op I T i) ∧ gc_op I T (Int.toNat n) = 0
theorem gc_op_fr {I I' : gr_I} {T : Nat} : ∀ {n : Nat}, (∀ k, k < n → I' T k = I T k) → (∀ k, I' 12 k = I 12 k) → gc_op I' T n = gc_op I T n
  | 0, _, _ => rfl
  | n + 1, h, h2 => by
    show gc_op I' T n - 1 + I' 12 (Int.toNat (I' T n)) = gc_op I T n - 1 + I 12 (Int.toNat (I T n))
    rw [gc_op_fr (n := n) (fun k hk => h k (by omega)) h2, h n (by omega), h2]
def gc_SE (I : gr_I) (n : Int) : Prop := ∀ k : Nat, (k : Int) < n → 0 ≤ I 47 k ∧ I 47 k < I 12 (Int.toNat (I 46 k))
def gc_ss (I : gr_I) : Nat → Int
  | 0 => 0
  | d + 1 => gc_ss I d + (I 12 (Int.toNat (I 46 d)) - I 47 d - 1)
theorem gc_ss_at {I : gr_I} {d : Int} (h : 0 < d) : gc_ss I (Int.toNat d) = gc_ss I (Int.toNat (d - 1)) + (I 12 (Int.toNat (I 46 (Int.toNat (d - 1)))) - I 47 (Int.toNat (d - 1)) - 1) := by
  rw [show Int.toNat d = Int.toNat (d - 1) + 1 from by omega]
  rfl
theorem gc_ss_fr {I I' : gr_I} : ∀ {d : Nat}, (∀ k, k < d → I' 47 k = I 47 k) → (∀ k, k < d → I' 46 k = I 46 k) → (∀ k, I' 12 k = I 12 k) → gc_ss I' d = gc_ss I d
  | 0, _, _, _ => rfl
  | d + 1, h, h2, h3 => by
    show gc_ss I' d + (I' 12 (Int.toNat (I' 46 d)) - I' 47 d - 1) = gc_ss I d + (I 12 (Int.toNat (I 46 d)) - I 47 d - 1)
    rw [gc_ss_fr (d := d) (fun k hk => h k (by omega)) (fun k hk => h2 k (by omega)) h3, h d (by omega), h2 d (by omega), h3]
theorem gc_SE_fr {I I' : gr_I} {n : Int} (h : gc_SE I n) (h1 : ∀ k : Nat, (k : Int) < n → I' 47 k = I 47 k) (h2 : ∀ k : Nat, (k : Int) < n → I' 46 k = I 46 k) (h3 : ∀ k, I' 12 k = I 12 k) : gc_SE I' n := fun k hk => by rw [h1 k hk, h2 k hk, h3]; exact h k hk
theorem gc_ss_nn {I : gr_I} : ∀ {d : Nat}, gc_SE I (d : Int) → 0 ≤ gc_ss I d
  | 0, _ => by decide
  | d + 1, h => by
    have h1 := gc_ss_nn (d := d) (fun k hk => h k (by omega))
    have h2 := h d (by omega)
    show 0 ≤ gc_ss I d + (I 12 (Int.toNat (I 46 d)) - I 47 d - 1)
    omega
set_option maxHeartbeats 4000000 in
set_option maxRecDepth 100000 in
theorem d_X6_kindWanted {ws0 : List Cond} {tb : String → gz_T} (hws : gc_Ws ws0) (htb : gc_tbs tb) (sh : gz_Sh) (ro : Nat → Nat) (I : gr_I) (J : gr_J) (A : gc_A) (hI : gc_Inv ro I) (a1 : Int) (hb : gc_Base sh ro A) (ha1 : 0 ≤ a1 ∧ a1 ≤ 59) (x0 : 0 ≤ I 47 (Int.toNat a1) ∧ I 47 (Int.toNat a1) ≤ 3) : ∃ r h', gz_Ev ws0 tb 1 (yX6_kindWanted, cX6_kindWanted, 2, (some .int)) [.inr (.inr (some 39)), .inl a1] sh (gc_h sh I J A) r sh h' 0 0 ∧ (h' = gc_h sh I J A ∧ (∃ z : Int, r = some (.inl z) ∧ 0 ≤ z ∧ z ≤ 31)) := by
  have A_1_8 : A 1 8 = some 13 := gc_bA hb rfl
  have A_39_0 : A 39 0 = some 1 := gc_bA hb rfl
  have A_39_17 : A 39 17 = some 46 := gc_bA hb rfl
  have A_39_18 : A 39 18 = some 47 := gc_bA hb rfl
  have B_1 : 1 < 1000000 := by decide
  have B_13 : 13 < 1000000 := by decide
  have B_39 : 39 < 1000000 := by decide
  have B_46 : 46 < 1000000 := by decide
  have B_47 : 47 < 1000000 := by decide
  have R_13 : ro 13 = 25 := gc_bR hb (by decide) rfl
  have R_46 : ro 46 = 37 := gc_bR hb (by decide) rfl
  have R_47 : ro 47 = 0 := gc_bR hb (by decide) rfl
  have S_1 : sh[1]? = some (false, 8, 21) := gc_bS hb rfl
  have S_13 : sh[13]? = some (true, 1, 384) := gc_bS hb rfl
  have S_39 : sh[39]? = some (false, 6, 19) := gc_bS hb rfl
  have S_46 : sh[46]? = some (true, 1, 60) := gc_bS hb rfl
  have S_47 : sh[47]? = some (true, 1, 60) := gc_bS hb rfl
  have hD : gv_D (gc_E6 ws0 tb 0 (yX6_kindWanted, cX6_kindWanted, 2, (some .int)) kX6_kindWanted) := gq_ok oX6_kindWanted
  refine gc_ev6 (d := 0) (l := kX6_kindWanted) (Po := fun r h' => (h' = gc_h sh I J A ∧ (∃ z : Int, r = some (.inl z) ∧ 0 ≤ z ∧ z ≤ 31))) htb rfl (Nat.le_of_ble_eq_true rfl) ?_
  refine gv_run 1 true hD (pc' := 1) (lv' := [(0, .inr (.inr (some 39))), (1, .inl a1)]) (st' := [.inr (.inr (some 39))]) (h' := gc_h sh I J A) (C := (True ∧ True)) rfl ⟨trivial, trivial⟩ ?_
  refine gv_get hD rfl rfl S_39 ⟨by decide, B_39⟩ (gc_hA S_39 rfl A_39_0) ?_
  show gv_X _ _ (4, [(0, .inr (.inr (some 39))), (1, .inl a1)], [.inr (.inr (some 1))], sh, gc_h sh I J A)
  refine gv_get hD rfl rfl S_1 ⟨by decide, B_1⟩ (gc_hA S_1 rfl A_1_8) ?_
  show gv_X _ _ (7, [(0, .inr (.inr (some 39))), (1, .inl a1)], [.inr (.inr (some 13))], sh, gc_h sh I J A)
  refine gv_run 1 true hD (pc' := 8) (lv' := [(0, .inr (.inr (some 39))), (1, .inl a1)]) (st' := [.inr (.inr (some 39)), .inr (.inr (some 13))]) (h' := gc_h sh I J A) (C := (True ∧ True)) rfl ⟨trivial, trivial⟩ ?_
  refine gv_get hD rfl rfl S_39 ⟨by decide, B_39⟩ (gc_hA S_39 rfl A_39_17) ?_
  show gv_X _ _ (11, [(0, .inr (.inr (some 39))), (1, .inl a1)], [.inr (.inr (some 46)), .inr (.inr (some 13))], sh, gc_h sh I J A)
  refine gv_run 1 true hD (pc' := 12) (lv' := [(0, .inr (.inr (some 39))), (1, .inl a1)]) (st' := [.inl a1, .inr (.inr (some 46)), .inr (.inr (some 13))]) (h' := gc_h sh I J A) (C := (True ∧ True)) rfl ⟨trivial, trivial⟩ ?_
  have f1 := (show 0 ≤ I 46 (Int.toNat a1) ∧ I 46 (Int.toNat a1) ≤ 95 from gc_in hI R_46 rfl rfl)
  refine gv_iald hD rfl S_46 rfl ⟨by decide, B_46⟩ ⟨by omega, by omega⟩ (gc_iI S_46 rfl) ?_
  show gv_X _ _ (13, [(0, .inr (.inr (some 39))), (1, .inl a1)], [.inl (I 46 (Int.toNat a1)), .inr (.inr (some 13))], sh, gc_h sh I J A)
  refine gv_run 3 true hD (pc' := 16) (lv' := [(0, .inr (.inr (some 39))), (1, .inl a1)]) (st' := [.inr (.inr (some 39)), .inl ((I 46 (Int.toNat a1)) * 4), .inr (.inr (some 13))]) (h' := gc_h sh I J A) (C := (((True ∧ True) ∧ True) ∧ True)) rfl ⟨⟨⟨trivial, trivial⟩, trivial⟩, trivial⟩ ?_
  refine gv_get hD rfl rfl S_39 ⟨by decide, B_39⟩ (gc_hA S_39 rfl A_39_18) ?_
  show gv_X _ _ (19, [(0, .inr (.inr (some 39))), (1, .inl a1)], [.inr (.inr (some 47)), .inl ((I 46 (Int.toNat a1)) * 4), .inr (.inr (some 13))], sh, gc_h sh I J A)
  refine gv_run 1 true hD (pc' := 20) (lv' := [(0, .inr (.inr (some 39))), (1, .inl a1)]) (st' := [.inl a1, .inr (.inr (some 47)), .inl ((I 46 (Int.toNat a1)) * 4), .inr (.inr (some 13))]) (h' := gc_h sh I J A) (C := (True ∧ True)) rfl ⟨trivial, trivial⟩ ?_
  have f2 := (show (-2147483648) ≤ I 47 (Int.toNat a1) ∧ I 47 (Int.toNat a1) ≤ 2147483647 from gc_in hI R_47 rfl rfl)
  refine gv_iald hD rfl S_47 rfl ⟨by decide, B_47⟩ ⟨by omega, by omega⟩ (gc_iI S_47 rfl) ?_
  show gv_X _ _ (21, [(0, .inr (.inr (some 39))), (1, .inl a1)], [.inl (I 47 (Int.toNat a1)), .inl ((I 46 (Int.toNat a1)) * 4), .inr (.inr (some 13))], sh, gc_h sh I J A)
  refine gv_run 1 true hD (pc' := 22) (lv' := [(0, .inr (.inr (some 39))), (1, .inl a1)]) (st' := [.inl (((I 46 (Int.toNat a1)) * 4) + (I 47 (Int.toNat a1))), .inr (.inr (some 13))]) (h' := gc_h sh I J A) (C := (True ∧ True)) rfl ⟨trivial, trivial⟩ ?_
  have f3 := (show 0 ≤ I 13 (Int.toNat ((((I 46 (Int.toNat a1)) * 4) + (I 47 (Int.toNat a1))))) ∧ I 13 (Int.toNat ((((I 46 (Int.toNat a1)) * 4) + (I 47 (Int.toNat a1))))) ≤ 31 from gc_in hI R_13 rfl rfl)
  refine gv_iald hD rfl S_13 rfl ⟨by decide, B_13⟩ ⟨by omega, by omega⟩ (gc_iI S_13 rfl) ?_
  show gv_X _ _ (23, [(0, .inr (.inr (some 39))), (1, .inl a1)], [.inl (I 13 (Int.toNat ((((I 46 (Int.toNat a1)) * 4) + (I 47 (Int.toNat a1))))))], sh, gc_h sh I J A)
  exact gv_iret hD rfl ⟨rfl, ⟨_, rfl, by omega⟩⟩
set_option maxHeartbeats 4000000 in
set_option maxRecDepth 100000 in
theorem d_X6_closeArguments {ws0 : List Cond} {tb : String → gz_T} (hws : gc_Ws ws0) (htb : gc_tbs tb) (sh : gz_Sh) (ro : Nat → Nat) (I : gr_I) (J : gr_J) (A : gc_A) (hI : gc_Inv ro I) (a1 : Int) (hb : gc_Base sh ro A) (ha1 : 0 ≤ a1 ∧ a1 ≤ 60) (x0 : I 23 5 ≤ I 23 6) (x1 : I 23 7 = 5 ∨ I 23 6 ≤ I 23 1) (x2 : I 23 5 ≤ I 23 1) (x3 : I 23 7 = 4 ∨ (I 23 5 < I 23 6 ∧ I 23 5 < I 23 1)) (x4 : I 23 7 = 3 → 2 ≤ I 23 6 - I 23 5 ∧ I 23 6 - I 23 5 ≤ 14) (x5 : gc_SE I a1) (KLT_I : gc_LT I) : ∃ r h', gz_Ev ws0 tb 3 (yX6_closeArguments, cX6_closeArguments, 4, (some .int)) [.inr (.inr (some 39)), .inl a1] sh (gc_h sh I J A) r sh h' 0 0 ∧ (∃ (I' : gr_I) (J' : gr_J), h' = gc_h sh I' J' A ∧ gc_Inv ro I' ∧ (∀ q j : Nat, ((q = 39 ∧ j = 3) ∨ (q = 39 ∧ j = 4) ∨ (q = 23 ∧ j = 5) ∨ (q = 23 ∧ j = 6) ∨ (q = 23 ∧ j = 7) ∨ (q = 23 ∧ j = 8) ∨ q = 47) ∨ I' q j = I q j) ∧ (∀ q j : Nat, ((q = 23 ∧ j = 9)) ∨ J' q j = J q j) ∧ gc_LT I' ∧ (∃ z : Int, r = some (.inl z) ∧ (-1) ≤ z ∧ z ≤ 60 ∧ (I' 23 5 ≤ I' 23 6) ∧ (I' 23 7 = 5 ∨ I' 23 6 ≤ I' 23 1) ∧ (I' 23 5 ≤ I' 23 1) ∧ (I' 23 7 = 4 ∨ (I' 23 5 < I' 23 6 ∧ I' 23 5 < I' 23 1)) ∧ (I' 23 7 = 3 → 2 ≤ I' 23 6 - I' 23 5 ∧ I' 23 6 - I' 23 5 ≤ 14) ∧ (I' 23 1 = I 23 1) ∧ (I 23 5 ≤ I' 23 5) ∧ (z ≤ a1) ∧ (gc_SE I' z) ∧ (z = 0 → gc_ss I (Int.toNat a1) = 0) ∧ (1 ≤ z → gc_ss I' (Int.toNat z) = gc_ss I (Int.toNat a1) - 1))) := by
  have FI : ∀ q j : Nat, ((q = 39 ∧ j = 3) ∨ (q = 39 ∧ j = 4) ∨ (q = 23 ∧ j = 5) ∨ (q = 23 ∧ j = 6) ∨ (q = 23 ∧ j = 7) ∨ (q = 23 ∧ j = 8) ∨ q = 47) ∨ I q j = I q j := fun _ _ => Or.inr rfl
  have FJ : ∀ q j : Nat, ((q = 23 ∧ j = 9)) ∨ J q j = J q j := fun _ _ => Or.inr rfl
  have A_1_7 : A 1 7 = some 12 := gc_bA hb rfl
  have A_39_0 : A 39 0 = some 1 := gc_bA hb rfl
  have A_39_1 : A 39 1 = some 23 := gc_bA hb rfl
  have A_39_17 : A 39 17 = some 46 := gc_bA hb rfl
  have A_39_18 : A 39 18 = some 47 := gc_bA hb rfl
  have B_1 : 1 < 1000000 := by decide
  have B_12 : 12 < 1000000 := by decide
  have B_23 : 23 < 1000000 := by decide
  have B_39 : 39 < 1000000 := by decide
  have B_46 : 46 < 1000000 := by decide
  have B_47 : 47 < 1000000 := by decide
  have R_12 : ro 12 = 26 := gc_bR hb (by decide) rfl
  have R_23 : ro 23 = 3 := gc_bR hb (by decide) rfl
  have R_46 : ro 46 = 37 := gc_bR hb (by decide) rfl
  have R_47 : ro 47 = 0 := gc_bR hb (by decide) rfl
  have S_1 : sh[1]? = some (false, 8, 21) := gc_bS hb rfl
  have S_12 : sh[12]? = some (true, 1, 96) := gc_bS hb rfl
  have S_23 : sh[23]? = some (false, 9, 10) := gc_bS hb rfl
  have S_39 : sh[39]? = some (false, 6, 19) := gc_bS hb rfl
  have S_46 : sh[46]? = some (true, 1, 60) := gc_bS hb rfl
  have S_47 : sh[47]? = some (true, 1, 60) := gc_bS hb rfl
  have hD : gv_D (gc_E6 ws0 tb 2 (yX6_closeArguments, cX6_closeArguments, 4, (some .int)) kX6_closeArguments) := gq_ok oX6_closeArguments
  refine gc_ev6 (d := 2) (l := kX6_closeArguments) (Po := fun r h' => (∃ (I' : gr_I) (J' : gr_J), h' = gc_h sh I' J' A ∧ gc_Inv ro I' ∧ (∀ q j : Nat, ((q = 39 ∧ j = 3) ∨ (q = 39 ∧ j = 4) ∨ (q = 23 ∧ j = 5) ∨ (q = 23 ∧ j = 6) ∨ (q = 23 ∧ j = 7) ∨ (q = 23 ∧ j = 8) ∨ q = 47) ∨ I' q j = I q j) ∧ (∀ q j : Nat, ((q = 23 ∧ j = 9)) ∨ J' q j = J q j) ∧ gc_LT I' ∧ (∃ z : Int, r = some (.inl z) ∧ (-1) ≤ z ∧ z ≤ 60 ∧ (I' 23 5 ≤ I' 23 6) ∧ (I' 23 7 = 5 ∨ I' 23 6 ≤ I' 23 1) ∧ (I' 23 5 ≤ I' 23 1) ∧ (I' 23 7 = 4 ∨ (I' 23 5 < I' 23 6 ∧ I' 23 5 < I' 23 1)) ∧ (I' 23 7 = 3 → 2 ≤ I' 23 6 - I' 23 5 ∧ I' 23 6 - I' 23 5 ≤ 14) ∧ (I' 23 1 = I 23 1) ∧ (I 23 5 ≤ I' 23 5) ∧ (z ≤ a1) ∧ (gc_SE I' z) ∧ (z = 0 → gc_ss I (Int.toNat a1) = 0) ∧ (1 ≤ z → gc_ss I' (Int.toNat z) = gc_ss I (Int.toNat a1) - 1)))) htb rfl (Nat.le_of_ble_eq_true rfl) ?_
  have f1 := (show 0 ≤ I 23 1 ∧ I 23 1 ≤ 1000 from gc_in hI R_23 rfl rfl)
  have f2 := (show 0 ≤ I 23 5 ∧ I 23 5 ≤ 1000 from gc_in hI R_23 rfl rfl)
  have f3 := (show 0 ≤ I 23 6 ∧ I 23 6 ≤ 1001 from gc_in hI R_23 rfl rfl)
  have f4 := (show 0 ≤ I 23 7 ∧ I 23 7 ≤ 125 from gc_in hI R_23 rfl rfl)
  have L2 : ∀ (n9 : Nat) (I5 : gr_I) (J6 : gr_J) (v2_7 : Int), (v2_7).toNat < n9 → gc_Inv ro I5 → (∀ q j : Nat, ((q = 39 ∧ j = 3) ∨ (q = 39 ∧ j = 4) ∨ (q = 23 ∧ j = 5) ∨ (q = 23 ∧ j = 6) ∨ (q = 23 ∧ j = 7) ∨ (q = 23 ∧ j = 8) ∨ q = 47) ∨ I5 q j = I q j) → (∀ q j : Nat, ((q = 23 ∧ j = 9)) ∨ J6 q j = J q j) → gc_LT I5 → ((0 ≤ v2_7 ∧ v2_7 ≤ 60) ∧ (v2_7 ≤ a1) ∧ (I5 23 5 ≤ I5 23 6) ∧ (I5 23 7 = 5 ∨ I5 23 6 ≤ I5 23 1) ∧ (I5 23 5 ≤ I5 23 1) ∧ (I5 23 7 = 4 ∨ (I5 23 5 < I5 23 6 ∧ I5 23 5 < I5 23 1)) ∧ (I5 23 7 = 3 → 2 ≤ I5 23 6 - I5 23 5 ∧ I5 23 6 - I5 23 5 ≤ 14) ∧ (I5 23 1 = I 23 1) ∧ (I 23 5 ≤ I5 23 5)) → (gc_SE I5 v2_7) → (gc_ss I5 (Int.toNat v2_7) = gc_ss I (Int.toNat a1)) → gv_X (gc_E6 ws0 tb 2 (yX6_closeArguments, cX6_closeArguments, 4, (some .int)) kX6_closeArguments) (gv_Q cX6_closeArguments (some .int) sh (fun r h' => (∃ (I' : gr_I) (J' : gr_J), h' = gc_h sh I' J' A ∧ gc_Inv ro I' ∧ (∀ q j : Nat, ((q = 39 ∧ j = 3) ∨ (q = 39 ∧ j = 4) ∨ (q = 23 ∧ j = 5) ∨ (q = 23 ∧ j = 6) ∨ (q = 23 ∧ j = 7) ∨ (q = 23 ∧ j = 8) ∨ q = 47) ∨ I' q j = I q j) ∧ (∀ q j : Nat, ((q = 23 ∧ j = 9)) ∨ J' q j = J q j) ∧ gc_LT I' ∧ (∃ z : Int, r = some (.inl z) ∧ (-1) ≤ z ∧ z ≤ 60 ∧ (I' 23 5 ≤ I' 23 6) ∧ (I' 23 7 = 5 ∨ I' 23 6 ≤ I' 23 1) ∧ (I' 23 5 ≤ I' 23 1) ∧ (I' 23 7 = 4 ∨ (I' 23 5 < I' 23 6 ∧ I' 23 5 < I' 23 1)) ∧ (I' 23 7 = 3 → 2 ≤ I' 23 6 - I' 23 5 ∧ I' 23 6 - I' 23 5 ≤ 14) ∧ (I' 23 1 = I 23 1) ∧ (I 23 5 ≤ I' 23 5) ∧ (z ≤ a1) ∧ (gc_SE I' z) ∧ (z = 0 → gc_ss I (Int.toNat a1) = 0) ∧ (1 ≤ z → gc_ss I' (Int.toNat z) = gc_ss I (Int.toNat a1) - 1))))) (2, [(0, .inr (.inr (some 39))), (2, .inl v2_7)], [], sh, gc_h sh I5 J6 A) := by
    intro n9
    induction n9 with
    | zero => intro I5 J6 v2_7 hn; omega
    | succ n9 ih2 =>
      intro I5 J6 v2_7 hn hI5 FI5 FJ6 KLT_I5 m_7 e0_7 e1_7
      clear x0 x1 x2 x3 x4
      obtain ⟨hv2_7, e2_7, e3_7, e4_7, e5_7, e6_7, e7_7, e8_7, e9_7⟩ := m_7
      have f8 := (show 0 ≤ I5 23 1 ∧ I5 23 1 ≤ 1000 from gc_in hI5 R_23 rfl rfl)
      have f9 := (show 0 ≤ I5 23 5 ∧ I5 23 5 ≤ 1000 from gc_in hI5 R_23 rfl rfl)
      have f10 := (show 0 ≤ I5 23 6 ∧ I5 23 6 ≤ 1001 from gc_in hI5 R_23 rfl rfl)
      have f11 := (show 0 ≤ I5 23 7 ∧ I5 23 7 ≤ 125 from gc_in hI5 R_23 rfl rfl)
      have L50 : ∀ (I12 : gr_I) (J13 : gr_J) (s0_14 : Int), gc_Inv ro I12 → (∀ q j : Nat, ((q = 39 ∧ j = 3) ∨ (q = 39 ∧ j = 4) ∨ (q = 23 ∧ j = 5) ∨ (q = 23 ∧ j = 6) ∨ (q = 23 ∧ j = 7) ∨ (q = 23 ∧ j = 8) ∨ q = 47) ∨ I12 q j = I q j) → (∀ q j : Nat, ((q = 23 ∧ j = 9)) ∨ J13 q j = J q j) → gc_LT I12 → ((1 ≤ v2_7 ∧ v2_7 ≤ 60) ∧ (0 ≤ s0_14 ∧ s0_14 ≤ 1) ∧ (1 ≤ v2_7) ∧ (0 ≤ I12 47 (Int.toNat (v2_7 - 1))) ∧ (I12 47 (Int.toNat (v2_7 - 1)) ≤ I12 12 (Int.toNat (I12 46 (Int.toNat (v2_7 - 1))))) ∧ (s0_14 = 0 ∨ I12 47 (Int.toNat (v2_7 - 1)) < I12 12 (Int.toNat (I12 46 (Int.toNat (v2_7 - 1))))) ∧ (s0_14 = 1 ∨ I12 47 (Int.toNat (v2_7 - 1)) = I12 12 (Int.toNat (I12 46 (Int.toNat (v2_7 - 1))))) ∧ (v2_7 ≤ a1) ∧ (I12 23 5 ≤ I12 23 6) ∧ (I12 23 7 = 5 ∨ I12 23 6 ≤ I12 23 1) ∧ (I12 23 5 ≤ I12 23 1) ∧ (I12 23 7 = 4 ∨ (I12 23 5 < I12 23 6 ∧ I12 23 5 < I12 23 1)) ∧ (I12 23 7 = 3 → 2 ≤ I12 23 6 - I12 23 5 ∧ I12 23 6 - I12 23 5 ≤ 14) ∧ (I12 23 1 = I 23 1) ∧ (I 23 5 ≤ I12 23 5)) → (gc_SE I12 (v2_7 - 1)) → (gc_ss I12 (Int.toNat v2_7) = gc_ss I (Int.toNat a1) - 1) → gv_X (gc_E6 ws0 tb 2 (yX6_closeArguments, cX6_closeArguments, 4, (some .int)) kX6_closeArguments) (gv_Q cX6_closeArguments (some .int) sh (fun r h' => (∃ (I' : gr_I) (J' : gr_J), h' = gc_h sh I' J' A ∧ gc_Inv ro I' ∧ (∀ q j : Nat, ((q = 39 ∧ j = 3) ∨ (q = 39 ∧ j = 4) ∨ (q = 23 ∧ j = 5) ∨ (q = 23 ∧ j = 6) ∨ (q = 23 ∧ j = 7) ∨ (q = 23 ∧ j = 8) ∨ q = 47) ∨ I' q j = I q j) ∧ (∀ q j : Nat, ((q = 23 ∧ j = 9)) ∨ J' q j = J q j) ∧ gc_LT I' ∧ (∃ z : Int, r = some (.inl z) ∧ (-1) ≤ z ∧ z ≤ 60 ∧ (I' 23 5 ≤ I' 23 6) ∧ (I' 23 7 = 5 ∨ I' 23 6 ≤ I' 23 1) ∧ (I' 23 5 ≤ I' 23 1) ∧ (I' 23 7 = 4 ∨ (I' 23 5 < I' 23 6 ∧ I' 23 5 < I' 23 1)) ∧ (I' 23 7 = 3 → 2 ≤ I' 23 6 - I' 23 5 ∧ I' 23 6 - I' 23 5 ≤ 14) ∧ (I' 23 1 = I 23 1) ∧ (I 23 5 ≤ I' 23 5) ∧ (z ≤ a1) ∧ (gc_SE I' z) ∧ (z = 0 → gc_ss I (Int.toNat a1) = 0) ∧ (1 ≤ z → gc_ss I' (Int.toNat z) = gc_ss I (Int.toNat a1) - 1))))) (50, [(0, .inr (.inr (some 39))), (2, .inl v2_7)], [.inl s0_14], sh, gc_h sh I12 J13 A) := by
        intro I12 J13 s0_14 hI12 FI12 FJ13 KLT_I12 m_14 e0_14 e1_14
        clear hv2_7 e2_7 e3_7 e4_7 e5_7 e6_7 e7_7 e8_7 e9_7 f8 f9 f10 f11
        obtain ⟨hv2_7_14, hs0_14, e2_14, e3_14, e4_14, e5_14, e6_14, e7_14, e8_14, e9_14, e10_14, e11_14, e12_14, e13_14, e14_14⟩ := m_14
        have f15 := (show 0 ≤ I12 23 1 ∧ I12 23 1 ≤ 1000 from gc_in hI12 R_23 rfl rfl)
        have f16 := (show 0 ≤ I12 23 5 ∧ I12 23 5 ≤ 1000 from gc_in hI12 R_23 rfl rfl)
        have f17 := (show 0 ≤ I12 23 6 ∧ I12 23 6 ≤ 1001 from gc_in hI12 R_23 rfl rfl)
        have f18 := (show 0 ≤ I12 23 7 ∧ I12 23 7 ≤ 125 from gc_in hI12 R_23 rfl rfl)
        have L69 : ∀ (v3_19 : Int) (s0_19 : Int) (s1_19 : Int), ((1 ≤ v2_7 ∧ v2_7 ≤ 60) ∧ (0 ≤ v3_19 ∧ v3_19 ≤ 1) ∧ (0 ≤ s0_19 ∧ s0_19 ≤ 125) ∧ (41 ≤ s1_19 ∧ s1_19 ≤ 44) ∧ (1 ≤ v2_7) ∧ (0 ≤ I12 47 (Int.toNat (v2_7 - 1))) ∧ (v3_19 = 0 ∨ I12 47 (Int.toNat (v2_7 - 1)) < I12 12 (Int.toNat (I12 46 (Int.toNat (v2_7 - 1))))) ∧ (v3_19 = 1 ∨ I12 47 (Int.toNat (v2_7 - 1)) = I12 12 (Int.toNat (I12 46 (Int.toNat (v2_7 - 1))))) ∧ (s1_19 = 44 ∨ s1_19 = 41) ∧ (v2_7 ≤ a1) ∧ (I12 23 5 ≤ I12 23 6) ∧ (I12 23 7 = 5 ∨ I12 23 6 ≤ I12 23 1) ∧ (I12 23 5 ≤ I12 23 1) ∧ (I12 23 7 = 4 ∨ (I12 23 5 < I12 23 6 ∧ I12 23 5 < I12 23 1)) ∧ (I12 23 7 = 3 → 2 ≤ I12 23 6 - I12 23 5 ∧ I12 23 6 - I12 23 5 ≤ 14) ∧ (I12 23 1 = I 23 1) ∧ (I 23 5 ≤ I12 23 5)) → gv_X (gc_E6 ws0 tb 2 (yX6_closeArguments, cX6_closeArguments, 4, (some .int)) kX6_closeArguments) (gv_Q cX6_closeArguments (some .int) sh (fun r h' => (∃ (I' : gr_I) (J' : gr_J), h' = gc_h sh I' J' A ∧ gc_Inv ro I' ∧ (∀ q j : Nat, ((q = 39 ∧ j = 3) ∨ (q = 39 ∧ j = 4) ∨ (q = 23 ∧ j = 5) ∨ (q = 23 ∧ j = 6) ∨ (q = 23 ∧ j = 7) ∨ (q = 23 ∧ j = 8) ∨ q = 47) ∨ I' q j = I q j) ∧ (∀ q j : Nat, ((q = 23 ∧ j = 9)) ∨ J' q j = J q j) ∧ gc_LT I' ∧ (∃ z : Int, r = some (.inl z) ∧ (-1) ≤ z ∧ z ≤ 60 ∧ (I' 23 5 ≤ I' 23 6) ∧ (I' 23 7 = 5 ∨ I' 23 6 ≤ I' 23 1) ∧ (I' 23 5 ≤ I' 23 1) ∧ (I' 23 7 = 4 ∨ (I' 23 5 < I' 23 6 ∧ I' 23 5 < I' 23 1)) ∧ (I' 23 7 = 3 → 2 ≤ I' 23 6 - I' 23 5 ∧ I' 23 6 - I' 23 5 ≤ 14) ∧ (I' 23 1 = I 23 1) ∧ (I 23 5 ≤ I' 23 5) ∧ (z ≤ a1) ∧ (gc_SE I' z) ∧ (z = 0 → gc_ss I (Int.toNat a1) = 0) ∧ (1 ≤ z → gc_ss I' (Int.toNat z) = gc_ss I (Int.toNat a1) - 1))))) (69, [(0, .inr (.inr (some 39))), (2, .inl v2_7), (3, .inl v3_19)], [.inl s1_19, .inl s0_19], sh, gc_h sh I12 J13 A) := by
          intro v3_19 s0_19 s1_19 m_19
          obtain ⟨hv2_7_19, hv3_19, hs0_19, hs1_19, e0_19, e1_19, e2_19, e3_19, e4_19, e5_19, e6_19, e7_19, e8_19, e9_19, e10_19, e11_19, e12_19⟩ := m_19
          have f20 := (show 0 ≤ I12 23 1 ∧ I12 23 1 ≤ 1000 from gc_in hI12 R_23 rfl rfl)
          have f21 := (show 0 ≤ I12 23 5 ∧ I12 23 5 ≤ 1000 from gc_in hI12 R_23 rfl rfl)
          have f22 := (show 0 ≤ I12 23 6 ∧ I12 23 6 ≤ 1001 from gc_in hI12 R_23 rfl rfl)
          have f23 := (show 0 ≤ I12 23 7 ∧ I12 23 7 ≤ 125 from gc_in hI12 R_23 rfl rfl)
          refine gv_icmp_eq (t := 74) hD rfl rfl ⟨⟨by omega, by omega⟩, ⟨by omega, by omega⟩⟩ (fun c24 => ?_) (fun c24 => ?_)
          · show gv_X _ _ (74, [(0, .inr (.inr (some 39))), (2, .inl v2_7), (3, .inl v3_19)], [], sh, gc_h sh I12 J13 A)
            refine gv_run 1 true hD (pc' := 75) (lv' := [(0, .inr (.inr (some 39))), (2, .inl v2_7), (3, .inl v3_19)]) (st' := [.inr (.inr (some 39))]) (h' := gc_h sh I12 J13 A) (C := (True ∧ True)) rfl ⟨trivial, trivial⟩ ?_
            refine gv_get hD rfl rfl S_39 ⟨by decide, B_39⟩ (gc_hA S_39 rfl A_39_1) ?_
            show gv_X _ _ (78, [(0, .inr (.inr (some 39))), (2, .inl v2_7), (3, .inl v3_19)], [.inr (.inr (some 23))], sh, gc_h sh I12 J13 A)
            obtain ⟨r25, h25, E25, P25⟩ := d_X9_advance (ws0 := ws0) (tb := tb) hws htb sh ro I12 J13 A hI12 23  (gc_b23 hb)    (by omega) 
            obtain ⟨I26, J27, rfl, hI26, g25, k25, ⟨rfl, q25⟩⟩ := P25
            have FI26 := gc_frc (W := fun q j => (q = 39 ∧ j = 3) ∨ (q = 39 ∧ j = 4) ∨ (q = 23 ∧ j = 5) ∨ (q = 23 ∧ j = 6) ∨ (q = 23 ∧ j = 7) ∨ (q = 23 ∧ j = 8) ∨ q = 47) (V := fun q j => (q = 23 ∧ j = 5) ∨ (q = 23 ∧ j = 6) ∨ (q = 23 ∧ j = 7) ∨ (q = 23 ∧ j = 8)) FI12 (fun q j h => (h.elim (fun h => (Or.inr (Or.inr (Or.inl h)))) (fun h => (h.elim (fun h => (Or.inr (Or.inr (Or.inr (Or.inl h))))) (fun h => (h.elim (fun h => (Or.inr (Or.inr (Or.inr (Or.inr (Or.inl h)))))) (fun h => (Or.inr (Or.inr (Or.inr (Or.inr (Or.inr (Or.inl h))))))))))))) g25
            have FJ27 := gc_frc (W := fun q j => (q = 23 ∧ j = 9)) (V := fun q j => (q = 23 ∧ j = 9)) FJ13 (fun q j h => h) k25
            have t28 := (g25 23 1).resolve_left (by omega)
            have f29 := (show 0 ≤ I26 23 1 ∧ I26 23 1 ≤ 1000 from gc_in hI26 R_23 rfl rfl)
            have f30 := (show 0 ≤ I26 23 5 ∧ I26 23 5 ≤ 1000 from gc_in hI26 R_23 rfl rfl)
            have f31 := (show 0 ≤ I26 23 6 ∧ I26 23 6 ≤ 1001 from gc_in hI26 R_23 rfl rfl)
            have f32 := (show 0 ≤ I26 23 7 ∧ I26 23 7 ≤ 125 from gc_in hI26 R_23 rfl rfl)
            have KLT_I26 : gc_LT I26 := q25.2.2.2.2.2.2.2
            refine gv_callV hD rfl (As := []) (st := []) rfl B_23 S_23 rfl (gc_lV6 hws rfl) (Nat.le_of_ble_eq_true rfl) (gz_Ev_mono (d := 2) (by decide) E25) ?_
            show gv_X _ _ (81, [(0, .inr (.inr (some 39))), (2, .inl v2_7), (3, .inl v3_19)], [], sh, gc_h sh I26 J27 A)
            have t33 := (show I26 47 (Int.toNat (v2_7 - 1)) = I12 47 (Int.toNat (v2_7 - 1)) from (g25 47 _).resolve_left (by omega))
            have t34 := (show I26 12 (Int.toNat (I26 46 (Int.toNat (v2_7 - 1)))) = I12 12 (Int.toNat (I12 46 (Int.toNat (v2_7 - 1)))) from by rw [show I26 46 (Int.toNat (v2_7 - 1)) = I12 46 (Int.toNat (v2_7 - 1)) from (g25 46 _).resolve_left (by omega)]; exact (g25 12 _).resolve_left (by omega))
            refine gv_run 1 true hD (pc' := 82) (lv' := [(0, .inr (.inr (some 39))), (2, .inl v2_7), (3, .inl v3_19)]) (st' := [.inl v3_19]) (h' := gc_h sh I26 J27 A) (C := (True ∧ True)) rfl ⟨trivial, trivial⟩ ?_
            refine gv_if_eq (t := 87) hD rfl rfl ⟨by omega, by omega⟩ (fun c35 => ?_) (fun c35 => ?_)
            · show gv_X _ _ (87, [(0, .inr (.inr (some 39))), (2, .inl v2_7), (3, .inl v3_19)], [], sh, gc_h sh I26 J27 A)
              refine gv_run 2 true hD (pc' := 2) (lv' := [(2, .inl (v2_7 + (-1))), (0, .inr (.inr (some 39))), (3, .inl v3_19)]) (st' := []) (h' := gc_h sh I26 J27 A) (C := ((True ∧ True) ∧ True)) rfl ⟨⟨trivial, trivial⟩, trivial⟩ ?_
              refine gv_pick [1, 0] rfl ?_
              exact ih2 I26 J27 ((v2_7 + (-1))) (by omega) hI26 FI26 FJ27 KLT_I26 (by omega) (fun k hk => (gc_SE_fr e0_14 (fun k _ => (g25 47 k).resolve_left (by omega)) (fun k _ => (g25 46 k).resolve_left (by omega)) (fun k => (g25 12 k).resolve_left (by omega))) k (by omega)) (by have h1 := e1_14; have h2 := gc_ss_at (I := I12) (d := v2_7) (by omega); have h3 := gc_ss_fr (I := I12) (I' := I26) (d := Int.toNat (v2_7 - 1)) (fun k _ => (g25 47 k).resolve_left (by omega)) (fun k _ => (g25 46 k).resolve_left (by omega)) (fun k => (g25 12 k).resolve_left (by omega)); rw [show Int.toNat (v2_7 + (-1)) = Int.toNat (v2_7 - 1) from by omega]; omega)
            · show gv_X _ _ (85, [(0, .inr (.inr (some 39))), (2, .inl v2_7), (3, .inl v3_19)], [], sh, gc_h sh I26 J27 A)
              refine gv_run 1 true hD (pc' := 86) (lv' := [(0, .inr (.inr (some 39))), (2, .inl v2_7), (3, .inl v3_19)]) (st' := [.inl v2_7]) (h' := gc_h sh I26 J27 A) (C := (True ∧ True)) rfl ⟨trivial, trivial⟩ ?_
              exact gv_iret hD rfl ⟨I26, J27, rfl, hI26, FI26, FJ27, KLT_I26, ⟨_, rfl, by omega, by omega, by omega, by omega, by omega, by omega, by omega, by omega, by omega, by omega, (fun k hk => if hkk : k = Int.toNat (v2_7 - 1) then (by rw [hkk]; omega) else ((gc_SE_fr e0_14 (fun k _ => (g25 47 k).resolve_left (by omega)) (fun k _ => (g25 46 k).resolve_left (by omega)) (fun k => (g25 12 k).resolve_left (by omega))) k (by omega))), (fun h => by omega), (fun _ => by have h1 := e1_14; have h3 := gc_ss_fr (I := I12) (I' := I26) (d := Int.toNat v2_7) (fun k _ => (g25 47 k).resolve_left (by omega)) (fun k _ => (g25 46 k).resolve_left (by omega)) (fun k => (g25 12 k).resolve_left (by omega)); omega)⟩⟩
          · show gv_X _ _ (72, [(0, .inr (.inr (some 39))), (2, .inl v2_7), (3, .inl v3_19)], [], sh, gc_h sh I12 J13 A)
            refine gv_run 1 true hD (pc' := 73) (lv' := [(0, .inr (.inr (some 39))), (2, .inl v2_7), (3, .inl v3_19)]) (st' := [.inl (-1)]) (h' := gc_h sh I12 J13 A) (C := (True ∧ True)) rfl ⟨trivial, trivial⟩ ?_
            exact gv_iret hD rfl ⟨I12, J13, rfl, hI12, FI12, FJ13, KLT_I12, ⟨_, rfl, by omega, by omega, by omega, by omega, by omega, by omega, by omega, by omega, by omega, by omega, (fun k hk => by omega), (fun h => by omega), (fun h => by omega)⟩⟩
        refine gv_run 2 true hD (pc' := 52) (lv' := [(3, .inl s0_14), (0, .inr (.inr (some 39))), (2, .inl v2_7)]) (st' := [.inr (.inr (some 39))]) (h' := gc_h sh I12 J13 A) (C := ((True ∧ True) ∧ True)) rfl ⟨⟨trivial, trivial⟩, trivial⟩ ?_
        refine gv_get hD rfl rfl S_39 ⟨by decide, B_39⟩ (gc_hA S_39 rfl A_39_1) ?_
        show gv_X _ _ (55, [(3, .inl s0_14), (0, .inr (.inr (some 39))), (2, .inl v2_7)], [.inr (.inr (some 23))], sh, gc_h sh I12 J13 A)
        have f36 := (show 0 ≤ I12 23 7 ∧ I12 23 7 ≤ 125 from gc_in hI12 R_23 rfl rfl)
        refine gv_get hD rfl rfl S_23 ⟨by decide, B_23⟩ (gc_hI S_23 rfl) ?_
        show gv_X _ _ (58, [(3, .inl s0_14), (0, .inr (.inr (some 39))), (2, .inl v2_7)], [.inl (I12 23 7)], sh, gc_h sh I12 J13 A)
        refine gv_run 1 true hD (pc' := 59) (lv' := [(3, .inl s0_14), (0, .inr (.inr (some 39))), (2, .inl v2_7)]) (st' := [.inl s0_14, .inl (I12 23 7)]) (h' := gc_h sh I12 J13 A) (C := (True ∧ True)) rfl ⟨trivial, trivial⟩ ?_
        refine gv_if_eq (t := 67) hD rfl rfl ⟨by omega, by omega⟩ (fun c37 => ?_) (fun c37 => ?_)
        · show gv_X _ _ (67, [(3, .inl s0_14), (0, .inr (.inr (some 39))), (2, .inl v2_7)], [.inl (I12 23 7)], sh, gc_h sh I12 J13 A)
          refine gv_run 1 true hD (pc' := 69) (lv' := [(3, .inl s0_14), (0, .inr (.inr (some 39))), (2, .inl v2_7)]) (st' := [.inl 41, .inl (I12 23 7)]) (h' := gc_h sh I12 J13 A) (C := (True ∧ True)) rfl ⟨trivial, trivial⟩ ?_
          refine gv_pick [1, 2, 0] rfl ?_
          exact L69 s0_14 (I12 23 7) 41 (by omega)
        · show gv_X _ _ (62, [(3, .inl s0_14), (0, .inr (.inr (some 39))), (2, .inl v2_7)], [.inl (I12 23 7)], sh, gc_h sh I12 J13 A)
          refine gv_run 2 true hD (pc' := 69) (lv' := [(3, .inl s0_14), (0, .inr (.inr (some 39))), (2, .inl v2_7)]) (st' := [.inl 44, .inl (I12 23 7)]) (h' := gc_h sh I12 J13 A) (C := ((True ∧ True) ∧ True)) rfl ⟨⟨trivial, trivial⟩, trivial⟩ ?_
          refine gv_pick [1, 2, 0] rfl ?_
          exact L69 s0_14 (I12 23 7) 44 (by omega)
      refine gv_run 1 true hD (pc' := 3) (lv' := [(0, .inr (.inr (some 39))), (2, .inl v2_7)]) (st' := [.inl v2_7]) (h' := gc_h sh I5 J6 A) (C := (True ∧ True)) rfl ⟨trivial, trivial⟩ ?_
      refine gv_if_le (t := 93) hD rfl rfl ⟨by omega, by omega⟩ (fun c38 => ?_) (fun c38 => ?_)
      · show gv_X _ _ (93, [(0, .inr (.inr (some 39))), (2, .inl v2_7)], [], sh, gc_h sh I5 J6 A)
        refine gv_run 1 true hD (pc' := 94) (lv' := [(0, .inr (.inr (some 39))), (2, .inl v2_7)]) (st' := [.inl 0]) (h' := gc_h sh I5 J6 A) (C := (True ∧ True)) rfl ⟨trivial, trivial⟩ ?_
        exact gv_iret hD rfl ⟨I5, J6, rfl, hI5, FI5, FJ6, KLT_I5, ⟨_, rfl, by omega, by omega, by omega, by omega, by omega, by omega, by omega, by omega, by omega, by omega, (fun k hk => by omega), (fun _ => by have h1 := e1_7; rw [show Int.toNat v2_7 = 0 from by omega] at h1; exact h1.symm), (fun h => by omega)⟩⟩
      · show gv_X _ _ (6, [(0, .inr (.inr (some 39))), (2, .inl v2_7)], [], sh, gc_h sh I5 J6 A)
        have t39 := e0_7 (Int.toNat (v2_7 - 1)) (by omega)
        refine gv_run 1 true hD (pc' := 7) (lv' := [(0, .inr (.inr (some 39))), (2, .inl v2_7)]) (st' := [.inr (.inr (some 39))]) (h' := gc_h sh I5 J6 A) (C := (True ∧ True)) rfl ⟨trivial, trivial⟩ ?_
        refine gv_get hD rfl rfl S_39 ⟨by decide, B_39⟩ (gc_hA S_39 rfl A_39_18) ?_
        show gv_X _ _ (10, [(0, .inr (.inr (some 39))), (2, .inl v2_7)], [.inr (.inr (some 47))], sh, gc_h sh I5 J6 A)
        refine gv_run 4 true hD (pc' := 14) (lv' := [(0, .inr (.inr (some 39))), (2, .inl v2_7)]) (st' := [.inl (v2_7 - 1), .inr (.inr (some 47)), .inl (v2_7 - 1), .inr (.inr (some 47))]) (h' := gc_h sh I5 J6 A) (C := ((((True ∧ True) ∧ True) ∧ True) ∧ True)) rfl ⟨⟨⟨⟨trivial, trivial⟩, trivial⟩, trivial⟩, trivial⟩ ?_
        have f40 := (show (-2147483648) ≤ I5 47 (Int.toNat (v2_7 - 1)) ∧ I5 47 (Int.toNat (v2_7 - 1)) ≤ 2147483647 from gc_in hI5 R_47 rfl rfl)
        refine gv_iald hD rfl S_47 rfl ⟨by decide, B_47⟩ ⟨by omega, by omega⟩ (gc_iI S_47 rfl) ?_
        show gv_X _ _ (15, [(0, .inr (.inr (some 39))), (2, .inl v2_7)], [.inl (I5 47 (Int.toNat (v2_7 - 1))), .inl (v2_7 - 1), .inr (.inr (some 47))], sh, gc_h sh I5 J6 A)
        refine gv_run 2 true hD (pc' := 17) (lv' := [(0, .inr (.inr (some 39))), (2, .inl v2_7)]) (st' := [.inl ((I5 47 (Int.toNat (v2_7 - 1))) + 1), .inl (v2_7 - 1), .inr (.inr (some 47))]) (h' := gc_h sh I5 J6 A) (C := ((True ∧ True) ∧ True)) rfl ⟨⟨trivial, trivial⟩, trivial⟩ ?_
        refine gv_iast hD rfl S_47 ⟨by decide, B_47⟩ ⟨by omega, by omega⟩ ?_
        refine gc_st hI5 S_47 rfl R_47 (lo := (-2147483648)) (hi := 2147483647) rfl rfl (by omega) (by omega) (fun I41 hI41 q42 p42 => ?_)
        have FI41 := gc_frs (W := fun q j => (q = 39 ∧ j = 3) ∨ (q = 39 ∧ j = 4) ∨ (q = 23 ∧ j = 5) ∨ (q = 23 ∧ j = 6) ∨ (q = 23 ∧ j = 7) ∨ (q = 23 ∧ j = 8) ∨ q = 47) FI5 (Or.inr (Or.inr (Or.inr (Or.inr (Or.inr (Or.inr rfl)))))) p42
        have t43 := p42 23 1 (fun h => absurd h.1 (by omega))
        have t44 := p42 23 5 (fun h => absurd h.1 (by omega))
        have t45 := p42 23 6 (fun h => absurd h.1 (by omega))
        have t46 := p42 23 7 (fun h => absurd h.1 (by omega))
        have f47 := (show 0 ≤ I41 23 1 ∧ I41 23 1 ≤ 1000 from gc_in hI41 R_23 rfl rfl)
        have f48 := (show 0 ≤ I41 23 5 ∧ I41 23 5 ≤ 1000 from gc_in hI41 R_23 rfl rfl)
        have f49 := (show 0 ≤ I41 23 6 ∧ I41 23 6 ≤ 1001 from gc_in hI41 R_23 rfl rfl)
        have f50 := (show 0 ≤ I41 23 7 ∧ I41 23 7 ≤ 125 from gc_in hI41 R_23 rfl rfl)
        have KLT_I41 := gc_LT_fr KLT_I5 (p42 23 5 (fun h => absurd h.1 (by omega))) (p42 23 6 (fun h => absurd h.1 (by omega))) (p42 23 7 (fun h => absurd h.1 (by omega))) (fun k => p42 24 k (fun h => absurd h.1 (by omega)))
        show gv_X _ _ (18, [(0, .inr (.inr (some 39))), (2, .inl v2_7)], [], sh, gc_h sh I41 J6 A)
        refine gv_run 1 true hD (pc' := 19) (lv' := [(0, .inr (.inr (some 39))), (2, .inl v2_7)]) (st' := [.inr (.inr (some 39))]) (h' := gc_h sh I41 J6 A) (C := (True ∧ True)) rfl ⟨trivial, trivial⟩ ?_
        refine gv_get hD rfl rfl S_39 ⟨by decide, B_39⟩ (gc_hA S_39 rfl A_39_18) ?_
        show gv_X _ _ (22, [(0, .inr (.inr (some 39))), (2, .inl v2_7)], [.inr (.inr (some 47))], sh, gc_h sh I41 J6 A)
        refine gv_run 3 true hD (pc' := 25) (lv' := [(0, .inr (.inr (some 39))), (2, .inl v2_7)]) (st' := [.inl (v2_7 - 1), .inr (.inr (some 47))]) (h' := gc_h sh I41 J6 A) (C := (((True ∧ True) ∧ True) ∧ True)) rfl ⟨⟨⟨trivial, trivial⟩, trivial⟩, trivial⟩ ?_
        have f51 := (show (-2147483648) ≤ I41 47 (Int.toNat (v2_7 - 1)) ∧ I41 47 (Int.toNat (v2_7 - 1)) ≤ 2147483647 from gc_in hI41 R_47 rfl rfl)
        refine gv_iald hD rfl S_47 rfl ⟨by decide, B_47⟩ ⟨by omega, by omega⟩ (gc_iI S_47 rfl) ?_
        show gv_X _ _ (26, [(0, .inr (.inr (some 39))), (2, .inl v2_7)], [.inl (I41 47 (Int.toNat (v2_7 - 1)))], sh, gc_h sh I41 J6 A)
        refine gv_run 1 true hD (pc' := 27) (lv' := [(0, .inr (.inr (some 39))), (2, .inl v2_7)]) (st' := [.inr (.inr (some 39)), .inl (I41 47 (Int.toNat (v2_7 - 1)))]) (h' := gc_h sh I41 J6 A) (C := (True ∧ True)) rfl ⟨trivial, trivial⟩ ?_
        refine gv_get hD rfl rfl S_39 ⟨by decide, B_39⟩ (gc_hA S_39 rfl A_39_0) ?_
        show gv_X _ _ (30, [(0, .inr (.inr (some 39))), (2, .inl v2_7)], [.inr (.inr (some 1)), .inl (I41 47 (Int.toNat (v2_7 - 1)))], sh, gc_h sh I41 J6 A)
        refine gv_get hD rfl rfl S_1 ⟨by decide, B_1⟩ (gc_hA S_1 rfl A_1_7) ?_
        show gv_X _ _ (33, [(0, .inr (.inr (some 39))), (2, .inl v2_7)], [.inr (.inr (some 12)), .inl (I41 47 (Int.toNat (v2_7 - 1)))], sh, gc_h sh I41 J6 A)
        refine gv_run 1 true hD (pc' := 34) (lv' := [(0, .inr (.inr (some 39))), (2, .inl v2_7)]) (st' := [.inr (.inr (some 39)), .inr (.inr (some 12)), .inl (I41 47 (Int.toNat (v2_7 - 1)))]) (h' := gc_h sh I41 J6 A) (C := (True ∧ True)) rfl ⟨trivial, trivial⟩ ?_
        refine gv_get hD rfl rfl S_39 ⟨by decide, B_39⟩ (gc_hA S_39 rfl A_39_17) ?_
        show gv_X _ _ (37, [(0, .inr (.inr (some 39))), (2, .inl v2_7)], [.inr (.inr (some 46)), .inr (.inr (some 12)), .inl (I41 47 (Int.toNat (v2_7 - 1)))], sh, gc_h sh I41 J6 A)
        refine gv_run 3 true hD (pc' := 40) (lv' := [(0, .inr (.inr (some 39))), (2, .inl v2_7)]) (st' := [.inl (v2_7 - 1), .inr (.inr (some 46)), .inr (.inr (some 12)), .inl (I41 47 (Int.toNat (v2_7 - 1)))]) (h' := gc_h sh I41 J6 A) (C := (((True ∧ True) ∧ True) ∧ True)) rfl ⟨⟨⟨trivial, trivial⟩, trivial⟩, trivial⟩ ?_
        have f52 := (show 0 ≤ I41 46 (Int.toNat (v2_7 - 1)) ∧ I41 46 (Int.toNat (v2_7 - 1)) ≤ 95 from gc_in hI41 R_46 rfl rfl)
        refine gv_iald hD rfl S_46 rfl ⟨by decide, B_46⟩ ⟨by omega, by omega⟩ (gc_iI S_46 rfl) ?_
        show gv_X _ _ (41, [(0, .inr (.inr (some 39))), (2, .inl v2_7)], [.inl (I41 46 (Int.toNat (v2_7 - 1))), .inr (.inr (some 12)), .inl (I41 47 (Int.toNat (v2_7 - 1)))], sh, gc_h sh I41 J6 A)
        have f53 := (show 0 ≤ I41 12 (Int.toNat ((I41 46 (Int.toNat (v2_7 - 1))))) ∧ I41 12 (Int.toNat ((I41 46 (Int.toNat (v2_7 - 1))))) ≤ 4 from gc_in hI41 R_12 rfl rfl)
        refine gv_iald hD rfl S_12 rfl ⟨by decide, B_12⟩ ⟨by omega, by omega⟩ (gc_iI S_12 rfl) ?_
        show gv_X _ _ (42, [(0, .inr (.inr (some 39))), (2, .inl v2_7)], [.inl (I41 12 (Int.toNat ((I41 46 (Int.toNat (v2_7 - 1)))))), .inl (I41 47 (Int.toNat (v2_7 - 1)))], sh, gc_h sh I41 J6 A)
        have t54 := e0_7 (Int.toNat (v2_7 - 1)) (by omega)
        have t55 := (show I41 12 (Int.toNat (I41 46 (Int.toNat (v2_7 - 1)))) = I5 12 (Int.toNat (I5 46 (Int.toNat (v2_7 - 1)))) from by rw [p42 46 _ (fun h => absurd h.1 (by omega)), p42 12 _ (fun h => absurd h.1 (by omega))])
        refine gv_icmp_ge (t := 49) hD rfl rfl ⟨⟨by omega, by omega⟩, ⟨by omega, by omega⟩⟩ (fun c56 => ?_) (fun c56 => ?_)
        · show gv_X _ _ (49, [(0, .inr (.inr (some 39))), (2, .inl v2_7)], [], sh, gc_h sh I41 J6 A)
          refine gv_run 1 true hD (pc' := 50) (lv' := [(0, .inr (.inr (some 39))), (2, .inl v2_7)]) (st' := [.inl 0]) (h' := gc_h sh I41 J6 A) (C := (True ∧ True)) rfl ⟨trivial, trivial⟩ ?_
          exact L50 I41 J6 0 hI41 FI41 FJ6 KLT_I41 (by omega) (gc_SE_fr (n := v2_7 - 1) (fun k hk => e0_7 k (by omega)) (fun k hk => p42 47 k (fun h => by have := h.2; omega)) (fun k _ => p42 46 k (fun h => absurd h.1 (by omega))) (fun k => p42 12 k (fun h => absurd h.1 (by omega)))) (by have h1 := gc_ss_at (I := I5) (d := v2_7) (by omega); have h2 := gc_ss_at (I := I41) (d := v2_7) (by omega); have h3 := gc_ss_fr (I := I5) (I' := I41) (d := Int.toNat (v2_7 - 1)) (fun k hk => p42 47 k (fun h => by have := h.2; omega)) (fun k _ => p42 46 k (fun h => absurd h.1 (by omega))) (fun k => p42 12 k (fun h => absurd h.1 (by omega))); have h4 := (show I41 12 (Int.toNat (I41 46 (Int.toNat (v2_7 - 1)))) = I5 12 (Int.toNat (I5 46 (Int.toNat (v2_7 - 1)))) from by rw [p42 46 _ (fun h => absurd h.1 (by omega)), p42 12 _ (fun h => absurd h.1 (by omega))]); have h5 := e1_7; omega)
        · show gv_X _ _ (45, [(0, .inr (.inr (some 39))), (2, .inl v2_7)], [], sh, gc_h sh I41 J6 A)
          refine gv_run 2 true hD (pc' := 50) (lv' := [(0, .inr (.inr (some 39))), (2, .inl v2_7)]) (st' := [.inl 1]) (h' := gc_h sh I41 J6 A) (C := ((True ∧ True) ∧ True)) rfl ⟨⟨trivial, trivial⟩, trivial⟩ ?_
          exact L50 I41 J6 1 hI41 FI41 FJ6 KLT_I41 (by omega) (gc_SE_fr (n := v2_7 - 1) (fun k hk => e0_7 k (by omega)) (fun k hk => p42 47 k (fun h => by have := h.2; omega)) (fun k _ => p42 46 k (fun h => absurd h.1 (by omega))) (fun k => p42 12 k (fun h => absurd h.1 (by omega)))) (by have h1 := gc_ss_at (I := I5) (d := v2_7) (by omega); have h2 := gc_ss_at (I := I41) (d := v2_7) (by omega); have h3 := gc_ss_fr (I := I5) (I' := I41) (d := Int.toNat (v2_7 - 1)) (fun k hk => p42 47 k (fun h => by have := h.2; omega)) (fun k _ => p42 46 k (fun h => absurd h.1 (by omega))) (fun k => p42 12 k (fun h => absurd h.1 (by omega))); have h4 := (show I41 12 (Int.toNat (I41 46 (Int.toNat (v2_7 - 1)))) = I5 12 (Int.toNat (I5 46 (Int.toNat (v2_7 - 1)))) from by rw [p42 46 _ (fun h => absurd h.1 (by omega)), p42 12 _ (fun h => absurd h.1 (by omega))]); have h5 := e1_7; omega)
  refine gv_run 2 true hD (pc' := 2) (lv' := [(2, .inl a1), (0, .inr (.inr (some 39))), (1, .inl a1)]) (st' := []) (h' := gc_h sh I J A) (C := ((True ∧ True) ∧ True)) rfl ⟨⟨trivial, trivial⟩, trivial⟩ ?_
  refine gv_pick [1, 0] rfl ?_
  exact L2 _ I J a1 (Nat.lt_succ_self _) hI FI FJ KLT_I (by omega) x5 rfl
