def gc_op (I : gr_I) (T : Nat) : Nat → Int
  | 0 => 1
  | n + 1 => gc_op I T n - 1 + I 12 (Int.toNat (I T n))
def gc_wtr (I : gr_I) (T : Nat) (n : Int) : Prop := (∀ i : Nat, (i : Int) < n → 1 ≤ gc_op I T i) ∧ gc_op I T (Int.toNat n) = 0
theorem gc_op_fr {I Iₚ : gr_I} {T : Nat} : ∀ {n : Nat}, (∀ k, k < n → Iₚ T k = I T k) → (∀ k, Iₚ 12 k = I 12 k) → gc_op Iₚ T n = gc_op I T n
  | 0, _, _ => rfl
  | n + 1, h, h2 => by
    show gc_op Iₚ T n - 1 + Iₚ 12 (Int.toNat (Iₚ T n)) = gc_op I T n - 1 + I 12 (Int.toNat (I T n))
    rw [gc_op_fr (n := n) (fun k hk => h k (by omega)) h2, h n (by omega), h2]
def gc_SE (I : gr_I) (n : Int) : Prop := ∀ k : Nat, (k : Int) < n → 0 ≤ I 47 k ∧ I 47 k < I 12 (Int.toNat (I 46 k))
def gc_ss (I : gr_I) : Nat → Int
  | 0 => 0
  | d + 1 => gc_ss I d + (I 12 (Int.toNat (I 46 d)) - I 47 d - 1)
theorem gc_ss_at {I : gr_I} {d : Int} (h : 0 < d) : gc_ss I (Int.toNat d) = gc_ss I (Int.toNat (d - 1)) + (I 12 (Int.toNat (I 46 (Int.toNat (d - 1)))) - I 47 (Int.toNat (d - 1)) - 1) := by
  rw [show Int.toNat d = Int.toNat (d - 1) + 1 from by omega]
  rfl
set_option maxHeartbeats 8000000 in
theorem gc_ss_fr {I Iₚ : gr_I} : ∀ {d : Nat}, (∀ k, k < d → Iₚ 47 k = I 47 k) → (∀ k, k < d → Iₚ 46 k = I 46 k) → (∀ k, Iₚ 12 k = I 12 k) → gc_ss Iₚ d = gc_ss I d
  | 0, _, _, _ => rfl
  | d + 1, h, h2, h3 => by
    show gc_ss Iₚ d + (Iₚ 12 (Int.toNat (Iₚ 46 d)) - Iₚ 47 d - 1) = gc_ss I d + (I 12 (Int.toNat (I 46 d)) - I 47 d - 1)
    rw [gc_ss_fr (d := d) (fun k hk => h k (by exact gz_m 0 (by omega))) (fun k hk => h2 k (by exact gz_m 1 (by omega))) h3, h d (by exact gz_m 2 (by omega)), h2 d (by exact gz_m 3 (by omega)), h3]
theorem gc_SE_fr {I Iₚ : gr_I} {n : Int} (h : gc_SE I n) (h1 : ∀ k : Nat, (k : Int) < n → Iₚ 47 k = I 47 k) (h2 : ∀ k : Nat, (k : Int) < n → Iₚ 46 k = I 46 k) (h3 : ∀ k, Iₚ 12 k = I 12 k) : gc_SE Iₚ n := fun k hk => by rw [h1 k hk, h2 k hk, h3]; exact h k hk
theorem gc_ss_nn {I : gr_I} : ∀ {d : Nat}, gc_SE I (d : Int) → 0 ≤ gc_ss I d
  | 0, _ => Int.le_refl 0
  | d + 1, h => by
    have h1 := gc_ss_nn (d := d) (fun k hk => h k (by exact gz_m 0 (by omega)))
    have h2 := h d (by exact gz_m 1 (by omega))
    show 0 ≤ gc_ss I d + (I 12 (Int.toNat (I 46 d)) - I 47 d - 1)
    exact gz_m 2 (by omega)
set_option maxHeartbeats 8000000 in
set_option maxRecDepth 100000 in
theorem d_X6_kindWanted {ws0 : List Cond} {tb : String → gz_T} (hws : gc_Ws ws0) (htb : gc_tbs tb) (sh : gz_Sh) (ro : Nat → Nat) (I : gr_I) (J : gr_J) (A : gc_A) (hI : gc_Inv ro I) (a1 : Int) (hb : gc_Base sh ro A) (ha1 : 0 ≤ a1 ∧ a1 ≤ 59) (x0 : 0 ≤ I 47 (Int.toNat a1) ∧ I 47 (Int.toNat a1) ≤ 3) : ∃ r hₚ, gz_Ev ws0 tb 1 (yX6_kindWanted, cX6_kindWanted, 2, (some .int)) [.inr (.inr (some 39)), .inl a1] sh (gc_h sh I J A) r sh hₚ 0 0 ∧ (hₚ = gc_h sh I J A ∧ (∃ z : Int, r = some (.inl z) ∧ 0 ≤ z ∧ z ≤ 31)) := by
  have A_1_8 : A 1 8 = some 13 := gc_bA_1_8 hb
  have A_39_0 : A 39 0 = some 1 := gc_bA_39_0 hb
  have A_39_17 : A 39 17 = some 46 := gc_bA_39_17 hb
  have A_39_18 : A 39 18 = some 47 := gc_bA_39_18 hb
  have B_1 := gz_hi (show 1 < 1000000 from by decide)
  have B_13 := gz_hi (show 13 < 1000000 from by decide)
  have B_39 := gz_hi (show 39 < 1000000 from by decide)
  have B_46 := gz_hi (show 46 < 1000000 from by decide)
  have B_47 := gz_hi (show 47 < 1000000 from by decide)
  have R_13 := gz_hi (show ro 13 = 25 from gc_bR_13 hb)
  have R_46 := gz_hi (show ro 46 = 37 from gc_bR_46 hb)
  have R_47 := gz_hi (show ro 47 = 0 from gc_bR_47 hb)
  have S_1 : sh[1]? = some (false, 8, 21) := gc_bS_1 hb
  have S_13 : sh[13]? = some (true, 1, 384) := gc_bS_13 hb
  have S_39 : sh[39]? = some (false, 6, 19) := gc_bS_39 hb
  have S_46 : sh[46]? = some (true, 1, 60) := gc_bS_46 hb
  have S_47 : sh[47]? = some (true, 1, 60) := gc_bS_47 hb
  have hD : gv_D (gc_E6 ws0 tb 0 (yX6_kindWanted, cX6_kindWanted, 2, (some .int)) kX6_kindWanted) := gq_of oX6_kindWanted
  refine gc_ev6 (d := 0) (l := kX6_kindWanted) (Po := fun r hₚ => (hₚ = gc_h sh I J A ∧ (∃ z : Int, r = some (.inl z) ∧ 0 ≤ z ∧ z ≤ 31))) htb rfl (Nat.le_of_ble_eq_true rfl) ?_
  refine gv_run 1 true hD (pcₚ := 1) (lvₚ := [(0, .inr (.inr (some 39))), (1, .inl a1)]) (stₚ := [.inr (.inr (some 39))]) (hₚ := gc_h sh I J A) (C := (True ∧ True)) rfl ⟨trivial, trivial⟩ ?_
  refine gv_get hD rfl rfl S_39 ⟨by decide, (gz_sh B_39)⟩ (gc_hA S_39 rfl A_39_0) ?_
  show gv_X _ _ (4, [(0, .inr (.inr (some 39))), (1, .inl a1)], [.inr (.inr (some 1))], sh, gc_h sh I J A)
  refine gv_get hD rfl rfl S_1 ⟨by decide, (gz_sh B_1)⟩ (gc_hA S_1 rfl A_1_8) ?_
  show gv_X _ _ (7, [(0, .inr (.inr (some 39))), (1, .inl a1)], [.inr (.inr (some 13))], sh, gc_h sh I J A)
  refine gv_run 1 true hD (pcₚ := 8) (lvₚ := [(0, .inr (.inr (some 39))), (1, .inl a1)]) (stₚ := [.inr (.inr (some 39)), .inr (.inr (some 13))]) (hₚ := gc_h sh I J A) (C := (True ∧ True)) rfl ⟨trivial, trivial⟩ ?_
  refine gv_get hD rfl rfl S_39 ⟨by decide, (gz_sh B_39)⟩ (gc_hA S_39 rfl A_39_17) ?_
  show gv_X _ _ (11, [(0, .inr (.inr (some 39))), (1, .inl a1)], [.inr (.inr (some 46)), .inr (.inr (some 13))], sh, gc_h sh I J A)
  refine gv_run 1 true hD (pcₚ := 12) (lvₚ := [(0, .inr (.inr (some 39))), (1, .inl a1)]) (stₚ := [.inl a1, .inr (.inr (some 46)), .inr (.inr (some 13))]) (hₚ := gc_h sh I J A) (C := (True ∧ True)) rfl ⟨trivial, trivial⟩ ?_
  have f1 := gz_hi ((gc_b_37 hI (gz_sh R_46) (Int.toNat a1)))
  refine gv_iald hD rfl S_46 rfl ⟨by decide, (gz_sh B_46)⟩ ⟨by (/-0-/first | omega | (simp only [gz_hd] at *; omega)), by (/-1-/first | omega | (simp only [gz_hd] at *; omega))⟩ (gc_iI S_46 rfl) ?_
  show gv_X _ _ (13, [(0, .inr (.inr (some 39))), (1, .inl a1)], [.inl (I 46 (Int.toNat a1)), .inr (.inr (some 13))], sh, gc_h sh I J A)
  refine gv_run 3 true hD (pcₚ := 16) (lvₚ := [(0, .inr (.inr (some 39))), (1, .inl a1)]) (stₚ := [.inr (.inr (some 39)), .inl ((I 46 (Int.toNat a1)) * 4), .inr (.inr (some 13))]) (hₚ := gc_h sh I J A) (C := (((True ∧ True) ∧ True) ∧ True)) rfl ⟨⟨⟨trivial, trivial⟩, trivial⟩, trivial⟩ ?_
  refine gv_get hD rfl rfl S_39 ⟨by decide, (gz_sh B_39)⟩ (gc_hA S_39 rfl A_39_18) ?_
  show gv_X _ _ (19, [(0, .inr (.inr (some 39))), (1, .inl a1)], [.inr (.inr (some 47)), .inl ((I 46 (Int.toNat a1)) * 4), .inr (.inr (some 13))], sh, gc_h sh I J A)
  refine gv_run 1 true hD (pcₚ := 20) (lvₚ := [(0, .inr (.inr (some 39))), (1, .inl a1)]) (stₚ := [.inl a1, .inr (.inr (some 47)), .inl ((I 46 (Int.toNat a1)) * 4), .inr (.inr (some 13))]) (hₚ := gc_h sh I J A) (C := (True ∧ True)) rfl ⟨trivial, trivial⟩ ?_
  refine gv_iald hD rfl S_47 rfl ⟨by decide, (gz_sh B_47)⟩ ⟨by (/-2-/first | omega | (simp only [gz_hd] at *; omega)), by (/-3-/first | omega | (simp only [gz_hd] at *; omega))⟩ (gc_iI S_47 rfl) ?_
  show gv_X _ _ (21, [(0, .inr (.inr (some 39))), (1, .inl a1)], [.inl (I 47 (Int.toNat a1)), .inl ((I 46 (Int.toNat a1)) * 4), .inr (.inr (some 13))], sh, gc_h sh I J A)
  refine gv_run 1 true hD (pcₚ := 22) (lvₚ := [(0, .inr (.inr (some 39))), (1, .inl a1)]) (stₚ := [.inl (((I 46 (Int.toNat a1)) * 4) + (I 47 (Int.toNat a1))), .inr (.inr (some 13))]) (hₚ := gc_h sh I J A) (C := (True ∧ True)) rfl ⟨trivial, trivial⟩ ?_
  have f3 := gz_hi ((gc_b_25 hI (gz_sh R_13) (Int.toNat ((((I 46 (Int.toNat a1)) * 4) + (I 47 (Int.toNat a1)))))))
  refine gv_iald hD rfl S_13 rfl ⟨by decide, (gz_sh B_13)⟩ ⟨by (/-4-/first | (have o1 := gz_sh f1; omega) | (simp only [gz_hd] at *; omega)), by (/-5-/first | (have o1 := gz_sh f1; omega) | (simp only [gz_hd] at *; omega))⟩ (gc_iI S_13 rfl) ?_
  show gv_X _ _ (23, [(0, .inr (.inr (some 39))), (1, .inl a1)], [.inl (I 13 (Int.toNat ((((I 46 (Int.toNat a1)) * 4) + (I 47 (Int.toNat a1))))))], sh, gc_h sh I J A)
  exact gv_iret hD rfl ⟨rfl, ⟨_, rfl, by (/-6-/first | (have o1 := gz_sh f3; omega) | (simp only [gz_hd] at *; omega))⟩⟩
set_option maxHeartbeats 8000000 in
set_option maxRecDepth 100000 in
theorem d_X6_closeArguments {ws0 : List Cond} {tb : String → gz_T} (hws : gc_Ws ws0) (htb : gc_tbs tb) (sh : gz_Sh) (ro : Nat → Nat) (I : gr_I) (J : gr_J) (A : gc_A) (hI : gc_Inv ro I) (a1 : Int) (hb : gc_Base sh ro A) (ha1 : 0 ≤ a1 ∧ a1 ≤ 60) (x0 : gc_SE I a1) (KLT_I : gc_LT I) (KTK_I : gc_TK I) : ∃ r hₚ, gz_Ev ws0 tb 3 (yX6_closeArguments, cX6_closeArguments, 4, (some .int)) [.inr (.inr (some 39)), .inl a1] sh (gc_h sh I J A) r sh hₚ 0 0 ∧ (∃ (Iₚ : gr_I) (Jₚ : gr_J), hₚ = gc_h sh Iₚ Jₚ A ∧ gc_Inv ro Iₚ ∧ (∀ q j : Nat, ((q = 39 ∧ j = 3) ∨ (q = 39 ∧ j = 4) ∨ (q = 23 ∧ j = 5) ∨ (q = 23 ∧ j = 6) ∨ (q = 23 ∧ j = 7) ∨ (q = 23 ∧ j = 8) ∨ q = 47) ∨ Iₚ q j = I q j) ∧ (∀ q j : Nat, ((q = 23 ∧ j = 9)) ∨ Jₚ q j = J q j) ∧ gc_LT Iₚ ∧ gc_TK Iₚ ∧ (∃ z : Int, r = some (.inl z) ∧ (-1) ≤ z ∧ z ≤ 60 ∧ (Iₚ 23 1 = I 23 1) ∧ (I 23 5 ≤ Iₚ 23 5) ∧ (z ≤ a1) ∧ (gc_SE Iₚ z) ∧ (z = 0 → gc_ss I (Int.toNat a1) = 0) ∧ (1 ≤ z → gc_ss Iₚ (Int.toNat z) = gc_ss I (Int.toNat a1) - 1))) := by
  have FI : ∀ q j : Nat, ((q = 39 ∧ j = 3) ∨ (q = 39 ∧ j = 4) ∨ (q = 23 ∧ j = 5) ∨ (q = 23 ∧ j = 6) ∨ (q = 23 ∧ j = 7) ∨ (q = 23 ∧ j = 8) ∨ q = 47) ∨ I q j = I q j := fun _ _ => Or.inr rfl
  have FJ : ∀ q j : Nat, ((q = 23 ∧ j = 9)) ∨ J q j = J q j := fun _ _ => Or.inr rfl
  have A_1_7 : A 1 7 = some 12 := gc_bA_1_7 hb
  have A_39_0 : A 39 0 = some 1 := gc_bA_39_0 hb
  have A_39_1 : A 39 1 = some 23 := gc_bA_39_1 hb
  have A_39_17 : A 39 17 = some 46 := gc_bA_39_17 hb
  have A_39_18 : A 39 18 = some 47 := gc_bA_39_18 hb
  have B_1 := gz_hi (show 1 < 1000000 from by decide)
  have B_12 := gz_hi (show 12 < 1000000 from by decide)
  have B_23 := gz_hi (show 23 < 1000000 from by decide)
  have B_39 := gz_hi (show 39 < 1000000 from by decide)
  have B_46 := gz_hi (show 46 < 1000000 from by decide)
  have B_47 := gz_hi (show 47 < 1000000 from by decide)
  have R_12 := gz_hi (show ro 12 = 26 from gc_bR_12 hb)
  have R_23 := gz_hi (show ro 23 = 3 from gc_bR_23 hb)
  have R_46 := gz_hi (show ro 46 = 37 from gc_bR_46 hb)
  have R_47 := gz_hi (show ro 47 = 0 from gc_bR_47 hb)
  have S_1 : sh[1]? = some (false, 8, 21) := gc_bS_1 hb
  have S_12 : sh[12]? = some (true, 1, 96) := gc_bS_12 hb
  have S_23 : sh[23]? = some (false, 9, 10) := gc_bS_23 hb
  have S_39 : sh[39]? = some (false, 6, 19) := gc_bS_39 hb
  have S_46 : sh[46]? = some (true, 1, 60) := gc_bS_46 hb
  have S_47 : sh[47]? = some (true, 1, 60) := gc_bS_47 hb
  have hD : gv_D (gc_E6 ws0 tb 2 (yX6_closeArguments, cX6_closeArguments, 4, (some .int)) kX6_closeArguments) := gq_of oX6_closeArguments
  refine gc_ev6 (d := 2) (l := kX6_closeArguments) (Po := fun r hₚ => (∃ (Iₚ : gr_I) (Jₚ : gr_J), hₚ = gc_h sh Iₚ Jₚ A ∧ gc_Inv ro Iₚ ∧ (∀ q j : Nat, ((q = 39 ∧ j = 3) ∨ (q = 39 ∧ j = 4) ∨ (q = 23 ∧ j = 5) ∨ (q = 23 ∧ j = 6) ∨ (q = 23 ∧ j = 7) ∨ (q = 23 ∧ j = 8) ∨ q = 47) ∨ Iₚ q j = I q j) ∧ (∀ q j : Nat, ((q = 23 ∧ j = 9)) ∨ Jₚ q j = J q j) ∧ gc_LT Iₚ ∧ gc_TK Iₚ ∧ (∃ z : Int, r = some (.inl z) ∧ (-1) ≤ z ∧ z ≤ 60 ∧ (Iₚ 23 1 = I 23 1) ∧ (I 23 5 ≤ Iₚ 23 5) ∧ (z ≤ a1) ∧ (gc_SE Iₚ z) ∧ (z = 0 → gc_ss I (Int.toNat a1) = 0) ∧ (1 ≤ z → gc_ss Iₚ (Int.toNat z) = gc_ss I (Int.toNat a1) - 1)))) htb rfl (Nat.le_of_ble_eq_true rfl) ?_
  have L2 : ∀ (n9 : Nat) (I6 : gr_I) (J7 : gr_J) (v2_8 : Int), (v2_8).toNat < n9 → gc_Inv ro I6 → (∀ q j : Nat, ((q = 39 ∧ j = 3) ∨ (q = 39 ∧ j = 4) ∨ (q = 23 ∧ j = 5) ∨ (q = 23 ∧ j = 6) ∨ (q = 23 ∧ j = 7) ∨ (q = 23 ∧ j = 8) ∨ q = 47) ∨ I6 q j = I q j) → (∀ q j : Nat, ((q = 23 ∧ j = 9)) ∨ J7 q j = J q j) → gc_LT I6 → gc_TK I6 → ((0 ≤ v2_8 ∧ v2_8 ≤ 60) ∧ (v2_8 ≤ a1) ∧ (I6 23 1 = I 23 1) ∧ (I 23 5 ≤ I6 23 5)) → (gc_SE I6 v2_8) → (gc_ss I6 (Int.toNat v2_8) = gc_ss I (Int.toNat a1)) → gv_X (gc_E6 ws0 tb 2 (yX6_closeArguments, cX6_closeArguments, 4, (some .int)) kX6_closeArguments) (gv_Q cX6_closeArguments (some .int) sh (fun r hₚ => (∃ (Iₚ : gr_I) (Jₚ : gr_J), hₚ = gc_h sh Iₚ Jₚ A ∧ gc_Inv ro Iₚ ∧ (∀ q j : Nat, ((q = 39 ∧ j = 3) ∨ (q = 39 ∧ j = 4) ∨ (q = 23 ∧ j = 5) ∨ (q = 23 ∧ j = 6) ∨ (q = 23 ∧ j = 7) ∨ (q = 23 ∧ j = 8) ∨ q = 47) ∨ Iₚ q j = I q j) ∧ (∀ q j : Nat, ((q = 23 ∧ j = 9)) ∨ Jₚ q j = J q j) ∧ gc_LT Iₚ ∧ gc_TK Iₚ ∧ (∃ z : Int, r = some (.inl z) ∧ (-1) ≤ z ∧ z ≤ 60 ∧ (Iₚ 23 1 = I 23 1) ∧ (I 23 5 ≤ Iₚ 23 5) ∧ (z ≤ a1) ∧ (gc_SE Iₚ z) ∧ (z = 0 → gc_ss I (Int.toNat a1) = 0) ∧ (1 ≤ z → gc_ss Iₚ (Int.toNat z) = gc_ss I (Int.toNat a1) - 1))))) (2, [(0, .inr (.inr (some 39))), (2, .inl v2_8)], [], sh, gc_h sh I6 J7 A) := by
    intro n9
    induction n9 with
    | zero => intro I6 J7 v2_8 hn; (/-0-/first | omega | (simp only [gz_hd] at *; omega))
    | succ n9 ih2 =>
      intro I6 J7 v2_8 hn hI6 FI6 FJ7 KLT_I6 KTK_I6 m_8 e0_8 e1_8
      obtain ⟨hv2_8, e2_8, e3_8, e4_8⟩ := gz_h4 m_8
      have L50 : ∀ (I14 : gr_I) (J15 : gr_J) (s0_16 : Int), gc_Inv ro I14 → (∀ q j : Nat, ((q = 39 ∧ j = 3) ∨ (q = 39 ∧ j = 4) ∨ (q = 23 ∧ j = 5) ∨ (q = 23 ∧ j = 6) ∨ (q = 23 ∧ j = 7) ∨ (q = 23 ∧ j = 8) ∨ q = 47) ∨ I14 q j = I q j) → (∀ q j : Nat, ((q = 23 ∧ j = 9)) ∨ J15 q j = J q j) → gc_LT I14 → gc_TK I14 → ((1 ≤ v2_8 ∧ v2_8 ≤ 60) ∧ (0 ≤ s0_16 ∧ s0_16 ≤ 1) ∧ (1 ≤ v2_8) ∧ (0 ≤ I14 47 (Int.toNat (v2_8 - 1))) ∧ (I14 47 (Int.toNat (v2_8 - 1)) ≤ I14 12 (Int.toNat (I14 46 (Int.toNat (v2_8 - 1))))) ∧ (s0_16 = 0 ∨ I14 47 (Int.toNat (v2_8 - 1)) < I14 12 (Int.toNat (I14 46 (Int.toNat (v2_8 - 1))))) ∧ (s0_16 = 1 ∨ I14 47 (Int.toNat (v2_8 - 1)) = I14 12 (Int.toNat (I14 46 (Int.toNat (v2_8 - 1))))) ∧ (v2_8 ≤ a1) ∧ (I14 23 1 = I 23 1) ∧ (I 23 5 ≤ I14 23 5)) → (gc_SE I14 (v2_8 - 1)) → (gc_ss I14 (Int.toNat v2_8) = gc_ss I (Int.toNat a1) - 1) → gv_X (gc_E6 ws0 tb 2 (yX6_closeArguments, cX6_closeArguments, 4, (some .int)) kX6_closeArguments) (gv_Q cX6_closeArguments (some .int) sh (fun r hₚ => (∃ (Iₚ : gr_I) (Jₚ : gr_J), hₚ = gc_h sh Iₚ Jₚ A ∧ gc_Inv ro Iₚ ∧ (∀ q j : Nat, ((q = 39 ∧ j = 3) ∨ (q = 39 ∧ j = 4) ∨ (q = 23 ∧ j = 5) ∨ (q = 23 ∧ j = 6) ∨ (q = 23 ∧ j = 7) ∨ (q = 23 ∧ j = 8) ∨ q = 47) ∨ Iₚ q j = I q j) ∧ (∀ q j : Nat, ((q = 23 ∧ j = 9)) ∨ Jₚ q j = J q j) ∧ gc_LT Iₚ ∧ gc_TK Iₚ ∧ (∃ z : Int, r = some (.inl z) ∧ (-1) ≤ z ∧ z ≤ 60 ∧ (Iₚ 23 1 = I 23 1) ∧ (I 23 5 ≤ Iₚ 23 5) ∧ (z ≤ a1) ∧ (gc_SE Iₚ z) ∧ (z = 0 → gc_ss I (Int.toNat a1) = 0) ∧ (1 ≤ z → gc_ss Iₚ (Int.toNat z) = gc_ss I (Int.toNat a1) - 1))))) (50, [(0, .inr (.inr (some 39))), (2, .inl v2_8)], [.inl s0_16], sh, gc_h sh I14 J15 A) := by
        intro I14 J15 s0_16 hI14 FI14 FJ15 KLT_I14 KTK_I14 m_16 e0_16 e1_16
        clear hv2_8 e2_8 e3_8 e4_8
        obtain ⟨hv2_8_16, hs0_16, e2_16, e3_16, e4_16, e5_16, e6_16, e7_16, e8_16, e9_16⟩ := gz_h10 m_16
        have t17 := gz_hi (gc_TK_mo KTK_I14)
        have f21 := gz_hi ((gc_b_3_7 hI14 (gz_sh R_23)))
        have L69 : ∀ (v3_22 : Int) (s0_22 : Int) (s1_22 : Int), ((1 ≤ v2_8 ∧ v2_8 ≤ 60) ∧ (0 ≤ v3_22 ∧ v3_22 ≤ 1) ∧ (0 ≤ s0_22 ∧ s0_22 ≤ 125) ∧ (41 ≤ s1_22 ∧ s1_22 ≤ 44) ∧ (1 ≤ v2_8) ∧ (0 ≤ I14 47 (Int.toNat (v2_8 - 1))) ∧ (v3_22 = 0 ∨ I14 47 (Int.toNat (v2_8 - 1)) < I14 12 (Int.toNat (I14 46 (Int.toNat (v2_8 - 1))))) ∧ (v3_22 = 1 ∨ I14 47 (Int.toNat (v2_8 - 1)) = I14 12 (Int.toNat (I14 46 (Int.toNat (v2_8 - 1))))) ∧ (s1_22 = 44 ∨ s1_22 = 41) ∧ (s0_22 = I14 23 7) ∧ (v2_8 ≤ a1) ∧ (I14 23 1 = I 23 1) ∧ (I 23 5 ≤ I14 23 5)) → gv_X (gc_E6 ws0 tb 2 (yX6_closeArguments, cX6_closeArguments, 4, (some .int)) kX6_closeArguments) (gv_Q cX6_closeArguments (some .int) sh (fun r hₚ => (∃ (Iₚ : gr_I) (Jₚ : gr_J), hₚ = gc_h sh Iₚ Jₚ A ∧ gc_Inv ro Iₚ ∧ (∀ q j : Nat, ((q = 39 ∧ j = 3) ∨ (q = 39 ∧ j = 4) ∨ (q = 23 ∧ j = 5) ∨ (q = 23 ∧ j = 6) ∨ (q = 23 ∧ j = 7) ∨ (q = 23 ∧ j = 8) ∨ q = 47) ∨ Iₚ q j = I q j) ∧ (∀ q j : Nat, ((q = 23 ∧ j = 9)) ∨ Jₚ q j = J q j) ∧ gc_LT Iₚ ∧ gc_TK Iₚ ∧ (∃ z : Int, r = some (.inl z) ∧ (-1) ≤ z ∧ z ≤ 60 ∧ (Iₚ 23 1 = I 23 1) ∧ (I 23 5 ≤ Iₚ 23 5) ∧ (z ≤ a1) ∧ (gc_SE Iₚ z) ∧ (z = 0 → gc_ss I (Int.toNat a1) = 0) ∧ (1 ≤ z → gc_ss Iₚ (Int.toNat z) = gc_ss I (Int.toNat a1) - 1))))) (69, [(0, .inr (.inr (some 39))), (2, .inl v2_8), (3, .inl v3_22)], [.inl s1_22, .inl s0_22], sh, gc_h sh I14 J15 A) := by
          intro v3_22 s0_22 s1_22 m_22
          obtain ⟨hv2_8_22, hv3_22, hs0_22, hs1_22, e0_22, e1_22, e2_22, e3_22, e4_22, e5_22, e6_22, e7_22, e8_22⟩ := gz_h13 m_22
          refine gv_icmp_eq (t := 74) hD rfl rfl ⟨⟨by (/-1-/first | (have o1 := gz_sh hs0_22; omega) | (simp only [gz_hd] at *; omega)), by (/-2-/first | (have o1 := gz_sh hs0_22; omega) | (simp only [gz_hd] at *; omega))⟩, ⟨by (/-3-/first | (have o1 := gz_sh hs1_22; omega) | (simp only [gz_hd] at *; omega)), by (/-4-/first | (have o1 := gz_sh hs1_22; omega) | (simp only [gz_hd] at *; omega))⟩⟩ (fun c28 => ?_) (fun c28 => ?_)
          · show gv_X _ _ (74, [(0, .inr (.inr (some 39))), (2, .inl v2_8), (3, .inl v3_22)], [], sh, gc_h sh I14 J15 A)
            refine gv_run 1 true hD (pcₚ := 75) (lvₚ := [(0, .inr (.inr (some 39))), (2, .inl v2_8), (3, .inl v3_22)]) (stₚ := [.inr (.inr (some 39))]) (hₚ := gc_h sh I14 J15 A) (C := (True ∧ True)) rfl ⟨trivial, trivial⟩ ?_
            refine gv_get hD rfl rfl S_39 ⟨by decide, (gz_sh B_39)⟩ (gc_hA S_39 rfl A_39_1) ?_
            show gv_X _ _ (78, [(0, .inr (.inr (some 39))), (2, .inl v2_8), (3, .inl v3_22)], [.inr (.inr (some 23))], sh, gc_h sh I14 J15 A)
            have t30 := gz_hi (gc_TK_nx KTK_I14 (by (/-5-/first | (have o1 := gz_sh e5_22; have o2 := gz_sh hs1_22; omega) | (simp only [gz_hd] at *; omega))))
            obtain ⟨r29, h29, E29, P29⟩ := d_X9_advance (ws0 := ws0) (tb := tb) hws htb sh ro I14 J15 A hI14 23  (gc_b23 hb)    (by (/-6-/first | (have o1 := gz_sh t30; omega) | (simp only [gz_hd] at *; omega))) 
            obtain ⟨I31, J32, rfl, hI31, g29, k29, ⟨rfl, V29_0, V29_1, V29_2, V29_3, V29_4, q29⟩⟩ := P29
            replace q29 := gz_hi q29
            have FI31 := gc_frc (W := fun q j => (q = 39 ∧ j = 3) ∨ (q = 39 ∧ j = 4) ∨ (q = 23 ∧ j = 5) ∨ (q = 23 ∧ j = 6) ∨ (q = 23 ∧ j = 7) ∨ (q = 23 ∧ j = 8) ∨ q = 47) (V := fun q j => (q = 23 ∧ j = 5) ∨ (q = 23 ∧ j = 6) ∨ (q = 23 ∧ j = 7) ∨ (q = 23 ∧ j = 8)) FI14 (fun q j h => (h.elim (fun h => (Or.inr (Or.inr (Or.inl h)))) (fun h => (h.elim (fun h => (Or.inr (Or.inr (Or.inr (Or.inl h))))) (fun h => (h.elim (fun h => (Or.inr (Or.inr (Or.inr (Or.inr (Or.inl h)))))) (fun h => (Or.inr (Or.inr (Or.inr (Or.inr (Or.inr (Or.inl h))))))))))))) g29
            have FJ32 := gc_frc (W := fun q j => (q = 23 ∧ j = 9)) (V := fun q j => (q = 23 ∧ j = 9)) FJ15 (fun q j h => h) k29
            have KLT_I31 : gc_LT I31 := (gz_sh q29).2.2
            have KTK_I31 : gc_TK I31 := And.intro V29_0 (And.intro V29_1 (And.intro V29_2 (And.intro V29_3 V29_4)))
            clear V29_0 V29_1 V29_2 V29_3 V29_4
            refine gv_callV hD rfl (As := []) (st := []) rfl (gz_sh B_23) S_23 rfl (gc_lV6 hws rfl) (Nat.le_of_ble_eq_true rfl) (gz_Ev_mono (d := 2) (by decide) E29) ?_
            show gv_X _ _ (81, [(0, .inr (.inr (some 39))), (2, .inl v2_8), (3, .inl v3_22)], [], sh, gc_h sh I31 J32 A)
            have t38 := gz_hi ((show I31 47 (Int.toNat (v2_8 - 1)) = I14 47 (Int.toNat (v2_8 - 1)) from (g29 47 _).resolve_left (by (/-7-/first | omega | (simp only [gz_hd] at *; omega)))))
            have t39 := gz_hi ((show I31 12 (Int.toNat (I31 46 (Int.toNat (v2_8 - 1)))) = I14 12 (Int.toNat (I14 46 (Int.toNat (v2_8 - 1)))) from by rw [show I31 46 (Int.toNat (v2_8 - 1)) = I14 46 (Int.toNat (v2_8 - 1)) from (g29 46 _).resolve_left (by (/-8-/first | omega | (simp only [gz_hd] at *; omega)))]; exact (g29 12 _).resolve_left (by (/-9-/first | omega | (simp only [gz_hd] at *; omega)))))
            refine gv_run 1 true hD (pcₚ := 82) (lvₚ := [(0, .inr (.inr (some 39))), (2, .inl v2_8), (3, .inl v3_22)]) (stₚ := [.inl v3_22]) (hₚ := gc_h sh I31 J32 A) (C := (True ∧ True)) rfl ⟨trivial, trivial⟩ ?_
            refine gv_if_eq (t := 87) hD rfl rfl ⟨by (/-10-/first | (have o1 := gz_sh hv3_22; omega) | (simp only [gz_hd] at *; omega)), by (/-11-/first | (have o1 := gz_sh hv3_22; omega) | (simp only [gz_hd] at *; omega))⟩ (fun c40 => ?_) (fun c40 => ?_)
            · show gv_X _ _ (87, [(0, .inr (.inr (some 39))), (2, .inl v2_8), (3, .inl v3_22)], [], sh, gc_h sh I31 J32 A)
              refine gv_run 2 true hD (pcₚ := 2) (lvₚ := [(2, .inl (v2_8 + (-1))), (0, .inr (.inr (some 39))), (3, .inl v3_22)]) (stₚ := []) (hₚ := gc_h sh I31 J32 A) (C := ((True ∧ True) ∧ True)) rfl ⟨⟨trivial, trivial⟩, trivial⟩ ?_
              refine gv_pick [1, 0] rfl ?_
              exact ih2 I31 J32 ((v2_8 + (-1))) (by (/-12-/first | (have o1 := gz_sh e2_22; have o2 := gz_sh e3_22; have o3 := gz_sh e4_22; have o4 := gz_sh e5_16; have o5 := gz_sh e6_16; have o6 := gz_sh hv2_8_16; have o7 := gz_sh q29; have o8 := gz_sh t38; have o9 := gz_sh t39; omega) | (simp only [gz_hd] at *; omega))) hI31 FI31 FJ32 KLT_I31 KTK_I31 (by (/-13-/first | (and_intros; (have o1 := gz_sh hv2_8_16; omega); (have o1 := gz_sh hv2_8_16; omega); (have o1 := gz_sh e7_16; omega); (have o1 := gz_sh e8_16; have o2 := gz_sh q29; omega); (have o1 := gz_sh e9_16; have o2 := gz_sh q29; have o3 := gz_sh t17; omega)) | (simp only [gz_hd] at *; omega))) (fun k hk => (gc_SE_fr e0_16 (fun k _ => (g29 47 k).resolve_left (by (/-14-/first | omega | (simp only [gz_hd] at *; omega)))) (fun k _ => (g29 46 k).resolve_left (by (/-15-/first | omega | (simp only [gz_hd] at *; omega)))) (fun k => (g29 12 k).resolve_left (by (/-16-/first | omega | (simp only [gz_hd] at *; omega))))) k (by (/-17-/first | omega | (simp only [gz_hd] at *; omega)))) (by have h1 := e1_16; have h2 := gc_ss_at (I := I14) (d := v2_8) (by (/-18-/first | (have o1 := gz_sh hv2_8_16; omega) | (simp only [gz_hd] at *; omega))); have h3 := gc_ss_fr (I := I14) (Iₚ := I31) (d := Int.toNat (v2_8 - 1)) (fun k _ => (g29 47 k).resolve_left (by (/-19-/first | omega | (simp only [gz_hd] at *; omega)))) (fun k _ => (g29 46 k).resolve_left (by (/-20-/first | omega | (simp only [gz_hd] at *; omega)))) (fun k => (g29 12 k).resolve_left (by (/-21-/first | omega | (simp only [gz_hd] at *; omega)))); rw [show Int.toNat (v2_8 + (-1)) = Int.toNat (v2_8 - 1) from by (/-22-/first | omega | (simp only [gz_hd] at *; omega))]; (/-23-/first | (have o1 := gz_sh e3_22; have o2 := gz_sh e4_16; omega) | (simp only [gz_hd] at *; omega)))
            · show gv_X _ _ (85, [(0, .inr (.inr (some 39))), (2, .inl v2_8), (3, .inl v3_22)], [], sh, gc_h sh I31 J32 A)
              refine gv_run 1 true hD (pcₚ := 86) (lvₚ := [(0, .inr (.inr (some 39))), (2, .inl v2_8), (3, .inl v3_22)]) (stₚ := [.inl v2_8]) (hₚ := gc_h sh I31 J32 A) (C := (True ∧ True)) rfl ⟨trivial, trivial⟩ ?_
              exact gv_iret hD rfl ⟨I31, J32, rfl, hI31, FI31, FJ32, KLT_I31, KTK_I31, ⟨_, rfl, by (/-24-/first | (have o1 := gz_sh hv2_8_16; omega) | (simp only [gz_hd] at *; omega)), by (/-25-/first | (have o1 := gz_sh hv2_8_16; omega) | (simp only [gz_hd] at *; omega)), by (/-26-/first | (have o1 := gz_sh e8_16; have o2 := gz_sh q29; omega) | (simp only [gz_hd] at *; omega)), by (/-27-/first | (have o1 := gz_sh e9_16; have o2 := gz_sh q29; have o3 := gz_sh t17; omega) | (simp only [gz_hd] at *; omega)), by (/-28-/first | (have o1 := gz_sh e6_22; omega) | (simp only [gz_hd] at *; omega)), (fun k hk => if hkk : k = Int.toNat (v2_8 - 1) then (by rw [hkk]; (/-29-/first | (and_intros; (have o1 := gz_sh e3_16; have o2 := gz_sh t38; omega); (have o1 := gz_sh e2_22; have o2 := gz_sh hv3_22; have o3 := gz_sh t38; have o4 := gz_sh t39; omega)) | (simp only [gz_hd] at *; omega))) else ((gc_SE_fr e0_16 (fun k _ => (g29 47 k).resolve_left (by (/-30-/first | omega | (simp only [gz_hd] at *; omega)))) (fun k _ => (g29 46 k).resolve_left (by (/-31-/first | omega | (simp only [gz_hd] at *; omega)))) (fun k => (g29 12 k).resolve_left (by (/-32-/first | omega | (simp only [gz_hd] at *; omega))))) k (by (/-33-/first | omega | (simp only [gz_hd] at *; omega))))), (fun h => by (/-34-/first | (have o1 := gz_sh hv2_8_16; omega) | (simp only [gz_hd] at *; omega))), (fun _ => by have h1 := e1_16; have h3 := gc_ss_fr (I := I14) (Iₚ := I31) (d := Int.toNat v2_8) (fun k _ => (g29 47 k).resolve_left (by (/-35-/first | omega | (simp only [gz_hd] at *; omega)))) (fun k _ => (g29 46 k).resolve_left (by (/-36-/first | omega | (simp only [gz_hd] at *; omega)))) (fun k => (g29 12 k).resolve_left (by (/-37-/first | omega | (simp only [gz_hd] at *; omega)))); (/-38-/first | omega | (simp only [gz_hd] at *; omega)))⟩⟩
          · show gv_X _ _ (72, [(0, .inr (.inr (some 39))), (2, .inl v2_8), (3, .inl v3_22)], [], sh, gc_h sh I14 J15 A)
            refine gv_run 1 true hD (pcₚ := 73) (lvₚ := [(0, .inr (.inr (some 39))), (2, .inl v2_8), (3, .inl v3_22)]) (stₚ := [.inl (-1)]) (hₚ := gc_h sh I14 J15 A) (C := (True ∧ True)) rfl ⟨trivial, trivial⟩ ?_
            exact gv_iret hD rfl ⟨I14, J15, rfl, hI14, FI14, FJ15, KLT_I14, KTK_I14, ⟨_, rfl, by (/-39-/first | omega | (simp only [gz_hd] at *; omega)), by (/-40-/first | omega | (simp only [gz_hd] at *; omega)), by (/-41-/first | (have o1 := gz_sh e7_22; omega) | (simp only [gz_hd] at *; omega)), by (/-42-/first | (have o1 := gz_sh e8_22; omega) | (simp only [gz_hd] at *; omega)), by (/-43-/first | omega | (simp only [gz_hd] at *; omega)), (fun k hk => by (/-44-/first | (and_intros <;> omega) | (simp only [gz_hd] at *; omega))), (fun h => by (/-45-/first | omega | (simp only [gz_hd] at *; omega))), (fun h => by (/-46-/first | omega | (simp only [gz_hd] at *; omega)))⟩⟩
        refine gv_run 2 true hD (pcₚ := 52) (lvₚ := [(3, .inl s0_16), (0, .inr (.inr (some 39))), (2, .inl v2_8)]) (stₚ := [.inr (.inr (some 39))]) (hₚ := gc_h sh I14 J15 A) (C := ((True ∧ True) ∧ True)) rfl ⟨⟨trivial, trivial⟩, trivial⟩ ?_
        refine gv_get hD rfl rfl S_39 ⟨by decide, (gz_sh B_39)⟩ (gc_hA S_39 rfl A_39_1) ?_
        show gv_X _ _ (55, [(3, .inl s0_16), (0, .inr (.inr (some 39))), (2, .inl v2_8)], [.inr (.inr (some 23))], sh, gc_h sh I14 J15 A)
        refine gv_get hD rfl rfl S_23 ⟨by decide, (gz_sh B_23)⟩ (gc_hI S_23 rfl) ?_
        show gv_X _ _ (58, [(3, .inl s0_16), (0, .inr (.inr (some 39))), (2, .inl v2_8)], [.inl (I14 23 7)], sh, gc_h sh I14 J15 A)
        refine gv_run 1 true hD (pcₚ := 59) (lvₚ := [(3, .inl s0_16), (0, .inr (.inr (some 39))), (2, .inl v2_8)]) (stₚ := [.inl s0_16, .inl (I14 23 7)]) (hₚ := gc_h sh I14 J15 A) (C := (True ∧ True)) rfl ⟨trivial, trivial⟩ ?_
        refine gv_if_eq (t := 67) hD rfl rfl ⟨by (/-47-/first | (have o1 := gz_sh hs0_16; omega) | (simp only [gz_hd] at *; omega)), by (/-48-/first | (have o1 := gz_sh hs0_16; omega) | (simp only [gz_hd] at *; omega))⟩ (fun c42 => ?_) (fun c42 => ?_)
        · show gv_X _ _ (67, [(3, .inl s0_16), (0, .inr (.inr (some 39))), (2, .inl v2_8)], [.inl (I14 23 7)], sh, gc_h sh I14 J15 A)
          refine gv_run 1 true hD (pcₚ := 69) (lvₚ := [(3, .inl s0_16), (0, .inr (.inr (some 39))), (2, .inl v2_8)]) (stₚ := [.inl 41, .inl (I14 23 7)]) (hₚ := gc_h sh I14 J15 A) (C := (True ∧ True)) rfl ⟨trivial, trivial⟩ ?_
          refine gv_pick [1, 2, 0] rfl ?_
          exact L69 s0_16 (I14 23 7) 41 (by (/-49-/first | (and_intros; (have o1 := gz_sh hv2_8_16; omega); (have o1 := gz_sh hv2_8_16; omega); (omega); (omega); (have o1 := gz_sh f21; omega); (have o1 := gz_sh f21; omega); (omega); (omega); (have o1 := gz_sh hv2_8_16; omega); (have o1 := gz_sh e3_16; omega); (omega); (have o1 := gz_sh e4_16; have o2 := gz_sh e6_16; omega); (omega); (omega); (have o1 := gz_sh e7_16; omega); (have o1 := gz_sh e8_16; omega); (have o1 := gz_sh e9_16; omega)) | (simp only [gz_hd] at *; omega)))
        · show gv_X _ _ (62, [(3, .inl s0_16), (0, .inr (.inr (some 39))), (2, .inl v2_8)], [.inl (I14 23 7)], sh, gc_h sh I14 J15 A)
          refine gv_run 2 true hD (pcₚ := 69) (lvₚ := [(3, .inl s0_16), (0, .inr (.inr (some 39))), (2, .inl v2_8)]) (stₚ := [.inl 44, .inl (I14 23 7)]) (hₚ := gc_h sh I14 J15 A) (C := ((True ∧ True) ∧ True)) rfl ⟨⟨trivial, trivial⟩, trivial⟩ ?_
          refine gv_pick [1, 2, 0] rfl ?_
          exact L69 s0_16 (I14 23 7) 44 (by (/-50-/first | (and_intros; (have o1 := gz_sh hv2_8_16; omega); (have o1 := gz_sh hv2_8_16; omega); (have o1 := gz_sh hs0_16; omega); (have o1 := gz_sh hs0_16; omega); (have o1 := gz_sh f21; omega); (have o1 := gz_sh f21; omega); (omega); (omega); (have o1 := gz_sh hv2_8_16; omega); (have o1 := gz_sh e3_16; omega); (have o1 := gz_sh e5_16; have o2 := gz_sh hs0_16; omega); (have o1 := gz_sh hs0_16; omega); (omega); (omega); (have o1 := gz_sh e7_16; omega); (have o1 := gz_sh e8_16; omega); (have o1 := gz_sh e9_16; omega)) | (simp only [gz_hd] at *; omega)))
      refine gv_run 1 true hD (pcₚ := 3) (lvₚ := [(0, .inr (.inr (some 39))), (2, .inl v2_8)]) (stₚ := [.inl v2_8]) (hₚ := gc_h sh I6 J7 A) (C := (True ∧ True)) rfl ⟨trivial, trivial⟩ ?_
      refine gv_if_le (t := 93) hD rfl rfl ⟨by (/-51-/first | (have o1 := gz_sh hv2_8; omega) | (simp only [gz_hd] at *; omega)), by (/-52-/first | (have o1 := gz_sh hv2_8; omega) | (simp only [gz_hd] at *; omega))⟩ (fun c43 => ?_) (fun c43 => ?_)
      · show gv_X _ _ (93, [(0, .inr (.inr (some 39))), (2, .inl v2_8)], [], sh, gc_h sh I6 J7 A)
        refine gv_run 1 true hD (pcₚ := 94) (lvₚ := [(0, .inr (.inr (some 39))), (2, .inl v2_8)]) (stₚ := [.inl 0]) (hₚ := gc_h sh I6 J7 A) (C := (True ∧ True)) rfl ⟨trivial, trivial⟩ ?_
        exact gv_iret hD rfl ⟨I6, J7, rfl, hI6, FI6, FJ7, KLT_I6, KTK_I6, ⟨_, rfl, by (/-53-/first | omega | (simp only [gz_hd] at *; omega)), by (/-54-/first | omega | (simp only [gz_hd] at *; omega)), by (/-55-/first | (have o1 := gz_sh e3_8; omega) | (simp only [gz_hd] at *; omega)), by (/-56-/first | (have o1 := gz_sh e4_8; omega) | (simp only [gz_hd] at *; omega)), by (/-57-/first | omega | (simp only [gz_hd] at *; omega)), (fun k hk => by (/-58-/first | (and_intros <;> omega) | (simp only [gz_hd] at *; omega))), (fun _ => by have h1 := e1_8; rw [show Int.toNat v2_8 = 0 from by (/-59-/first | (have o1 := gz_sh hv2_8; omega) | (simp only [gz_hd] at *; omega))] at h1; exact h1.symm), (fun h => by (/-60-/first | omega | (simp only [gz_hd] at *; omega)))⟩⟩
      · show gv_X _ _ (6, [(0, .inr (.inr (some 39))), (2, .inl v2_8)], [], sh, gc_h sh I6 J7 A)
        have t44 := gz_hi (e0_8 (Int.toNat (v2_8 - 1)) (by (/-61-/first | omega | (simp only [gz_hd] at *; omega))))
        have t45 := gz_hi ((gc_b_26 hI6 (gz_sh R_12) (Int.toNat (I6 46 (Int.toNat (v2_8 - 1))))))
        refine gv_run 1 true hD (pcₚ := 7) (lvₚ := [(0, .inr (.inr (some 39))), (2, .inl v2_8)]) (stₚ := [.inr (.inr (some 39))]) (hₚ := gc_h sh I6 J7 A) (C := (True ∧ True)) rfl ⟨trivial, trivial⟩ ?_
        refine gv_get hD rfl rfl S_39 ⟨by decide, (gz_sh B_39)⟩ (gc_hA S_39 rfl A_39_18) ?_
        show gv_X _ _ (10, [(0, .inr (.inr (some 39))), (2, .inl v2_8)], [.inr (.inr (some 47))], sh, gc_h sh I6 J7 A)
        refine gv_run 4 true hD (pcₚ := 14) (lvₚ := [(0, .inr (.inr (some 39))), (2, .inl v2_8)]) (stₚ := [.inl (v2_8 - 1), .inr (.inr (some 47)), .inl (v2_8 - 1), .inr (.inr (some 47))]) (hₚ := gc_h sh I6 J7 A) (C := ((((True ∧ True) ∧ True) ∧ True) ∧ True)) rfl ⟨⟨⟨⟨trivial, trivial⟩, trivial⟩, trivial⟩, trivial⟩ ?_
        have f46 := gz_hi ((gc_b_0 hI6 (gz_sh R_47) (Int.toNat (v2_8 - 1))))
        refine gv_iald hD rfl S_47 rfl ⟨by decide, (gz_sh B_47)⟩ ⟨by (/-62-/first | omega | (simp only [gz_hd] at *; omega)), by (/-63-/first | (have o1 := gz_sh hv2_8; omega) | (simp only [gz_hd] at *; omega))⟩ (gc_iI S_47 rfl) ?_
        show gv_X _ _ (15, [(0, .inr (.inr (some 39))), (2, .inl v2_8)], [.inl (I6 47 (Int.toNat (v2_8 - 1))), .inl (v2_8 - 1), .inr (.inr (some 47))], sh, gc_h sh I6 J7 A)
        refine gv_run 2 true hD (pcₚ := 17) (lvₚ := [(0, .inr (.inr (some 39))), (2, .inl v2_8)]) (stₚ := [.inl ((I6 47 (Int.toNat (v2_8 - 1))) + 1), .inl (v2_8 - 1), .inr (.inr (some 47))]) (hₚ := gc_h sh I6 J7 A) (C := ((True ∧ True) ∧ True)) rfl ⟨⟨trivial, trivial⟩, trivial⟩ ?_
        refine gv_iast hD rfl S_47 ⟨by decide, (gz_sh B_47)⟩ ⟨by (/-64-/first | omega | (simp only [gz_hd] at *; omega)), by (/-65-/first | (have o1 := gz_sh hv2_8; omega) | (simp only [gz_hd] at *; omega))⟩ ?_
        refine gc_st hI6 S_47 rfl (gz_sh R_47) (lo := (-2147483648)) (hi := 2147483647) rfl rfl (by (/-66-/first | (have o1 := gz_sh t44; omega) | (simp only [gz_hd] at *; omega))) (by (/-67-/first | (have o1 := gz_sh t44; have o2 := gz_sh t45; omega) | (simp only [gz_hd] at *; omega))) (fun I47 hI47 q48 p48 => ?_)
        have FI47 := gc_frs (W := fun q j => (q = 39 ∧ j = 3) ∨ (q = 39 ∧ j = 4) ∨ (q = 23 ∧ j = 5) ∨ (q = 23 ∧ j = 6) ∨ (q = 23 ∧ j = 7) ∨ (q = 23 ∧ j = 8) ∨ q = 47) FI6 (Or.inr (Or.inr (Or.inr (Or.inr (Or.inr (Or.inr rfl)))))) p48
        have t49 := gz_hi (p48 23 1 (fun h => absurd h.1 (by first | exact gz_ne rfl | decide)))
        have t50 := gz_hi (p48 23 5 (fun h => absurd h.1 (by first | exact gz_ne rfl | decide)))
        have KLT_I47 := gc_LT_fr KLT_I6 (p48 23 5 (fun h => absurd h.1 (by first | exact gz_ne rfl | decide))) (p48 23 6 (fun h => absurd h.1 (by first | exact gz_ne rfl | decide))) (p48 23 7 (fun h => absurd h.1 (by first | exact gz_ne rfl | decide))) (fun k => p48 24 k (fun h => absurd h.1 (by first | exact gz_ne rfl | decide)))
        have KTK_I47 := gc_TK_fr KTK_I6 (p48 23 1 (fun h => absurd h.1 (by first | exact gz_ne rfl | decide))) (p48 23 5 (fun h => absurd h.1 (by first | exact gz_ne rfl | decide))) (p48 23 6 (fun h => absurd h.1 (by first | exact gz_ne rfl | decide))) (p48 23 7 (fun h => absurd h.1 (by first | exact gz_ne rfl | decide)))
        show gv_X _ _ (18, [(0, .inr (.inr (some 39))), (2, .inl v2_8)], [], sh, gc_h sh I47 J7 A)
        refine gv_run 1 true hD (pcₚ := 19) (lvₚ := [(0, .inr (.inr (some 39))), (2, .inl v2_8)]) (stₚ := [.inr (.inr (some 39))]) (hₚ := gc_h sh I47 J7 A) (C := (True ∧ True)) rfl ⟨trivial, trivial⟩ ?_
        refine gv_get hD rfl rfl S_39 ⟨by decide, (gz_sh B_39)⟩ (gc_hA S_39 rfl A_39_18) ?_
        show gv_X _ _ (22, [(0, .inr (.inr (some 39))), (2, .inl v2_8)], [.inr (.inr (some 47))], sh, gc_h sh I47 J7 A)
        refine gv_run 3 true hD (pcₚ := 25) (lvₚ := [(0, .inr (.inr (some 39))), (2, .inl v2_8)]) (stₚ := [.inl (v2_8 - 1), .inr (.inr (some 47))]) (hₚ := gc_h sh I47 J7 A) (C := (((True ∧ True) ∧ True) ∧ True)) rfl ⟨⟨⟨trivial, trivial⟩, trivial⟩, trivial⟩ ?_
        have f53 := gz_hi ((gc_b_0 hI47 (gz_sh R_47) (Int.toNat (v2_8 - 1))))
        refine gv_iald hD rfl S_47 rfl ⟨by decide, (gz_sh B_47)⟩ ⟨by (/-68-/first | omega | (simp only [gz_hd] at *; omega)), by (/-69-/first | (have o1 := gz_sh hv2_8; omega) | (simp only [gz_hd] at *; omega))⟩ (gc_iI S_47 rfl) ?_
        show gv_X _ _ (26, [(0, .inr (.inr (some 39))), (2, .inl v2_8)], [.inl (I47 47 (Int.toNat (v2_8 - 1)))], sh, gc_h sh I47 J7 A)
        refine gv_run 1 true hD (pcₚ := 27) (lvₚ := [(0, .inr (.inr (some 39))), (2, .inl v2_8)]) (stₚ := [.inr (.inr (some 39)), .inl (I47 47 (Int.toNat (v2_8 - 1)))]) (hₚ := gc_h sh I47 J7 A) (C := (True ∧ True)) rfl ⟨trivial, trivial⟩ ?_
        refine gv_get hD rfl rfl S_39 ⟨by decide, (gz_sh B_39)⟩ (gc_hA S_39 rfl A_39_0) ?_
        show gv_X _ _ (30, [(0, .inr (.inr (some 39))), (2, .inl v2_8)], [.inr (.inr (some 1)), .inl (I47 47 (Int.toNat (v2_8 - 1)))], sh, gc_h sh I47 J7 A)
        refine gv_get hD rfl rfl S_1 ⟨by decide, (gz_sh B_1)⟩ (gc_hA S_1 rfl A_1_7) ?_
        show gv_X _ _ (33, [(0, .inr (.inr (some 39))), (2, .inl v2_8)], [.inr (.inr (some 12)), .inl (I47 47 (Int.toNat (v2_8 - 1)))], sh, gc_h sh I47 J7 A)
        refine gv_run 1 true hD (pcₚ := 34) (lvₚ := [(0, .inr (.inr (some 39))), (2, .inl v2_8)]) (stₚ := [.inr (.inr (some 39)), .inr (.inr (some 12)), .inl (I47 47 (Int.toNat (v2_8 - 1)))]) (hₚ := gc_h sh I47 J7 A) (C := (True ∧ True)) rfl ⟨trivial, trivial⟩ ?_
        refine gv_get hD rfl rfl S_39 ⟨by decide, (gz_sh B_39)⟩ (gc_hA S_39 rfl A_39_17) ?_
        show gv_X _ _ (37, [(0, .inr (.inr (some 39))), (2, .inl v2_8)], [.inr (.inr (some 46)), .inr (.inr (some 12)), .inl (I47 47 (Int.toNat (v2_8 - 1)))], sh, gc_h sh I47 J7 A)
        refine gv_run 3 true hD (pcₚ := 40) (lvₚ := [(0, .inr (.inr (some 39))), (2, .inl v2_8)]) (stₚ := [.inl (v2_8 - 1), .inr (.inr (some 46)), .inr (.inr (some 12)), .inl (I47 47 (Int.toNat (v2_8 - 1)))]) (hₚ := gc_h sh I47 J7 A) (C := (((True ∧ True) ∧ True) ∧ True)) rfl ⟨⟨⟨trivial, trivial⟩, trivial⟩, trivial⟩ ?_
        have f54 := gz_hi ((gc_b_37 hI47 (gz_sh R_46) (Int.toNat (v2_8 - 1))))
        refine gv_iald hD rfl S_46 rfl ⟨by decide, (gz_sh B_46)⟩ ⟨by (/-70-/first | omega | (simp only [gz_hd] at *; omega)), by (/-71-/first | (have o1 := gz_sh hv2_8; omega) | (simp only [gz_hd] at *; omega))⟩ (gc_iI S_46 rfl) ?_
        show gv_X _ _ (41, [(0, .inr (.inr (some 39))), (2, .inl v2_8)], [.inl (I47 46 (Int.toNat (v2_8 - 1))), .inr (.inr (some 12)), .inl (I47 47 (Int.toNat (v2_8 - 1)))], sh, gc_h sh I47 J7 A)
        refine gv_iald hD rfl S_12 rfl ⟨by decide, (gz_sh B_12)⟩ ⟨by (/-72-/first | (have o1 := gz_sh f54; omega) | (simp only [gz_hd] at *; omega)), by (/-73-/first | (have o1 := gz_sh f54; omega) | (simp only [gz_hd] at *; omega))⟩ (gc_iI S_12 rfl) ?_
        show gv_X _ _ (42, [(0, .inr (.inr (some 39))), (2, .inl v2_8)], [.inl (I47 12 (Int.toNat ((I47 46 (Int.toNat (v2_8 - 1)))))), .inl (I47 47 (Int.toNat (v2_8 - 1)))], sh, gc_h sh I47 J7 A)
        have t57 := gz_hi ((show I47 12 (Int.toNat (I47 46 (Int.toNat (v2_8 - 1)))) = I6 12 (Int.toNat (I6 46 (Int.toNat (v2_8 - 1)))) from by rw [p48 46 _ (fun h => absurd h.1 (by (/-75-/first | omega | (simp only [gz_hd] at *; omega)))), p48 12 _ (fun h => absurd h.1 (by (/-76-/first | omega | (simp only [gz_hd] at *; omega))))]))
        refine gv_icmp_ge (t := 49) hD rfl rfl ⟨⟨by (/-77-/first | (have o1 := gz_sh f53; omega) | (simp only [gz_hd] at *; omega)), by (/-78-/first | (have o1 := gz_sh f53; omega) | (simp only [gz_hd] at *; omega))⟩, ⟨by (/-79-/first | (have o1 := gz_sh t45; have o2 := gz_sh t57; omega) | (simp only [gz_hd] at *; omega)), by (/-80-/first | (have o1 := gz_sh t45; have o2 := gz_sh t57; omega) | (simp only [gz_hd] at *; omega))⟩⟩ (fun c58 => ?_) (fun c58 => ?_)
        · show gv_X _ _ (49, [(0, .inr (.inr (some 39))), (2, .inl v2_8)], [], sh, gc_h sh I47 J7 A)
          refine gv_run 1 true hD (pcₚ := 50) (lvₚ := [(0, .inr (.inr (some 39))), (2, .inl v2_8)]) (stₚ := [.inl 0]) (hₚ := gc_h sh I47 J7 A) (C := (True ∧ True)) rfl ⟨trivial, trivial⟩ ?_
          exact L50 I47 J7 0 hI47 FI47 FJ7 KLT_I47 KTK_I47 (by (/-81-/first | (and_intros; (omega); (have o1 := gz_sh hv2_8; omega); (omega); (omega); (omega); (have o1 := gz_sh t44; omega); (have o1 := gz_sh t44; have o2 := gz_sh t57; omega); (omega); (have o1 := gz_sh t44; have o2 := gz_sh t57; omega); (have o1 := gz_sh e2_8; omega); (have o1 := gz_sh e3_8; have o2 := gz_sh t49; omega); (have o1 := gz_sh e4_8; have o2 := gz_sh t50; omega)) | (simp only [gz_hd] at *; omega))) (gc_SE_fr (n := v2_8 - 1) (fun k hk => e0_8 k (by (/-82-/first | omega | (simp only [gz_hd] at *; omega)))) (fun k hk => p48 47 k (fun h => by have := h.2; (/-83-/first | (have o1 := gz_sh hv2_8; omega) | (simp only [gz_hd] at *; omega)))) (fun k _ => p48 46 k (fun h => absurd h.1 (by (/-84-/first | omega | (simp only [gz_hd] at *; omega))))) (fun k => p48 12 k (fun h => absurd h.1 (by (/-85-/first | omega | (simp only [gz_hd] at *; omega)))))) (by have h1 := gc_ss_at (I := I6) (d := v2_8) (by (/-86-/first | omega | (simp only [gz_hd] at *; omega))); have h2 := gc_ss_at (I := I47) (d := v2_8) (by (/-87-/first | omega | (simp only [gz_hd] at *; omega))); have h3 := gc_ss_fr (I := I6) (Iₚ := I47) (d := Int.toNat (v2_8 - 1)) (fun k hk => p48 47 k (fun h => by have := h.2; (/-88-/first | omega | (simp only [gz_hd] at *; omega)))) (fun k _ => p48 46 k (fun h => absurd h.1 (by (/-89-/first | omega | (simp only [gz_hd] at *; omega))))) (fun k => p48 12 k (fun h => absurd h.1 (by (/-90-/first | omega | (simp only [gz_hd] at *; omega))))); have h4 := (show I47 12 (Int.toNat (I47 46 (Int.toNat (v2_8 - 1)))) = I6 12 (Int.toNat (I6 46 (Int.toNat (v2_8 - 1)))) from by rw [p48 46 _ (fun h => absurd h.1 (by (/-91-/first | omega | (simp only [gz_hd] at *; omega)))), p48 12 _ (fun h => absurd h.1 (by (/-92-/first | omega | (simp only [gz_hd] at *; omega))))]); have h5 := e1_8; (/-93-/first | (have o1 := gz_sh t57; omega) | (simp only [gz_hd] at *; omega)))
        · show gv_X _ _ (45, [(0, .inr (.inr (some 39))), (2, .inl v2_8)], [], sh, gc_h sh I47 J7 A)
          refine gv_run 2 true hD (pcₚ := 50) (lvₚ := [(0, .inr (.inr (some 39))), (2, .inl v2_8)]) (stₚ := [.inl 1]) (hₚ := gc_h sh I47 J7 A) (C := ((True ∧ True) ∧ True)) rfl ⟨⟨trivial, trivial⟩, trivial⟩ ?_
          exact L50 I47 J7 1 hI47 FI47 FJ7 KLT_I47 KTK_I47 (by (/-94-/first | (and_intros; (omega); (have o1 := gz_sh hv2_8; omega); (omega); (omega); (omega); (have o1 := gz_sh t44; omega); (omega); (omega); (omega); (have o1 := gz_sh e2_8; omega); (have o1 := gz_sh e3_8; have o2 := gz_sh t49; omega); (have o1 := gz_sh e4_8; have o2 := gz_sh t50; omega)) | (simp only [gz_hd] at *; omega))) (gc_SE_fr (n := v2_8 - 1) (fun k hk => e0_8 k (by (/-95-/first | omega | (simp only [gz_hd] at *; omega)))) (fun k hk => p48 47 k (fun h => by have := h.2; (/-96-/first | (have o1 := gz_sh hv2_8; omega) | (simp only [gz_hd] at *; omega)))) (fun k _ => p48 46 k (fun h => absurd h.1 (by (/-97-/first | omega | (simp only [gz_hd] at *; omega))))) (fun k => p48 12 k (fun h => absurd h.1 (by (/-98-/first | omega | (simp only [gz_hd] at *; omega)))))) (by have h1 := gc_ss_at (I := I6) (d := v2_8) (by (/-99-/first | omega | (simp only [gz_hd] at *; omega))); have h2 := gc_ss_at (I := I47) (d := v2_8) (by (/-100-/first | omega | (simp only [gz_hd] at *; omega))); have h3 := gc_ss_fr (I := I6) (Iₚ := I47) (d := Int.toNat (v2_8 - 1)) (fun k hk => p48 47 k (fun h => by have := h.2; (/-101-/first | omega | (simp only [gz_hd] at *; omega)))) (fun k _ => p48 46 k (fun h => absurd h.1 (by (/-102-/first | omega | (simp only [gz_hd] at *; omega))))) (fun k => p48 12 k (fun h => absurd h.1 (by (/-103-/first | omega | (simp only [gz_hd] at *; omega))))); have h4 := (show I47 12 (Int.toNat (I47 46 (Int.toNat (v2_8 - 1)))) = I6 12 (Int.toNat (I6 46 (Int.toNat (v2_8 - 1)))) from by rw [p48 46 _ (fun h => absurd h.1 (by (/-104-/first | omega | (simp only [gz_hd] at *; omega)))), p48 12 _ (fun h => absurd h.1 (by (/-105-/first | omega | (simp only [gz_hd] at *; omega))))]); have h5 := e1_8; (/-106-/first | (have o1 := gz_sh t57; omega) | (simp only [gz_hd] at *; omega)))
  refine gv_run 2 true hD (pcₚ := 2) (lvₚ := [(2, .inl a1), (0, .inr (.inr (some 39))), (1, .inl a1)]) (stₚ := []) (hₚ := gc_h sh I J A) (C := ((True ∧ True) ∧ True)) rfl ⟨⟨trivial, trivial⟩, trivial⟩ ?_
  refine gv_pick [1, 0] rfl ?_
  exact L2 _ I J a1 (Nat.lt_succ_self _) hI FI FJ KLT_I KTK_I (by (/-107-/first | (and_intros <;> omega) | (simp only [gz_hd] at *; omega))) x0 rfl
