/-! PARITY, the class's side: SOUND -/
theorem gs_ctx_01 {β : Int → Int} {N : Int} {I : gr_I} {J : gr_J} {p : Int} (h : gs_T β N p = 1 ∨ gs_T β N p = 3) : gs_ctx β N I J 0 p = gs_ctx β N I J 1 p := by
  unfold gs_ctx
  by_cases c : gs_T β N p = 3
  · rw [if_pos c, if_pos c]
  · have c1 : gs_T β N p = 1 := by omega
    rw [if_neg c, if_neg c, if_pos c1, if_pos c1]
set_option maxHeartbeats 8000000 in
set_option maxRecDepth 100000 in
theorem d_X8_keepByte_p {ws0 : List Cond} {tb : String → gz_T} (hws : gc_Ws ws0) (htb : gc_tbs tb) (sh : gz_Sh) (ro : Nat → Nat) (I : gr_I) (J : gr_J) (A : gc_A) (hI : gc_Inv ro I) (a1 : Int) (hb : gc_Base sh ro A) (ha1 : 0 ≤ a1 ∧ a1 ≤ 127)  : ∃ r hₚ, gz_Ev ws0 tb 1 (yX8_keepByte, cX8_keepByte, 2, none) [.inr (.inr (some 1)), .inl a1] sh (gc_h sh I J A) r sh hₚ 0 0 ∧ (∃ (Iₚ : gr_I) (Jₚ : gr_J), hₚ = gc_h sh Iₚ Jₚ A ∧ gc_Inv ro Iₚ ∧ (∀ q j : Nat, ((q = 1 ∧ j = 17) ∨ (q = 1 ∧ j = 18) ∨ q = 20) ∨ Iₚ q j = I q j) ∧ (∀ q j : Nat, (False) ∨ Jₚ q j = J q j) ∧ r = none ∧ (I 1 17 ≤ Iₚ 1 17) ∧ (Iₚ 1 17 ≤ I 1 17 + 1) ∧ (I 1 17 ≤ 11999 → Iₚ 1 18 = I 1 18) ∧ (gc_PKs I Iₚ) ∧ (I 1 17 ≤ 11999 → gc_kb I Iₚ a1)) := by
  have FI : ∀ q j : Nat, ((q = 1 ∧ j = 17) ∨ (q = 1 ∧ j = 18) ∨ q = 20) ∨ I q j = I q j := fun _ _ => Or.inr rfl
  have FJ : ∀ q j : Nat, (False) ∨ J q j = J q j := fun _ _ => Or.inr rfl
  have A_1_16 : A 1 16 = some 20 := gc_bA_1_16 hb
  have B_1 := gz_hi (show 1 < 1000000 from by decide)
  have B_20 := gz_hi (show 20 < 1000000 from by decide)
  have R_1 := gz_hi (show ro 1 = 22 from gc_bR_1 hb)
  have R_20 := gz_hi (show ro 20 = 36 from gc_bR_20 hb)
  have S_1 : sh[1]? = some (false, 8, 21) := gc_bS_1 hb
  have S_20 : sh[20]? = some (true, 0, 12000) := gc_bS_20 hb
  have hD : gv_D (gc_E8 ws0 tb 0 (yX8_keepByte, cX8_keepByte, 2, none) kX8_keepByte) := gq_of oX8_keepByte
  refine gc_ev8 (d := 0) (l := kX8_keepByte) (Po := fun r hₚ => (∃ (Iₚ : gr_I) (Jₚ : gr_J), hₚ = gc_h sh Iₚ Jₚ A ∧ gc_Inv ro Iₚ ∧ (∀ q j : Nat, ((q = 1 ∧ j = 17) ∨ (q = 1 ∧ j = 18) ∨ q = 20) ∨ Iₚ q j = I q j) ∧ (∀ q j : Nat, (False) ∨ Jₚ q j = J q j) ∧ r = none ∧ (I 1 17 ≤ Iₚ 1 17) ∧ (Iₚ 1 17 ≤ I 1 17 + 1) ∧ (I 1 17 ≤ 11999 → Iₚ 1 18 = I 1 18) ∧ (gc_PKs I Iₚ) ∧ (I 1 17 ≤ 11999 → gc_kb I Iₚ a1))) htb rfl (Nat.le_of_ble_eq_true rfl) ?_
  have f1 := gz_hi ((gc_b_22_17 hI (gz_sh R_1)))
  refine gv_run 1 true hD (pcₚ := 1) (lvₚ := [(0, .inr (.inr (some 1))), (1, .inl a1)]) (stₚ := [.inr (.inr (some 1))]) (hₚ := gc_h sh I J A) (C := (True ∧ True)) rfl ⟨trivial, trivial⟩ ?_
  refine gv_get hD rfl rfl S_1 ⟨by decide, (gz_sh B_1)⟩ (gc_hI S_1 rfl) ?_
  show gv_X _ _ (4, [(0, .inr (.inr (some 1))), (1, .inl a1)], [.inl (I 1 17)], sh, gc_h sh I J A)
  refine gv_run 1 true hD (pcₚ := 7) (lvₚ := [(0, .inr (.inr (some 1))), (1, .inl a1)]) (stₚ := [.inl 12000, .inl (I 1 17)]) (hₚ := gc_h sh I J A) (C := (True ∧ True)) rfl ⟨trivial, trivial⟩ ?_
  refine gv_icmp_ge (t := 31) hD rfl rfl ⟨⟨by (/-0-/first | (have o1 := gz_sh f1; omega) | (simp only [gz_hd] at *; omega)), by (/-1-/first | (have o1 := gz_sh f1; omega) | (simp only [gz_hd] at *; omega))⟩, ⟨by (/-2-/first | omega | (simp only [gz_hd] at *; omega)), by (/-3-/first | omega | (simp only [gz_hd] at *; omega))⟩⟩ (fun c4 => ?_) (fun c4 => ?_)
  · show gv_X _ _ (31, [(0, .inr (.inr (some 1))), (1, .inl a1)], [], sh, gc_h sh I J A)
    refine gv_run 2 true hD (pcₚ := 33) (lvₚ := [(0, .inr (.inr (some 1))), (1, .inl a1)]) (stₚ := [.inl 1, .inr (.inr (some 1))]) (hₚ := gc_h sh I J A) (C := ((True ∧ True) ∧ True)) rfl ⟨⟨trivial, trivial⟩, trivial⟩ ?_
    refine gv_put hD rfl rfl S_1 ⟨by decide, (gz_sh B_1)⟩ rfl (by (/-4-/first | omega | (simp only [gz_hd] at *; omega))) ?_
    refine gc_st (k := 18) hI S_1 rfl (gz_sh R_1) (lo := 0) (hi := 1) rfl rfl (by (/-5-/first | omega | (simp only [gz_hd] at *; omega))) (by (/-6-/first | omega | (simp only [gz_hd] at *; omega))) (fun I5 hI5 q6 p6 => ?_)
    have FI5 := gc_frs (W := fun q j => (q = 1 ∧ j = 17) ∨ (q = 1 ∧ j = 18) ∨ q = 20) FI (Or.inr (Or.inl ⟨rfl, rfl⟩)) p6
    have t7 := gz_hi (p6 1 17 (fun h => absurd h.2 (by first | exact gz_ne rfl | decide)))
    show gv_X _ _ (36, [(0, .inr (.inr (some 1))), (1, .inl a1)], [], sh, gc_h sh I5 J A)
    exact gv_vret hD rfl ⟨I5, J, rfl, hI5, FI5, FJ, ⟨rfl, by (/-7-/first | (have o1 := gz_sh t7; omega) | (simp only [gz_hd] at *; omega)), by (/-8-/first | (have o1 := gz_sh t7; omega) | (simp only [gz_hd] at *; omega)), (fun h9 => by (/-9-/first | (have o1 := gz_sh f1; omega) | (simp only [gz_hd] at *; omega))), (gc_PKs_fr gc_PKs_rf (p6 1 17 (fun h => absurd h.2 (by first | exact gz_ne rfl | decide))) (fun k => p6 20 k (fun h => absurd h.1 (by first | exact gz_ne rfl | decide)))), (fun h9 => absurd h9 (by (/-10-/first | (have o1 := gz_sh f1; omega) | (simp only [gz_hd] at *; omega))))⟩⟩
  · show gv_X _ _ (10, [(0, .inr (.inr (some 1))), (1, .inl a1)], [], sh, gc_h sh I J A)
    refine gv_run 1 true hD (pcₚ := 11) (lvₚ := [(0, .inr (.inr (some 1))), (1, .inl a1)]) (stₚ := [.inr (.inr (some 1))]) (hₚ := gc_h sh I J A) (C := (True ∧ True)) rfl ⟨trivial, trivial⟩ ?_
    refine gv_get hD rfl rfl S_1 ⟨by decide, (gz_sh B_1)⟩ (gc_hA S_1 rfl A_1_16) ?_
    show gv_X _ _ (14, [(0, .inr (.inr (some 1))), (1, .inl a1)], [.inr (.inr (some 20))], sh, gc_h sh I J A)
    refine gv_run 2 true hD (pcₚ := 16) (lvₚ := [(0, .inr (.inr (some 1))), (1, .inl a1)]) (stₚ := [.inr (.inr (some 1)), .inr (.inr (some 1)), .inr (.inr (some 20))]) (hₚ := gc_h sh I J A) (C := ((True ∧ True) ∧ True)) rfl ⟨⟨trivial, trivial⟩, trivial⟩ ?_
    refine gv_get hD rfl rfl S_1 ⟨by decide, (gz_sh B_1)⟩ (gc_hI S_1 rfl) ?_
    show gv_X _ _ (19, [(0, .inr (.inr (some 1))), (1, .inl a1)], [.inl (I 1 17), .inr (.inr (some 1)), .inr (.inr (some 20))], sh, gc_h sh I J A)
    refine gv_run 3 true hD (pcₚ := 22) (lvₚ := [(0, .inr (.inr (some 1))), (1, .inl a1)]) (stₚ := [.inl ((I 1 17) + 1), .inr (.inr (some 1)), .inl (I 1 17), .inr (.inr (some 20))]) (hₚ := gc_h sh I J A) (C := (((True ∧ True) ∧ True) ∧ True)) rfl ⟨⟨⟨trivial, trivial⟩, trivial⟩, trivial⟩ ?_
    refine gv_put hD rfl rfl S_1 ⟨by decide, (gz_sh B_1)⟩ rfl trivial ?_
    refine gc_st (k := 17) hI S_1 rfl (gz_sh R_1) (lo := 0) (hi := 12000) rfl rfl (by (/-11-/first | (have o1 := gz_sh f1; omega) | (simp only [gz_hd] at *; omega))) (by (/-12-/first | omega | (simp only [gz_hd] at *; omega))) (fun I10 hI10 q11 p11 => ?_)
    have FI10 := gc_frs (W := fun q j => (q = 1 ∧ j = 17) ∨ (q = 1 ∧ j = 18) ∨ q = 20) FI (Or.inl ⟨rfl, rfl⟩) p11
    have t12 := gz_hi (p11 1 18 (fun h => absurd h.2 (by first | exact gz_ne rfl | decide)))
    show gv_X _ _ (25, [(0, .inr (.inr (some 1))), (1, .inl a1)], [.inl (I 1 17), .inr (.inr (some 20))], sh, gc_h sh I10 J A)
    have f14 := gz_hi (gc_i2b (x := a1) ⟨by (/-13-/first | omega | (simp only [gz_hd] at *; omega)), by (/-14-/first | omega | (simp only [gz_hd] at *; omega))⟩)
    refine gv_run 2 true hD (pcₚ := 27) (lvₚ := [(0, .inr (.inr (some 1))), (1, .inl a1)]) (stₚ := [.inl ((Int32.ofInt a1).toInt8.toInt32.toInt), .inl (I 1 17), .inr (.inr (some 20))]) (hₚ := gc_h sh I10 J A) (C := ((True ∧ True) ∧ True)) rfl ⟨⟨trivial, trivial⟩, trivial⟩ ?_
    have f15 := gz_hi (gc_nar (x := (((Int32.ofInt a1).toInt8.toInt32.toInt))) ⟨by (/-15-/first | (have o1 := gz_sh f14; omega) | (simp only [gz_hd] at *; omega)), by (/-16-/first | (have o1 := gz_sh f14; omega) | (simp only [gz_hd] at *; omega))⟩)
    refine gv_bast hD rfl S_20 ⟨by decide, (gz_sh B_20)⟩ ⟨by (/-17-/first | (have o1 := gz_sh f1; omega) | (simp only [gz_hd] at *; omega)), by (/-18-/first | omega | (simp only [gz_hd] at *; omega))⟩ ?_
    refine gc_st hI10 S_20 rfl (gz_sh R_20) (lo := 0) (hi := 127) rfl rfl (by (/-19-/first | (have o1 := gz_sh f14; have o2 := gz_sh f15; omega) | (simp only [gz_hd] at *; omega))) (by (/-20-/first | (have o1 := gz_sh f14; have o2 := gz_sh f15; omega) | (simp only [gz_hd] at *; omega))) (fun I16 hI16 q17 p17 => ?_)
    have FI16 := gc_frs (W := fun q j => (q = 1 ∧ j = 17) ∨ (q = 1 ∧ j = 18) ∨ q = 20) FI10 (Or.inr (Or.inr rfl)) p17
    have t18 := gz_hi (p17 1 17 (fun h => absurd h.1 (by first | exact gz_ne rfl | decide)))
    have t19 := gz_hi (p17 1 18 (fun h => absurd h.1 (by first | exact gz_ne rfl | decide)))
    show gv_X _ _ (28, [(0, .inr (.inr (some 1))), (1, .inl a1)], [], sh, gc_h sh I16 J A)
    refine gv_run 1 true hD (pcₚ := 36) (lvₚ := [(0, .inr (.inr (some 1))), (1, .inl a1)]) (stₚ := []) (hₚ := gc_h sh I16 J A) (C := (True ∧ True)) rfl ⟨trivial, trivial⟩ ?_
    exact gv_vret hD rfl ⟨I16, J, rfl, hI16, FI16, FJ, ⟨rfl, by (/-21-/first | (have o1 := gz_sh t18; omega) | (simp only [gz_hd] at *; omega)), by (/-22-/first | (have o1 := gz_sh t18; omega) | (simp only [gz_hd] at *; omega)), (fun h9 => by (/-23-/first | (have o1 := gz_sh t12; have o2 := gz_sh t19; omega) | (simp only [gz_hd] at *; omega))), (gc_PKs_kb p11 q11 p17), (fun _ => ⟨by (/-24-/first | (have o1 := gz_sh t18; omega) | (simp only [gz_hd] at *; omega)), q17.trans (by (/-25-/first | (have o1 := gz_sh f14; have o2 := gz_sh f15; omega) | (simp only [gz_hd] at *; omega)))⟩)⟩⟩
set_option maxHeartbeats 8000000 in
set_option maxRecDepth 100000 in
theorem d_X6_keepLetters_p {ws0 : List Cond} {tb : String → gz_T} (hws : gc_Ws ws0) (htb : gc_tbs tb) (sh : gz_Sh) (ro : Nat → Nat) (I : gr_I) (J : gr_J) (A : gc_A) (hI : gc_Inv ro I)  (hb : gc_Base sh ro A)  (x0 : I 23 7 = 3) (x1 : I 1 17 ≤ 2000) (KLT_I : gc_LT I) (KTK_I : gc_TK I) : ∃ r hₚ, gz_Ev ws0 tb 2 (yX6_keepLetters, cX6_keepLetters, 4, (some .int)) [.inr (.inr (some 39))] sh (gc_h sh I J A) r sh hₚ 0 0 ∧ (∃ (Iₚ : gr_I) (Jₚ : gr_J), hₚ = gc_h sh Iₚ Jₚ A ∧ gc_Inv ro Iₚ ∧ (∀ q j : Nat, ((q = 1 ∧ j = 17) ∨ (q = 1 ∧ j = 18) ∨ q = 20) ∨ Iₚ q j = I q j) ∧ (∀ q j : Nat, (False) ∨ Jₚ q j = J q j) ∧ gc_LT Iₚ ∧ gc_TK Iₚ ∧ (∃ z : Int, r = some (.inl z) ∧ 0 ≤ z ∧ z ≤ 12000 ∧ (z = I 1 17) ∧ (I 1 17 ≤ Iₚ 1 17) ∧ (Iₚ 1 17 ≤ I 1 17 + I 23 6 - I 23 5 - 2) ∧ (Iₚ 1 18 = I 1 18) ∧ (gc_kl I Iₚ) ∧ (gc_PKs I Iₚ))) := by
  have FI : ∀ q j : Nat, ((q = 1 ∧ j = 17) ∨ (q = 1 ∧ j = 18) ∨ q = 20) ∨ I q j = I q j := fun _ _ => Or.inr rfl
  have FJ : ∀ q j : Nat, (False) ∨ J q j = J q j := fun _ _ => Or.inr rfl
  have A_23_0 : A 23 0 = some 24 := gc_bA_23_0 hb
  have A_39_0 : A 39 0 = some 1 := gc_bA_39_0 hb
  have A_39_1 : A 39 1 = some 23 := gc_bA_39_1 hb
  have B_1 := gz_hi (show 1 < 1000000 from by decide)
  have B_23 := gz_hi (show 23 < 1000000 from by decide)
  have B_24 := gz_hi (show 24 < 1000000 from by decide)
  have B_39 := gz_hi (show 39 < 1000000 from by decide)
  have R_1 := gz_hi (show ro 1 = 22 from gc_bR_1 hb)
  have R_23 := gz_hi (show ro 23 = 3 from gc_bR_23 hb)
  have R_24 := gz_hi (show ro 24 = 1 from gc_bR_24 hb)
  have S_1 : sh[1]? = some (false, 8, 21) := gc_bS_1 hb
  have S_23 : sh[23]? = some (false, 9, 10) := gc_bS_23 hb
  have S_24 : sh[24]? = some (true, 0, 1000) := gc_bS_24 hb
  have S_39 : sh[39]? = some (false, 6, 19) := gc_bS_39 hb
  have hD : gv_D (gc_E6 ws0 tb 1 (yX6_keepLetters, cX6_keepLetters, 4, (some .int)) kX6_keepLetters) := gq_of oX6_keepLetters
  refine gc_ev6 (d := 1) (l := kX6_keepLetters) (Po := fun r hₚ => (∃ (Iₚ : gr_I) (Jₚ : gr_J), hₚ = gc_h sh Iₚ Jₚ A ∧ gc_Inv ro Iₚ ∧ (∀ q j : Nat, ((q = 1 ∧ j = 17) ∨ (q = 1 ∧ j = 18) ∨ q = 20) ∨ Iₚ q j = I q j) ∧ (∀ q j : Nat, (False) ∨ Jₚ q j = J q j) ∧ gc_LT Iₚ ∧ gc_TK Iₚ ∧ (∃ z : Int, r = some (.inl z) ∧ 0 ≤ z ∧ z ≤ 12000 ∧ (z = I 1 17) ∧ (I 1 17 ≤ Iₚ 1 17) ∧ (Iₚ 1 17 ≤ I 1 17 + I 23 6 - I 23 5 - 2) ∧ (Iₚ 1 18 = I 1 18) ∧ (gc_kl I Iₚ) ∧ (gc_PKs I Iₚ)))) htb rfl (Nat.le_of_ble_eq_true rfl) ?_
  have KPK_I : gc_PKs I I := gc_PKs_rf
  have f3 := gz_hi ((gc_b_3_5 hI (gz_sh R_23)))
  have f4 := gz_hi ((gc_b_3_6 hI (gz_sh R_23)))
  have f6 := gz_hi ((gc_b_22_17 hI (gz_sh R_1)))
  have L18 : ∀ (n9 : Nat) (I8 : gr_I) (J9 : gr_J) (v1_10 : Int) (v2_10 : Int) (v3_10 : Int), (14 - v3_10).toNat < n9 → gc_Inv ro I8 → (∀ q j : Nat, ((q = 1 ∧ j = 17) ∨ (q = 1 ∧ j = 18) ∨ q = 20) ∨ I8 q j = I q j) → (∀ q j : Nat, (False) ∨ J9 q j = J q j) → gc_LT I8 → gc_TK I8 → gc_PKs I I8 → ((0 ≤ v1_10 ∧ v1_10 ≤ 12000) ∧ (0 ≤ v2_10 ∧ v2_10 ≤ 12) ∧ (1 ≤ v3_10 ∧ v3_10 ≤ 13) ∧ (v3_10 ≤ v2_10 + 1) ∧ (v2_10 = I 23 6 - I 23 5 - 2) ∧ (v1_10 = I 1 17) ∧ (I8 23 5 = I 23 5) ∧ (I8 23 6 = I 23 6) ∧ (I8 23 7 = 3) ∧ (I8 23 1 = I 23 1) ∧ (I 1 17 ≤ I8 1 17) ∧ (I8 1 17 ≤ I 1 17 + v3_10 - 1) ∧ (I8 1 18 = I 1 18) ∧ (I8 1 17 = I 1 17 + v3_10 - 1)) → (∀ i : Int, 0 ≤ i → i < v3_10 - 1 → I8 20 (Int.toNat (I 1 17 + i)) = I 24 (Int.toNat (I 23 5 + 1 + i))) → gv_X (gc_E6 ws0 tb 1 (yX6_keepLetters, cX6_keepLetters, 4, (some .int)) kX6_keepLetters) (gv_Q cX6_keepLetters (some .int) sh (fun r hₚ => (∃ (Iₚ : gr_I) (Jₚ : gr_J), hₚ = gc_h sh Iₚ Jₚ A ∧ gc_Inv ro Iₚ ∧ (∀ q j : Nat, ((q = 1 ∧ j = 17) ∨ (q = 1 ∧ j = 18) ∨ q = 20) ∨ Iₚ q j = I q j) ∧ (∀ q j : Nat, (False) ∨ Jₚ q j = J q j) ∧ gc_LT Iₚ ∧ gc_TK Iₚ ∧ (∃ z : Int, r = some (.inl z) ∧ 0 ≤ z ∧ z ≤ 12000 ∧ (z = I 1 17) ∧ (I 1 17 ≤ Iₚ 1 17) ∧ (Iₚ 1 17 ≤ I 1 17 + I 23 6 - I 23 5 - 2) ∧ (Iₚ 1 18 = I 1 18) ∧ (gc_kl I Iₚ) ∧ (gc_PKs I Iₚ))))) (18, [(0, .inr (.inr (some 39))), (1, .inl v1_10), (2, .inl v2_10), (3, .inl v3_10)], [], sh, gc_h sh I8 J9 A) := by
    intro n9
    induction n9 with
    | zero => intro I8 J9 v1_10 v2_10 v3_10 hn; (/-0-/first | omega | (simp only [gz_hd] at *; omega))
    | succ n9 ih18 =>
      intro I8 J9 v1_10 v2_10 v3_10 hn hI8 FI8 FJ9 KLT_I8 KTK_I8 KPK_I8 m_10 e11_10
      obtain ⟨hv1_10, hv2_10, hv3_10, e0_10, e1_10, e2_10, e3_10, e4_10, e5_10, e6_10, e7_10, e8_10, e9_10, e10_10⟩ := gz_h14 m_10
      have f16 := gz_hi ((gc_b_22_17 hI8 (gz_sh R_1)))
      refine gv_run 2 true hD (pcₚ := 20) (lvₚ := [(0, .inr (.inr (some 39))), (1, .inl v1_10), (2, .inl v2_10), (3, .inl v3_10)]) (stₚ := [.inl v2_10, .inl v3_10]) (hₚ := gc_h sh I8 J9 A) (C := ((True ∧ True) ∧ True)) rfl ⟨⟨trivial, trivial⟩, trivial⟩ ?_
      refine gv_icmp_gt (t := 53) hD rfl rfl ⟨⟨by (/-1-/first | (have o1 := gz_sh hv3_10; omega) | (simp only [gz_hd] at *; omega)), by (/-2-/first | (have o1 := gz_sh hv3_10; omega) | (simp only [gz_hd] at *; omega))⟩, ⟨by (/-3-/first | (have o1 := gz_sh hv2_10; omega) | (simp only [gz_hd] at *; omega)), by (/-4-/first | (have o1 := gz_sh hv2_10; omega) | (simp only [gz_hd] at *; omega))⟩⟩ (fun c18 => ?_) (fun c18 => ?_)
      · show gv_X _ _ (53, [(0, .inr (.inr (some 39))), (1, .inl v1_10), (2, .inl v2_10), (3, .inl v3_10)], [], sh, gc_h sh I8 J9 A)
        refine gv_run 1 true hD (pcₚ := 54) (lvₚ := [(0, .inr (.inr (some 39))), (1, .inl v1_10), (2, .inl v2_10), (3, .inl v3_10)]) (stₚ := [.inl v1_10]) (hₚ := gc_h sh I8 J9 A) (C := (True ∧ True)) rfl ⟨trivial, trivial⟩ ?_
        exact gv_iret hD rfl ⟨I8, J9, rfl, hI8, FI8, FJ9, KLT_I8, KTK_I8, ⟨_, rfl, by (/-5-/first | (have o1 := gz_sh e2_10; have o2 := gz_sh f6; omega) | (simp only [gz_hd] at *; omega)), by (/-6-/first | (have o1 := gz_sh e2_10; omega) | (simp only [gz_hd] at *; omega)), by (/-7-/first | (have o1 := gz_sh e2_10; omega) | (simp only [gz_hd] at *; omega)), by (/-8-/first | (have o1 := gz_sh e7_10; omega) | (simp only [gz_hd] at *; omega)), by (/-9-/first | (have o1 := gz_sh e0_10; have o2 := gz_sh e10_10; have o3 := gz_sh e1_10; omega) | (simp only [gz_hd] at *; omega)), by (/-10-/first | (have o1 := gz_sh e9_10; omega) | (simp only [gz_hd] at *; omega)), ⟨by (/-11-/first | (have o1 := gz_sh e0_10; have o2 := gz_sh e10_10; have o3 := gz_sh e1_10; omega) | (simp only [gz_hd] at *; omega)), fun i a b => e11_10 i a (by (/-12-/first | (have o1 := gz_sh e1_10; omega) | (simp only [gz_hd] at *; omega)))⟩, KPK_I8⟩⟩
      · show gv_X _ _ (23, [(0, .inr (.inr (some 39))), (1, .inl v1_10), (2, .inl v2_10), (3, .inl v3_10)], [], sh, gc_h sh I8 J9 A)
        refine gv_run 1 true hD (pcₚ := 24) (lvₚ := [(0, .inr (.inr (some 39))), (1, .inl v1_10), (2, .inl v2_10), (3, .inl v3_10)]) (stₚ := [.inr (.inr (some 39))]) (hₚ := gc_h sh I8 J9 A) (C := (True ∧ True)) rfl ⟨trivial, trivial⟩ ?_
        refine gv_get hD rfl rfl S_39 ⟨by decide, (gz_sh B_39)⟩ (gc_hA S_39 rfl A_39_0) ?_
        show gv_X _ _ (27, [(0, .inr (.inr (some 39))), (1, .inl v1_10), (2, .inl v2_10), (3, .inl v3_10)], [.inr (.inr (some 1))], sh, gc_h sh I8 J9 A)
        refine gv_run 1 true hD (pcₚ := 28) (lvₚ := [(0, .inr (.inr (some 39))), (1, .inl v1_10), (2, .inl v2_10), (3, .inl v3_10)]) (stₚ := [.inr (.inr (some 39)), .inr (.inr (some 1))]) (hₚ := gc_h sh I8 J9 A) (C := (True ∧ True)) rfl ⟨trivial, trivial⟩ ?_
        refine gv_get hD rfl rfl S_39 ⟨by decide, (gz_sh B_39)⟩ (gc_hA S_39 rfl A_39_1) ?_
        show gv_X _ _ (31, [(0, .inr (.inr (some 39))), (1, .inl v1_10), (2, .inl v2_10), (3, .inl v3_10)], [.inr (.inr (some 23)), .inr (.inr (some 1))], sh, gc_h sh I8 J9 A)
        refine gv_get hD rfl rfl S_23 ⟨by decide, (gz_sh B_23)⟩ (gc_hA S_23 rfl A_23_0) ?_
        show gv_X _ _ (34, [(0, .inr (.inr (some 39))), (1, .inl v1_10), (2, .inl v2_10), (3, .inl v3_10)], [.inr (.inr (some 24)), .inr (.inr (some 1))], sh, gc_h sh I8 J9 A)
        refine gv_run 1 true hD (pcₚ := 35) (lvₚ := [(0, .inr (.inr (some 39))), (1, .inl v1_10), (2, .inl v2_10), (3, .inl v3_10)]) (stₚ := [.inr (.inr (some 39)), .inr (.inr (some 24)), .inr (.inr (some 1))]) (hₚ := gc_h sh I8 J9 A) (C := (True ∧ True)) rfl ⟨trivial, trivial⟩ ?_
        refine gv_get hD rfl rfl S_39 ⟨by decide, (gz_sh B_39)⟩ (gc_hA S_39 rfl A_39_1) ?_
        show gv_X _ _ (38, [(0, .inr (.inr (some 39))), (1, .inl v1_10), (2, .inl v2_10), (3, .inl v3_10)], [.inr (.inr (some 23)), .inr (.inr (some 24)), .inr (.inr (some 1))], sh, gc_h sh I8 J9 A)
        refine gv_get hD rfl rfl S_23 ⟨by decide, (gz_sh B_23)⟩ (gc_hI S_23 rfl) ?_
        show gv_X _ _ (41, [(0, .inr (.inr (some 39))), (1, .inl v1_10), (2, .inl v2_10), (3, .inl v3_10)], [.inl (I8 23 5), .inr (.inr (some 24)), .inr (.inr (some 1))], sh, gc_h sh I8 J9 A)
        refine gv_run 2 true hD (pcₚ := 43) (lvₚ := [(0, .inr (.inr (some 39))), (1, .inl v1_10), (2, .inl v2_10), (3, .inl v3_10)]) (stₚ := [.inl ((I8 23 5) + v3_10), .inr (.inr (some 24)), .inr (.inr (some 1))]) (hₚ := gc_h sh I8 J9 A) (C := ((True ∧ True) ∧ True)) rfl ⟨⟨trivial, trivial⟩, trivial⟩ ?_
        have t22 := gz_hi (KLT_I8 (by (/-15-/first | (have o1 := gz_sh e5_10; omega) | (simp only [gz_hd] at *; omega))) (I8 23 5 + v3_10) (by (/-16-/first | (have o1 := gz_sh hv3_10; omega) | (simp only [gz_hd] at *; omega))) (by (/-17-/first | (have o1 := gz_sh e1_10; have o2 := gz_sh e3_10; have o3 := gz_sh e4_10; omega) | (simp only [gz_hd] at *; omega))))
        refine gv_bald hD rfl S_24 (Or.inl rfl) ⟨by decide, (gz_sh B_24)⟩ ⟨by (/-18-/first | (have o1 := gz_sh e3_10; have o2 := gz_sh f3; have o3 := gz_sh hv3_10; omega) | (simp only [gz_hd] at *; omega)), by (/-19-/first | (have o1 := gz_sh e1_10; have o2 := gz_sh e3_10; have o3 := gz_sh f4; omega) | (simp only [gz_hd] at *; omega))⟩ (gc_iI S_24 rfl) ?_
        show gv_X _ _ (44, [(0, .inr (.inr (some 39))), (1, .inl v1_10), (2, .inl v2_10), (3, .inl v3_10)], [.inl (I8 24 (Int.toNat (((I8 23 5) + v3_10)))), .inr (.inr (some 1))], sh, gc_h sh I8 J9 A)
        obtain ⟨r24, h24, E24, P24⟩ := d_X8_keepByte_p (ws0 := ws0) (tb := tb) hws htb sh ro I8 J9 A hI8  ((I8 24 (Int.toNat (((I8 23 5) + v3_10))))) hb   ⟨by (/-20-/first | (have o1 := gz_sh t22; omega) | (simp only [gz_hd] at *; omega)), by (/-21-/first | (have o1 := gz_sh t22; omega) | (simp only [gz_hd] at *; omega))⟩  
        obtain ⟨I25, J26, rfl, hI25, g24, k24, ⟨rfl, q24⟩⟩ := P24
        replace q24 := gz_hi q24
        have FI25 := gc_frc (W := fun q j => (q = 1 ∧ j = 17) ∨ (q = 1 ∧ j = 18) ∨ q = 20) (V := fun q j => (q = 1 ∧ j = 17) ∨ (q = 1 ∧ j = 18) ∨ q = 20) FI8 (fun q j h => (h.elim (fun h => (Or.inl h)) (fun h => (h.elim (fun h => (Or.inr (Or.inl h))) (fun h => (Or.inr (Or.inr h))))))) g24
        have t27 := gz_hi ((g24 23 1).resolve_left (fun h => h.elim (fun h => absurd h.2 (by first | exact gz_ne rfl | decide)) (fun h => h.elim (fun h => absurd h.2 (by first | exact gz_ne rfl | decide)) (fun h => absurd h (by first | exact gz_ne rfl | decide)))))
        have t28 := gz_hi ((g24 23 5).resolve_left (fun h => h.elim (fun h => absurd h.2 (by first | exact gz_ne rfl | decide)) (fun h => h.elim (fun h => absurd h.2 (by first | exact gz_ne rfl | decide)) (fun h => absurd h (by first | exact gz_ne rfl | decide)))))
        have t29 := gz_hi ((g24 23 6).resolve_left (fun h => h.elim (fun h => absurd h.2 (by first | exact gz_ne rfl | decide)) (fun h => h.elim (fun h => absurd h.2 (by first | exact gz_ne rfl | decide)) (fun h => absurd h (by first | exact gz_ne rfl | decide)))))
        have t30 := gz_hi ((g24 23 7).resolve_left (fun h => h.elim (fun h => absurd h.2 (by first | exact gz_ne rfl | decide)) (fun h => h.elim (fun h => absurd h.2 (by first | exact gz_ne rfl | decide)) (fun h => absurd h (by first | exact gz_ne rfl | decide)))))
        have f31 := gz_hi ((gc_b_22_17 hI25 (gz_sh R_1)))
        obtain rfl : J9 = J26 := funext fun q => funext fun j => ((k24 q j).resolve_left id).symm
        have KLT_I25 := gc_LT_fr KLT_I8 ((g24 23 5).resolve_left (fun h => h.elim (fun h => absurd h.2 (by first | exact gz_ne rfl | decide)) (fun h => h.elim (fun h => absurd h.2 (by first | exact gz_ne rfl | decide)) (fun h => absurd h (by first | exact gz_ne rfl | decide))))) ((g24 23 6).resolve_left (fun h => h.elim (fun h => absurd h.2 (by first | exact gz_ne rfl | decide)) (fun h => h.elim (fun h => absurd h.2 (by first | exact gz_ne rfl | decide)) (fun h => absurd h (by first | exact gz_ne rfl | decide))))) ((g24 23 7).resolve_left (fun h => h.elim (fun h => absurd h.2 (by first | exact gz_ne rfl | decide)) (fun h => h.elim (fun h => absurd h.2 (by first | exact gz_ne rfl | decide)) (fun h => absurd h (by first | exact gz_ne rfl | decide))))) (fun k => (g24 24 k).resolve_left (fun h => h.elim (fun h => absurd h.1 (by first | exact gz_ne rfl | decide)) (fun h => h.elim (fun h => absurd h.1 (by first | exact gz_ne rfl | decide)) (fun h => absurd h (by first | exact gz_ne rfl | decide)))))
        have KTK_I25 := gc_TK_fr KTK_I8 ((g24 23 1).resolve_left (fun h => h.elim (fun h => absurd h.2 (by first | exact gz_ne rfl | decide)) (fun h => h.elim (fun h => absurd h.2 (by first | exact gz_ne rfl | decide)) (fun h => absurd h (by first | exact gz_ne rfl | decide))))) ((g24 23 5).resolve_left (fun h => h.elim (fun h => absurd h.2 (by first | exact gz_ne rfl | decide)) (fun h => h.elim (fun h => absurd h.2 (by first | exact gz_ne rfl | decide)) (fun h => absurd h (by first | exact gz_ne rfl | decide))))) ((g24 23 6).resolve_left (fun h => h.elim (fun h => absurd h.2 (by first | exact gz_ne rfl | decide)) (fun h => h.elim (fun h => absurd h.2 (by first | exact gz_ne rfl | decide)) (fun h => absurd h (by first | exact gz_ne rfl | decide))))) ((g24 23 7).resolve_left (fun h => h.elim (fun h => absurd h.2 (by first | exact gz_ne rfl | decide)) (fun h => h.elim (fun h => absurd h.2 (by first | exact gz_ne rfl | decide)) (fun h => absurd h (by first | exact gz_ne rfl | decide)))))
        have l24 := (gz_sh q24).2.2.2.1
        have KPK_I25 := gc_PKs_tr KPK_I8 l24
        have kb24 := (gz_sh q24).2.2.2.2 (by (/-22-/first | (have o1 := gz_sh e10_10; have o2 := gz_sh hv3_10; omega) | (simp only [gz_hd] at *; omega)))
        have t33 := gz_hi (kb24.1)
        refine gv_callV hD rfl (As := [.inl (I8 24 (Int.toNat (((I8 23 5) + v3_10))))]) (st := []) rfl (gz_sh B_1) S_1 rfl (gc_lV6 hws rfl) (Nat.le_of_ble_eq_true rfl) (gz_Ev_mono (d := 1) (by decide) E24) ?_
        show gv_X _ _ (47, [(0, .inr (.inr (some 39))), (1, .inl v1_10), (2, .inl v2_10), (3, .inl v3_10)], [], sh, gc_h sh I25 J9 A)
        refine gv_run 2 true hD (pcₚ := 18) (lvₚ := [(3, .inl (v3_10 + 1)), (0, .inr (.inr (some 39))), (1, .inl v1_10), (2, .inl v2_10)]) (stₚ := []) (hₚ := gc_h sh I25 J9 A) (C := ((True ∧ True) ∧ True)) rfl ⟨⟨trivial, trivial⟩, trivial⟩ ?_
        refine gv_pick [1, 2, 3, 0] rfl ?_
        exact ih18 I25 J9 v1_10 v2_10 (v3_10 + 1) (by (/-23-/first | (have o1 := gz_sh e1_10; have o2 := gz_sh e3_10; have o3 := gz_sh e4_10; have o4 := gz_sh f16; have o5 := gz_sh f31; have o6 := gz_sh hv2_10; have o7 := gz_sh hv3_10; have o8 := gz_sh q24; have o9 := gz_sh t28; have o10 := gz_sh t29; have o11 := gz_sh t33; omega) | (simp only [gz_hd] at *; omega))) hI25 FI25 FJ9 KLT_I25 KTK_I25 KPK_I25 (by (/-24-/first | (and_intros; (have o1 := gz_sh e2_10; have o2 := gz_sh f6; omega); (have o1 := gz_sh e2_10; omega); (have o1 := gz_sh hv2_10; omega); (have o1 := gz_sh hv2_10; omega); (have o1 := gz_sh hv3_10; omega); (have o1 := gz_sh hv2_10; omega); (omega); (have o1 := gz_sh e1_10; omega); (have o1 := gz_sh e2_10; omega); (have o1 := gz_sh e3_10; have o2 := gz_sh t28; omega); (have o1 := gz_sh e4_10; have o2 := gz_sh t29; omega); (have o1 := gz_sh e5_10; have o2 := gz_sh t30; omega); (have o1 := gz_sh e6_10; have o2 := gz_sh t27; omega); (have o1 := gz_sh e10_10; have o2 := gz_sh hv3_10; have o3 := gz_sh t33; omega); (have o1 := gz_sh e10_10; have o2 := gz_sh q24; omega); (have o1 := gz_sh e9_10; have o2 := gz_sh f31; have o3 := gz_sh q24; have o4 := gz_sh t33; omega); (have o1 := gz_sh e10_10; have o2 := gz_sh q24; have o3 := gz_sh t33; omega)) | (simp only [gz_hd] at *; omega))) (fun i a b => if e9 : i = v3_10 - 1 then (by rw [show I 1 17 + i = I8 1 17 from by (/-25-/first | (have o1 := gz_sh e10_10; omega) | (simp only [gz_hd] at *; omega)), kb24.2, show I8 23 5 + v3_10 = I 23 5 + 1 + i from by (/-26-/first | (have o1 := gz_sh e3_10; omega) | (simp only [gz_hd] at *; omega))]; exact (FI8 24 _).resolve_left (by (/-27-/first | omega | (simp only [gz_hd] at *; omega)))) else (l24.2 (Int.toNat (I 1 17 + i)) (by (/-28-/first | (have o1 := gz_sh e10_10; have o2 := gz_sh f6; omega) | (simp only [gz_hd] at *; omega)))).trans (e11_10 i a (by (/-29-/first | omega | (simp only [gz_hd] at *; omega)))))
  refine gv_run 1 true hD (pcₚ := 1) (lvₚ := [(0, .inr (.inr (some 39)))]) (stₚ := [.inr (.inr (some 39))]) (hₚ := gc_h sh I J A) (C := (True ∧ True)) rfl ⟨trivial, trivial⟩ ?_
  refine gv_get hD rfl rfl S_39 ⟨by decide, (gz_sh B_39)⟩ (gc_hA S_39 rfl A_39_0) ?_
  show gv_X _ _ (4, [(0, .inr (.inr (some 39)))], [.inr (.inr (some 1))], sh, gc_h sh I J A)
  refine gv_get hD rfl rfl S_1 ⟨by decide, (gz_sh B_1)⟩ (gc_hI S_1 rfl) ?_
  show gv_X _ _ (7, [(0, .inr (.inr (some 39)))], [.inl (I 1 17)], sh, gc_h sh I J A)
  refine gv_run 2 true hD (pcₚ := 9) (lvₚ := [(1, .inl (I 1 17)), (0, .inr (.inr (some 39)))]) (stₚ := [.inr (.inr (some 39))]) (hₚ := gc_h sh I J A) (C := ((True ∧ True) ∧ True)) rfl ⟨⟨trivial, trivial⟩, trivial⟩ ?_
  refine gv_get hD rfl rfl S_39 ⟨by decide, (gz_sh B_39)⟩ (gc_hA S_39 rfl A_39_1) ?_
  show gv_X _ _ (12, [(1, .inl (I 1 17)), (0, .inr (.inr (some 39)))], [.inr (.inr (some 23))], sh, gc_h sh I J A)
  have t36 := gz_hi (gc_TK_l3 KTK_I (by (/-30-/first | omega | (simp only [gz_hd] at *; omega))))
  obtain ⟨r35, h35, E35, P35⟩ := d_X9_lettersSize (ws0 := ws0) (tb := tb) hws htb sh ro I J A hI 23  (gc_b23 hb)     
  obtain ⟨rfl, ⟨z35, rfl, q35⟩⟩ := P35
  replace q35 := gz_hi q35
  refine gv_callV hD rfl (As := []) (st := []) rfl (gz_sh B_23) S_23 rfl (gc_lV6 hws rfl) (Nat.le_of_ble_eq_true rfl) (gz_Ev_mono (d := 1) (by decide) E35) ?_
  show gv_X _ _ (15, [(1, .inl (I 1 17)), (0, .inr (.inr (some 39)))], [.inl z35], sh, gc_h sh I J A)
  refine gv_run 3 true hD (pcₚ := 18) (lvₚ := [(3, .inl 1), (2, .inl z35), (1, .inl (I 1 17)), (0, .inr (.inr (some 39)))]) (stₚ := []) (hₚ := gc_h sh I J A) (C := (((True ∧ True) ∧ True) ∧ True)) rfl ⟨⟨⟨trivial, trivial⟩, trivial⟩, trivial⟩ ?_
  refine gv_pick [3, 2, 1, 0] rfl ?_
  exact L18 _ I J (I 1 17) z35 1 (Nat.lt_succ_self _) hI FI FJ KLT_I KTK_I KPK_I (by (/-31-/first | (and_intros; (have o1 := gz_sh f6; omega); (omega); (have o1 := gz_sh q35; have o2 := gz_sh t36; omega); (have o1 := gz_sh q35; have o2 := gz_sh t36; omega); (omega); (omega); (have o1 := gz_sh q35; have o2 := gz_sh t36; omega); (have o1 := gz_sh q35; omega); (omega); (omega); (omega); (omega); (omega); (omega); (omega); (omega); (omega)) | (simp only [gz_hd] at *; omega))) (fun i a b => absurd b (by (/-32-/first | omega | (simp only [gz_hd] at *; omega))))
set_option maxHeartbeats 8000000 in
set_option maxRecDepth 100000 in
theorem d_X6_readContext_p_L121 {ws0 : List Cond} {tb : String → gz_T} (hws : gc_Ws ws0) (htb : gc_tbs tb) (sh : gz_Sh) (ro : Nat → Nat) (I : gr_I) (J : gr_J) (A : gc_A) (hI : gc_Inv ro I) (t : Nat) (B : Int) (β : Int → Int) (η : Int) (p9 : Int) (Ir : gr_I) (Jr : gr_J) (a1 : Int) (hb : gc_Base sh ro A) (h_t : gc_isTongue sh ro A t) (G_t : 144 ≤ t) (ha1 : 0 ≤ a1 ∧ a1 ≤ 22) (x0 : B ≤ 1280 ∧ I 1 17 + I 23 1 ≤ B + I 23 5) (x1 : (a1 = 0 ∨ a1 = 7 ∨ a1 = 10 ∨ a1 = 13 ∨ a1 = 16 ∨ a1 = 19 ∨ a1 = 22)) (x2 : gc_AT β η p9 23 I J) (x3 : 0 ≤ p9) (x4 : I 1 18 = 0) (x5 : I (t + 7) 1 = Ir 15 (Int.toNat (Ir 0 6))) (x6 : gs_NA (I (t + 7) 1) (J (t + 8)) (fun k => Jr 22 (Int.toNat (16 * Ir 0 6 + (k : Int))))) (x7 : gs_MA Ir I t) (x8 : I 39 2 = (t : Int)) (KLT_I : gc_LT I) (KTK_I : gc_TK I) (KRS_I : gc_row 41 25 gc_fS I) (KRC_I : gc_RC I) : ∀ (I10 : gr_I) (J11 : gr_J) (p_12 : Int), gc_Inv ro I10 → (∀ q j : Nat, ((q = 39 ∧ j = 3) ∨ (q = 39 ∧ j = 4) ∨ (q = 23 ∧ j = 5) ∨ (q = 23 ∧ j = 6) ∨ (q = 23 ∧ j = 7) ∨ (q = 23 ∧ j = 8) ∨ (q = 1 ∧ j = 17) ∨ (q = 1 ∧ j = 18) ∨ q = 20 ∨ (q = 41 ∧ j = (Int.toNat a1)) ∨ (q = 41 ∧ j = (Int.toNat (a1 + 1))) ∨ (q = 41 ∧ j = (Int.toNat (a1 + 2)))) ∨ I10 q j = I q j) → (∀ q j : Nat, ((q = 23 ∧ j = 9)) ∨ J11 q j = J q j) → gc_LT I10 → gc_TK I10 → gc_row 41 25 gc_fS I10 → gc_PKs I I10 → ((I10 41 (Int.toNat a1) = 1 → I10 41 (Int.toNat (a1 + 1)) ≤ 15) ∧ (I 23 7 = 1 ∨ I 23 7 = 3 ∨ I 23 7 = 35) ∧ (I10 23 7 = I 23 7) ∧ (I10 23 6 = I 23 6) ∧ (I10 23 5 = I 23 5) ∧ (I10 1 17 ≤ I 1 17 ∨ I10 1 17 ≤ I 1 17 + I 23 6 - I 23 5) ∧ (0 ≤ p_12) ∧ (I10 1 18 = 0) ∧ (I10 23 1 = I 23 1) ∧ (I 23 5 ≤ I10 23 5) ∧ (I10 39 2 = (t : Int))) → (gc_AT β η p_12 23 I10 J11) → ((gs_ctx β η Ir Jr 1 p9) = gs_X β η p_12) → (gs_itc I I10 t (I10 41) (Int.toNat a1) (gs_ti β η Ir Jr p9)) → gv_X (gc_E6 ws0 tb 3 (yX6_readContext, cX6_readContext, 2, (some .boolean)) kX6_readContext) (gv_Q cX6_readContext (some .boolean) sh (fun r hₚ => (∃ (Iₚ : gr_I) (Jₚ : gr_J), hₚ = gc_h sh Iₚ Jₚ A ∧ gc_Inv ro Iₚ ∧ (∀ q j : Nat, ((q = 39 ∧ j = 3) ∨ (q = 39 ∧ j = 4) ∨ (q = 23 ∧ j = 5) ∨ (q = 23 ∧ j = 6) ∨ (q = 23 ∧ j = 7) ∨ (q = 23 ∧ j = 8) ∨ (q = 1 ∧ j = 17) ∨ (q = 1 ∧ j = 18) ∨ q = 20 ∨ (q = 41 ∧ j = (Int.toNat a1)) ∨ (q = 41 ∧ j = (Int.toNat (a1 + 1))) ∨ (q = 41 ∧ j = (Int.toNat (a1 + 2)))) ∨ Iₚ q j = I q j) ∧ (∀ q j : Nat, ((q = 23 ∧ j = 9)) ∨ Jₚ q j = J q j) ∧ gc_LT Iₚ ∧ gc_TK Iₚ ∧ gc_row 41 25 gc_fS Iₚ ∧ gc_RC Iₚ ∧ (∃ z : Int, r = some (.inl z) ∧ 0 ≤ z ∧ z ≤ 1 ∧ (Iₚ 23 1 = I 23 1) ∧ (I 23 5 ≤ Iₚ 23 5) ∧ (B ≤ 1280 ∧ Iₚ 1 17 + Iₚ 23 1 ≤ B + Iₚ 23 5) ∧ (gc_PKs I Iₚ) ∧ (gs_Or z (0 ≤ (gs_ctx β η Ir Jr 1 p9) ∧ gc_AT β η (gs_ctx β η Ir Jr 1 p9) 23 Iₚ Jₚ ∧ Iₚ 1 18 = 0 ∧ gs_itc I Iₚ t (Iₚ 41) (Int.toNat a1) (gs_ti β η Ir Jr p9)) ((gs_ctx β η Ir Jr 1 p9) < 0 ∧ Iₚ 39 4 = -1 - (gs_ctx β η Ir Jr 1 p9))))))) (121, [(0, .inr (.inr (some 39)))], [], sh, gc_h sh I10 J11 A) := by
  have FI : ∀ q j : Nat, ((q = 39 ∧ j = 3) ∨ (q = 39 ∧ j = 4) ∨ (q = 23 ∧ j = 5) ∨ (q = 23 ∧ j = 6) ∨ (q = 23 ∧ j = 7) ∨ (q = 23 ∧ j = 8) ∨ (q = 1 ∧ j = 17) ∨ (q = 1 ∧ j = 18) ∨ q = 20 ∨ (q = 41 ∧ j = (Int.toNat a1)) ∨ (q = 41 ∧ j = (Int.toNat (a1 + 1))) ∨ (q = 41 ∧ j = (Int.toNat (a1 + 2)))) ∨ I q j = I q j := fun _ _ => Or.inr rfl
  have FJ : ∀ q j : Nat, ((q = 23 ∧ j = 9)) ∨ J q j = J q j := fun _ _ => Or.inr rfl
  have A_39_1 : A 39 1 = some 23 := gc_bA_39_1 hb
  have A_39_10 : A 39 10 = some 41 := gc_bA_39_10 hb
  have B_23 := gz_hi (show 23 < 1000000 from by decide)
  have B_39 := gz_hi (show 39 < 1000000 from by decide)
  have B_41 := gz_hi (show 41 < 1000000 from by decide)
  have R_1 := gz_hi (show ro 1 = 22 from gc_bR_1 hb)
  have R_23 := gz_hi (show ro 23 = 3 from gc_bR_23 hb)
  have R_39 := gz_hi (show ro 39 = 42 from gc_bR_39 hb)
  have R_41 := gz_hi (show ro 41 = 0 from gc_bR_41 hb)
  have S_23 : sh[23]? = some (false, 9, 10) := gc_bS_23 hb
  have S_39 : sh[39]? = some (false, 6, 19) := gc_bS_39 hb
  have S_41 : sh[41]? = some (true, 1, 25) := gc_bS_41 hb
  obtain ⟨S_t, R_t, B_t, A_t_0, h_t_1, A_t_1, h_t_3, A_t_2, S_t_5, R_t_5, B_t_5, A_t_3, S_t_6, R_t_6, B_t_6, A_t_4, h_t_7, A_t_5, S_t_9, R_t_9, B_t_9, A_t_7, S_t_10, R_t_10, B_t_10, A_t_8, h_t_11, A_t_9, S_t_13, R_t_13, B_t_13, A_t_10, S_t_14, R_t_14, B_t_14, A_t_12, S_t_15, R_t_15, B_t_15, A_t_14, S_t_16, R_t_16, B_t_16, A_t_15, h_t_17⟩ := id h_t
  replace R_t := gz_hi R_t
  replace B_t := gz_hi B_t
  replace R_t_5 := gz_hi R_t_5
  replace B_t_5 := gz_hi B_t_5
  replace R_t_6 := gz_hi R_t_6
  replace B_t_6 := gz_hi B_t_6
  replace R_t_9 := gz_hi R_t_9
  replace B_t_9 := gz_hi B_t_9
  replace R_t_10 := gz_hi R_t_10
  replace B_t_10 := gz_hi B_t_10
  replace R_t_13 := gz_hi R_t_13
  replace B_t_13 := gz_hi B_t_13
  replace R_t_14 := gz_hi R_t_14
  replace B_t_14 := gz_hi B_t_14
  replace R_t_15 := gz_hi R_t_15
  replace B_t_15 := gz_hi B_t_15
  replace R_t_16 := gz_hi R_t_16
  replace B_t_16 := gz_hi B_t_16
  obtain ⟨S_t_1, R_t_1, B_t_1, A_t_1_0, S_t_1_1, R_t_1_1, B_t_1_1, Q0_t_1, Q1_t_1, Q2_t_1⟩ := id h_t_1
  replace R_t_1 := gz_hi R_t_1
  replace B_t_1 := gz_hi B_t_1
  replace R_t_1_1 := gz_hi R_t_1_1
  replace B_t_1_1 := gz_hi B_t_1_1
  obtain ⟨S_t_3, R_t_3, B_t_3, A_t_3_0, S_t_3_1, R_t_3_1, B_t_3_1, Q0_t_3, Q1_t_3, Q2_t_3⟩ := id h_t_3
  replace R_t_3 := gz_hi R_t_3
  replace B_t_3 := gz_hi B_t_3
  replace R_t_3_1 := gz_hi R_t_3_1
  replace B_t_3_1 := gz_hi B_t_3_1
  obtain ⟨S_t_7, R_t_7, B_t_7, A_t_7_0, S_t_7_1, R_t_7_1, B_t_7_1, Q0_t_7, Q1_t_7, Q2_t_7⟩ := id h_t_7
  replace R_t_7 := gz_hi R_t_7
  replace B_t_7 := gz_hi B_t_7
  replace R_t_7_1 := gz_hi R_t_7_1
  replace B_t_7_1 := gz_hi B_t_7_1
  obtain ⟨S_t_11, R_t_11, B_t_11, A_t_11_0, S_t_11_1, R_t_11_1, B_t_11_1, Q0_t_11, Q1_t_11, Q2_t_11⟩ := id h_t_11
  replace R_t_11 := gz_hi R_t_11
  replace B_t_11 := gz_hi B_t_11
  replace R_t_11_1 := gz_hi R_t_11_1
  replace B_t_11_1 := gz_hi B_t_11_1
  obtain ⟨S_t_17, R_t_17, B_t_17, A_t_17_0, S_20, R_20, B_20, A_t_17_1, S_t_17_1, R_t_17_1, B_t_17_1, A_t_17_2, S_t_17_2, R_t_17_2, B_t_17_2, A_t_17_3, S_t_17_3, R_t_17_3, B_t_17_3, A_t_17_4, S_t_17_4, R_t_17_4, B_t_17_4, A_t_17_5, S_t_17_5, R_t_17_5, B_t_17_5, S_t_17_6, R_t_17_6, B_t_17_6, S_t_17_7, R_t_17_7, B_t_17_7⟩ := id h_t_17
  replace R_t_17 := gz_hi R_t_17
  replace B_t_17 := gz_hi B_t_17
  replace R_20 := gz_hi R_20
  replace B_20 := gz_hi B_20
  replace R_t_17_1 := gz_hi R_t_17_1
  replace B_t_17_1 := gz_hi B_t_17_1
  replace R_t_17_2 := gz_hi R_t_17_2
  replace B_t_17_2 := gz_hi B_t_17_2
  replace R_t_17_3 := gz_hi R_t_17_3
  replace B_t_17_3 := gz_hi B_t_17_3
  replace R_t_17_4 := gz_hi R_t_17_4
  replace B_t_17_4 := gz_hi B_t_17_4
  replace R_t_17_5 := gz_hi R_t_17_5
  replace B_t_17_5 := gz_hi B_t_17_5
  replace R_t_17_6 := gz_hi R_t_17_6
  replace B_t_17_6 := gz_hi B_t_17_6
  replace R_t_17_7 := gz_hi R_t_17_7
  replace B_t_17_7 := gz_hi B_t_17_7
  have hD : gv_D (gc_E6 ws0 tb 3 (yX6_readContext, cX6_readContext, 2, (some .boolean)) kX6_readContext) := gq_of oX6_readContext
  have N_t_7__41 := gz_hi (show ¬ ((t + 7) = 41) from by (/-0-/first | (have o1 := gz_sh B_t; have o2 := gz_sh B_t_10; have o3 := gz_sh B_t_13; have o4 := gz_sh B_t_14; have o5 := gz_sh B_t_15; have o6 := gz_sh B_t_16; have o7 := gz_sh B_t_17; have o8 := gz_sh B_t_17_1; have o9 := gz_sh B_t_17_2; have o10 := gz_sh B_t_17_3; have o11 := gz_sh B_t_17_4; have o12 := gz_sh B_t_17_5; have o13 := gz_sh B_t_17_6; have o14 := gz_sh B_t_17_7; have o15 := gz_sh B_t_5; have o16 := gz_sh B_t_6; have o17 := gz_sh B_t_9; omega) | (simp only [gz_hd] at *; omega)))
  have N_t_7__20 := gz_hi (show ¬ ((t + 7) = 20) from by (/-1-/first | (have o1 := gz_sh B_t; have o2 := gz_sh B_t_10; have o3 := gz_sh B_t_13; have o4 := gz_sh B_t_14; have o5 := gz_sh B_t_15; have o6 := gz_sh B_t_16; have o7 := gz_sh B_t_17; have o8 := gz_sh B_t_17_1; have o9 := gz_sh B_t_17_2; have o10 := gz_sh B_t_17_3; have o11 := gz_sh B_t_17_4; have o12 := gz_sh B_t_17_5; have o13 := gz_sh B_t_17_6; have o14 := gz_sh B_t_17_7; have o15 := gz_sh B_t_5; have o16 := gz_sh B_t_6; have o17 := gz_sh B_t_9; omega) | (simp only [gz_hd] at *; omega)))
  have KPK_I : gc_PKs I I := gc_PKs_rf
  have t1 := gz_hi (gc_TK_mo KTK_I)
  have f3 := gz_hi ((gc_b_3_5 hI (gz_sh R_23)))
  have f4 := gz_hi ((gc_b_3_6 hI (gz_sh R_23)))
  have f5 := gz_hi ((gc_b_3_7 hI (gz_sh R_23)))
  have f6 := gz_hi ((gc_b_22_17 hI (gz_sh R_1)))
  have f7 := gz_hi ((show 0 ≤ I (t + 7) 1 ∧ I (t + 7) 1 ≤ 16 from gc_in2 hI (gz_sh R_t_7) rfl rfl rfl))
  have tAT := gc_AT_l x2
  intro I10 J11 p_12 hI10 FI10 FJ11 KLT_I10 KTK_I10 KRS_I10 KPK_I10 m_12 e7_12 e8_12 e9_12
  obtain ⟨e0_12, e1_12, e2_12, e3_12, e4_12, e5_12, e6_12, e10_12, e11_12, e12_12, e13_12⟩ := gz_h11 m_12
  have t22 := gz_hi (gc_AT_l e7_12)
  refine gv_run 1 true hD (pcₚ := 122) (lvₚ := [(0, .inr (.inr (some 39)))]) (stₚ := [.inr (.inr (some 39))]) (hₚ := gc_h sh I10 J11 A) (C := (True ∧ True)) rfl ⟨trivial, trivial⟩ ?_
  refine gv_get hD rfl rfl S_39 ⟨by decide, (gz_sh B_39)⟩ (gc_hA S_39 rfl A_39_1) ?_
  show gv_X _ _ (125, [(0, .inr (.inr (some 39)))], [.inr (.inr (some 23))], sh, gc_h sh I10 J11 A)
  have t24 := gz_hi (gc_TK_nx KTK_I10 (by (/-2-/first | (have o1 := gz_sh e1_12; have o2 := gz_sh e2_12; have o3 := gz_sh e5_12; have o4 := gz_sh t22; omega) | (simp only [gz_hd] at *; omega))))
  have t25 := gz_hi (gc_TK_st KTK_I10 (by (/-3-/first | (have o1 := gz_sh e1_12; have o2 := gz_sh e2_12; have o3 := gz_sh e5_12; have o4 := gz_sh t22; omega) | (simp only [gz_hd] at *; omega))))
  obtain ⟨r23, h23, E23, P23⟩ := d_X9_advance_p (ws0 := ws0) (tb := tb) hws htb sh ro I10 J11 A hI10 23 β η  (gc_b23 hb)    (by (/-4-/first | (have o1 := gz_sh t24; omega) | (simp only [gz_hd] at *; omega))) e7_12.1.1 e7_12.1.2 
  obtain ⟨I26, J27, rfl, hI26, g23, k23, ⟨rfl, V23_0, V23_1, V23_2, V23_3, V23_4, q23⟩⟩ := P23
  replace q23 := gz_hi q23
  have FI26 := gc_frc (W := fun q j => (q = 39 ∧ j = 3) ∨ (q = 39 ∧ j = 4) ∨ (q = 23 ∧ j = 5) ∨ (q = 23 ∧ j = 6) ∨ (q = 23 ∧ j = 7) ∨ (q = 23 ∧ j = 8) ∨ (q = 1 ∧ j = 17) ∨ (q = 1 ∧ j = 18) ∨ q = 20 ∨ (q = 41 ∧ j = (Int.toNat a1)) ∨ (q = 41 ∧ j = (Int.toNat (a1 + 1))) ∨ (q = 41 ∧ j = (Int.toNat (a1 + 2)))) (V := fun q j => (q = 23 ∧ j = 5) ∨ (q = 23 ∧ j = 6) ∨ (q = 23 ∧ j = 7) ∨ (q = 23 ∧ j = 8)) FI10 (fun q j h => (h.elim (fun h => (Or.inr (Or.inr (Or.inl h)))) (fun h => (h.elim (fun h => (Or.inr (Or.inr (Or.inr (Or.inl h))))) (fun h => (h.elim (fun h => (Or.inr (Or.inr (Or.inr (Or.inr (Or.inl h)))))) (fun h => (Or.inr (Or.inr (Or.inr (Or.inr (Or.inr (Or.inl h))))))))))))) g23
  have FJ27 := gc_frc (W := fun q j => (q = 23 ∧ j = 9)) (V := fun q j => (q = 23 ∧ j = 9)) FJ11 (fun q j h => h) k23
  have t29 := gz_hi ((g23 1 17).resolve_left (fun h => h.elim (fun h => absurd h.2 (by first | exact gz_ne rfl | decide)) (fun h => h.elim (fun h => absurd h.2 (by first | exact gz_ne rfl | decide)) (fun h => h.elim (fun h => absurd h.2 (by first | exact gz_ne rfl | decide)) (fun h => absurd h.2 (by first | exact gz_ne rfl | decide))))))
  have t31 := gz_hi ((g23 1 18).resolve_left (fun h => h.elim (fun h => absurd h.2 (by first | exact gz_ne rfl | decide)) (fun h => h.elim (fun h => absurd h.2 (by first | exact gz_ne rfl | decide)) (fun h => h.elim (fun h => absurd h.2 (by first | exact gz_ne rfl | decide)) (fun h => absurd h.2 (by first | exact gz_ne rfl | decide))))))
  have t33 := gz_hi ((g23 41 (Int.toNat a1)).resolve_left (fun h => h.elim (fun h => absurd h.1 (by first | exact gz_ne rfl | decide)) (fun h => h.elim (fun h => absurd h.1 (by first | exact gz_ne rfl | decide)) (fun h => h.elim (fun h => absurd h.1 (by first | exact gz_ne rfl | decide)) (fun h => absurd h.1 (by first | exact gz_ne rfl | decide))))))
  have t34 := gz_hi ((g23 41 (Int.toNat (a1 + 1))).resolve_left (fun h => h.elim (fun h => absurd h.1 (by first | exact gz_ne rfl | decide)) (fun h => h.elim (fun h => absurd h.1 (by first | exact gz_ne rfl | decide)) (fun h => h.elim (fun h => absurd h.1 (by first | exact gz_ne rfl | decide)) (fun h => absurd h.1 (by first | exact gz_ne rfl | decide))))))
  have KLT_I26 : gc_LT I26 := (gz_sh q23).2.2.1
  have KRS_I26 := gc_row_fr KRS_I10 (fun k => (g23 41 k).resolve_left (fun h => h.elim (fun h => absurd h.1 (by first | exact gz_ne rfl | decide)) (fun h => h.elim (fun h => absurd h.1 (by first | exact gz_ne rfl | decide)) (fun h => h.elim (fun h => absurd h.1 (by first | exact gz_ne rfl | decide)) (fun h => absurd h.1 (by first | exact gz_ne rfl | decide))))))
  have KPK_I26 := gc_PKs_fr KPK_I10 ((g23 1 17).resolve_left (fun h => h.elim (fun h => absurd h.2 (by first | exact gz_ne rfl | decide)) (fun h => h.elim (fun h => absurd h.2 (by first | exact gz_ne rfl | decide)) (fun h => h.elim (fun h => absurd h.2 (by first | exact gz_ne rfl | decide)) (fun h => absurd h.2 (by first | exact gz_ne rfl | decide)))))) (fun k => (g23 20 k).resolve_left (fun h => h.elim (fun h => absurd h.1 (by first | exact gz_ne rfl | decide)) (fun h => h.elim (fun h => absurd h.1 (by first | exact gz_ne rfl | decide)) (fun h => h.elim (fun h => absurd h.1 (by first | exact gz_ne rfl | decide)) (fun h => absurd h.1 (by first | exact gz_ne rfl | decide))))))
  have KTK_I26 : gc_TK I26 := And.intro V23_0 (And.intro V23_1 (And.intro V23_2 (And.intro V23_3 V23_4)))
  clear V23_0 V23_1 V23_2 V23_3 V23_4
  have A39 := gc_AT_nx e7_12 (gz_sh q23).2.2.2
  have t40 := gz_hi (gc_AT_l A39)
  refine gv_callV hD rfl (As := []) (st := []) rfl (gz_sh B_23) S_23 rfl (gc_lV6 hws rfl) (Nat.le_of_ble_eq_true rfl) (gz_Ev_mono (d := 2) (by decide) E23) ?_
  show gv_X _ _ (128, [(0, .inr (.inr (some 39)))], [], sh, gc_h sh I26 J27 A)
  refine gv_run 1 true hD (pcₚ := 129) (lvₚ := [(0, .inr (.inr (some 39)))]) (stₚ := [.inl 1]) (hₚ := gc_h sh I26 J27 A) (C := (True ∧ True)) rfl ⟨trivial, trivial⟩ ?_
  exact gv_zret hD rfl (by (/-5-/first | omega | (simp only [gz_hd] at *; omega))) ⟨I26, J27, rfl, hI26, FI26, FJ27, KLT_I26, KTK_I26, KRS_I26, (gc_RC_ctx KRC_I (by (/-6-/first | omega | (simp only [gz_hd] at *; omega))) (fun j h1 h2 h3 => (FI26 41 j).resolve_left (by (/-7-/first | omega | (simp only [gz_hd] at *; omega)))) (by (/-8-/first | (have o1 := gz_sh e0_12; have o2 := gz_sh e1_12; have o3 := gz_sh e5_12; have o4 := gz_sh q23; have o5 := gz_sh t33; have o6 := gz_sh t34; omega) | (simp only [gz_hd] at *; omega)))), ⟨_, rfl, by (/-9-/first | omega | (simp only [gz_hd] at *; omega)), by (/-10-/first | omega | (simp only [gz_hd] at *; omega)), by (/-11-/first | (have o1 := gz_sh e11_12; have o2 := gz_sh q23; omega) | (simp only [gz_hd] at *; omega)), by (/-12-/first | (have o1 := gz_sh e4_12; have o2 := gz_sh q23; have o3 := gz_sh t25; omega) | (simp only [gz_hd] at *; omega)), by (/-13-/first | (and_intros; (omega); (have o1 := gz_sh e11_12; have o2 := gz_sh e3_12; have o3 := gz_sh e4_12; have o4 := gz_sh e5_12; have o5 := gz_sh q23; have o6 := gz_sh t25; have o7 := gz_sh t29; omega)) | (simp only [gz_hd] at *; omega)), KPK_I26, (Or.inl ⟨by (/-14-/first | omega | (simp only [gz_hd] at *; omega)), by rw [e8_12]; exact ⟨by (/-15-/first | (have o1 := gz_sh e3_12; have o2 := gz_sh f4; have o3 := gz_sh t22; omega) | (simp only [gz_hd] at *; omega)), A39, by (/-16-/first | (have o1 := gz_sh e10_12; have o2 := gz_sh t31; omega) | (simp only [gz_hd] at *; omega)), gs_itc_kp e9_12 (gc_PKs_fr gc_PKs_rf ((g23 1 17).resolve_left (by (/-17-/first | omega | (simp only [gz_hd] at *; omega)))) (fun k => ((g23 20 k).resolve_left (by (/-18-/first | omega | (simp only [gz_hd] at *; omega)))))) ((g23 41 (Int.toNat a1)).resolve_left (by (/-19-/first | omega | (simp only [gz_hd] at *; omega)))) ((g23 41 ((Int.toNat a1) + 1)).resolve_left (by (/-20-/first | omega | (simp only [gz_hd] at *; omega)))) ((g23 41 ((Int.toNat a1) + 2)).resolve_left (by (/-21-/first | omega | (simp only [gz_hd] at *; omega))))⟩⟩)⟩⟩
set_option maxHeartbeats 8000000 in
set_option maxRecDepth 100000 in
theorem d_X6_readContext_p {ws0 : List Cond} {tb : String → gz_T} (hws : gc_Ws ws0) (htb : gc_tbs tb) (sh : gz_Sh) (ro : Nat → Nat) (I : gr_I) (J : gr_J) (A : gc_A) (hI : gc_Inv ro I) (t : Nat) (B : Int) (β : Int → Int) (η : Int) (p9 : Int) (Ir : gr_I) (Jr : gr_J) (a1 : Int) (hb : gc_Base sh ro A) (h_t : gc_isTongue sh ro A t) (G_t : 144 ≤ t) (ha1 : 0 ≤ a1 ∧ a1 ≤ 22) (x0 : B ≤ 1280 ∧ I 1 17 + I 23 1 ≤ B + I 23 5) (x1 : (a1 = 0 ∨ a1 = 7 ∨ a1 = 10 ∨ a1 = 13 ∨ a1 = 16 ∨ a1 = 19 ∨ a1 = 22)) (x2 : gc_AT β η p9 23 I J) (x3 : 0 ≤ p9) (x4 : I 1 18 = 0) (x5 : I (t + 7) 1 = Ir 15 (Int.toNat (Ir 0 6))) (x6 : gs_NA (I (t + 7) 1) (J (t + 8)) (fun k => Jr 22 (Int.toNat (16 * Ir 0 6 + (k : Int))))) (x7 : gs_MA Ir I t) (x8 : I 39 2 = (t : Int)) (KLT_I : gc_LT I) (KTK_I : gc_TK I) (KRS_I : gc_row 41 25 gc_fS I) (KRC_I : gc_RC I) : ∃ r hₚ, gz_Ev ws0 tb 4 (yX6_readContext, cX6_readContext, 2, (some .boolean)) [.inr (.inr (some 39)), .inl a1] sh (gc_h sh I J A) r sh hₚ 0 0 ∧ (∃ (Iₚ : gr_I) (Jₚ : gr_J), hₚ = gc_h sh Iₚ Jₚ A ∧ gc_Inv ro Iₚ ∧ (∀ q j : Nat, ((q = 39 ∧ j = 3) ∨ (q = 39 ∧ j = 4) ∨ (q = 23 ∧ j = 5) ∨ (q = 23 ∧ j = 6) ∨ (q = 23 ∧ j = 7) ∨ (q = 23 ∧ j = 8) ∨ (q = 1 ∧ j = 17) ∨ (q = 1 ∧ j = 18) ∨ q = 20 ∨ (q = 41 ∧ j = (Int.toNat a1)) ∨ (q = 41 ∧ j = (Int.toNat (a1 + 1))) ∨ (q = 41 ∧ j = (Int.toNat (a1 + 2)))) ∨ Iₚ q j = I q j) ∧ (∀ q j : Nat, ((q = 23 ∧ j = 9)) ∨ Jₚ q j = J q j) ∧ gc_LT Iₚ ∧ gc_TK Iₚ ∧ gc_row 41 25 gc_fS Iₚ ∧ gc_RC Iₚ ∧ (∃ z : Int, r = some (.inl z) ∧ 0 ≤ z ∧ z ≤ 1 ∧ (Iₚ 23 1 = I 23 1) ∧ (I 23 5 ≤ Iₚ 23 5) ∧ (B ≤ 1280 ∧ Iₚ 1 17 + Iₚ 23 1 ≤ B + Iₚ 23 5) ∧ (gc_PKs I Iₚ) ∧ (gs_Or z (0 ≤ (gs_ctx β η Ir Jr 1 p9) ∧ gc_AT β η (gs_ctx β η Ir Jr 1 p9) 23 Iₚ Jₚ ∧ Iₚ 1 18 = 0 ∧ gs_itc I Iₚ t (Iₚ 41) (Int.toNat a1) (gs_ti β η Ir Jr p9)) ((gs_ctx β η Ir Jr 1 p9) < 0 ∧ Iₚ 39 4 = -1 - (gs_ctx β η Ir Jr 1 p9))))) := by
  have FI : ∀ q j : Nat, ((q = 39 ∧ j = 3) ∨ (q = 39 ∧ j = 4) ∨ (q = 23 ∧ j = 5) ∨ (q = 23 ∧ j = 6) ∨ (q = 23 ∧ j = 7) ∨ (q = 23 ∧ j = 8) ∨ (q = 1 ∧ j = 17) ∨ (q = 1 ∧ j = 18) ∨ q = 20 ∨ (q = 41 ∧ j = (Int.toNat a1)) ∨ (q = 41 ∧ j = (Int.toNat (a1 + 1))) ∨ (q = 41 ∧ j = (Int.toNat (a1 + 2)))) ∨ I q j = I q j := fun _ _ => Or.inr rfl
  have FJ : ∀ q j : Nat, ((q = 23 ∧ j = 9)) ∨ J q j = J q j := fun _ _ => Or.inr rfl
  have A_39_1 : A 39 1 = some 23 := gc_bA_39_1 hb
  have A_39_10 : A 39 10 = some 41 := gc_bA_39_10 hb
  have B_23 := gz_hi (show 23 < 1000000 from by decide)
  have B_39 := gz_hi (show 39 < 1000000 from by decide)
  have B_41 := gz_hi (show 41 < 1000000 from by decide)
  have R_1 := gz_hi (show ro 1 = 22 from gc_bR_1 hb)
  have R_23 := gz_hi (show ro 23 = 3 from gc_bR_23 hb)
  have R_39 := gz_hi (show ro 39 = 42 from gc_bR_39 hb)
  have R_41 := gz_hi (show ro 41 = 0 from gc_bR_41 hb)
  have S_23 : sh[23]? = some (false, 9, 10) := gc_bS_23 hb
  have S_39 : sh[39]? = some (false, 6, 19) := gc_bS_39 hb
  have S_41 : sh[41]? = some (true, 1, 25) := gc_bS_41 hb
  obtain ⟨S_t, R_t, B_t, A_t_0, h_t_1, A_t_1, h_t_3, A_t_2, S_t_5, R_t_5, B_t_5, A_t_3, S_t_6, R_t_6, B_t_6, A_t_4, h_t_7, A_t_5, S_t_9, R_t_9, B_t_9, A_t_7, S_t_10, R_t_10, B_t_10, A_t_8, h_t_11, A_t_9, S_t_13, R_t_13, B_t_13, A_t_10, S_t_14, R_t_14, B_t_14, A_t_12, S_t_15, R_t_15, B_t_15, A_t_14, S_t_16, R_t_16, B_t_16, A_t_15, h_t_17⟩ := id h_t
  replace R_t := gz_hi R_t
  replace B_t := gz_hi B_t
  replace R_t_5 := gz_hi R_t_5
  replace B_t_5 := gz_hi B_t_5
  replace R_t_6 := gz_hi R_t_6
  replace B_t_6 := gz_hi B_t_6
  replace R_t_9 := gz_hi R_t_9
  replace B_t_9 := gz_hi B_t_9
  replace R_t_10 := gz_hi R_t_10
  replace B_t_10 := gz_hi B_t_10
  replace R_t_13 := gz_hi R_t_13
  replace B_t_13 := gz_hi B_t_13
  replace R_t_14 := gz_hi R_t_14
  replace B_t_14 := gz_hi B_t_14
  replace R_t_15 := gz_hi R_t_15
  replace B_t_15 := gz_hi B_t_15
  replace R_t_16 := gz_hi R_t_16
  replace B_t_16 := gz_hi B_t_16
  obtain ⟨S_t_1, R_t_1, B_t_1, A_t_1_0, S_t_1_1, R_t_1_1, B_t_1_1, Q0_t_1, Q1_t_1, Q2_t_1⟩ := id h_t_1
  replace R_t_1 := gz_hi R_t_1
  replace B_t_1 := gz_hi B_t_1
  replace R_t_1_1 := gz_hi R_t_1_1
  replace B_t_1_1 := gz_hi B_t_1_1
  obtain ⟨S_t_3, R_t_3, B_t_3, A_t_3_0, S_t_3_1, R_t_3_1, B_t_3_1, Q0_t_3, Q1_t_3, Q2_t_3⟩ := id h_t_3
  replace R_t_3 := gz_hi R_t_3
  replace B_t_3 := gz_hi B_t_3
  replace R_t_3_1 := gz_hi R_t_3_1
  replace B_t_3_1 := gz_hi B_t_3_1
  obtain ⟨S_t_7, R_t_7, B_t_7, A_t_7_0, S_t_7_1, R_t_7_1, B_t_7_1, Q0_t_7, Q1_t_7, Q2_t_7⟩ := id h_t_7
  replace R_t_7 := gz_hi R_t_7
  replace B_t_7 := gz_hi B_t_7
  replace R_t_7_1 := gz_hi R_t_7_1
  replace B_t_7_1 := gz_hi B_t_7_1
  obtain ⟨S_t_11, R_t_11, B_t_11, A_t_11_0, S_t_11_1, R_t_11_1, B_t_11_1, Q0_t_11, Q1_t_11, Q2_t_11⟩ := id h_t_11
  replace R_t_11 := gz_hi R_t_11
  replace B_t_11 := gz_hi B_t_11
  replace R_t_11_1 := gz_hi R_t_11_1
  replace B_t_11_1 := gz_hi B_t_11_1
  obtain ⟨S_t_17, R_t_17, B_t_17, A_t_17_0, S_20, R_20, B_20, A_t_17_1, S_t_17_1, R_t_17_1, B_t_17_1, A_t_17_2, S_t_17_2, R_t_17_2, B_t_17_2, A_t_17_3, S_t_17_3, R_t_17_3, B_t_17_3, A_t_17_4, S_t_17_4, R_t_17_4, B_t_17_4, A_t_17_5, S_t_17_5, R_t_17_5, B_t_17_5, S_t_17_6, R_t_17_6, B_t_17_6, S_t_17_7, R_t_17_7, B_t_17_7⟩ := id h_t_17
  replace R_t_17 := gz_hi R_t_17
  replace B_t_17 := gz_hi B_t_17
  replace R_20 := gz_hi R_20
  replace B_20 := gz_hi B_20
  replace R_t_17_1 := gz_hi R_t_17_1
  replace B_t_17_1 := gz_hi B_t_17_1
  replace R_t_17_2 := gz_hi R_t_17_2
  replace B_t_17_2 := gz_hi B_t_17_2
  replace R_t_17_3 := gz_hi R_t_17_3
  replace B_t_17_3 := gz_hi B_t_17_3
  replace R_t_17_4 := gz_hi R_t_17_4
  replace B_t_17_4 := gz_hi B_t_17_4
  replace R_t_17_5 := gz_hi R_t_17_5
  replace B_t_17_5 := gz_hi B_t_17_5
  replace R_t_17_6 := gz_hi R_t_17_6
  replace B_t_17_6 := gz_hi B_t_17_6
  replace R_t_17_7 := gz_hi R_t_17_7
  replace B_t_17_7 := gz_hi B_t_17_7
  have hD : gv_D (gc_E6 ws0 tb 3 (yX6_readContext, cX6_readContext, 2, (some .boolean)) kX6_readContext) := gq_of oX6_readContext
  refine gc_ev6 (d := 3) (l := kX6_readContext) (Po := fun r hₚ => (∃ (Iₚ : gr_I) (Jₚ : gr_J), hₚ = gc_h sh Iₚ Jₚ A ∧ gc_Inv ro Iₚ ∧ (∀ q j : Nat, ((q = 39 ∧ j = 3) ∨ (q = 39 ∧ j = 4) ∨ (q = 23 ∧ j = 5) ∨ (q = 23 ∧ j = 6) ∨ (q = 23 ∧ j = 7) ∨ (q = 23 ∧ j = 8) ∨ (q = 1 ∧ j = 17) ∨ (q = 1 ∧ j = 18) ∨ q = 20 ∨ (q = 41 ∧ j = (Int.toNat a1)) ∨ (q = 41 ∧ j = (Int.toNat (a1 + 1))) ∨ (q = 41 ∧ j = (Int.toNat (a1 + 2)))) ∨ Iₚ q j = I q j) ∧ (∀ q j : Nat, ((q = 23 ∧ j = 9)) ∨ Jₚ q j = J q j) ∧ gc_LT Iₚ ∧ gc_TK Iₚ ∧ gc_row 41 25 gc_fS Iₚ ∧ gc_RC Iₚ ∧ (∃ z : Int, r = some (.inl z) ∧ 0 ≤ z ∧ z ≤ 1 ∧ (Iₚ 23 1 = I 23 1) ∧ (I 23 5 ≤ Iₚ 23 5) ∧ (B ≤ 1280 ∧ Iₚ 1 17 + Iₚ 23 1 ≤ B + Iₚ 23 5) ∧ (gc_PKs I Iₚ) ∧ (gs_Or z (0 ≤ (gs_ctx β η Ir Jr 1 p9) ∧ gc_AT β η (gs_ctx β η Ir Jr 1 p9) 23 Iₚ Jₚ ∧ Iₚ 1 18 = 0 ∧ gs_itc I Iₚ t (Iₚ 41) (Int.toNat a1) (gs_ti β η Ir Jr p9)) ((gs_ctx β η Ir Jr 1 p9) < 0 ∧ Iₚ 39 4 = -1 - (gs_ctx β η Ir Jr 1 p9)))))) htb rfl (Nat.le_of_ble_eq_true rfl) ?_
  have N_t_7__41 := gz_hi (show ¬ ((t + 7) = 41) from by (/-0-/first | (have o1 := gz_sh B_t; have o2 := gz_sh B_t_10; have o3 := gz_sh B_t_13; have o4 := gz_sh B_t_14; have o5 := gz_sh B_t_15; have o6 := gz_sh B_t_16; have o7 := gz_sh B_t_17; have o8 := gz_sh B_t_17_1; have o9 := gz_sh B_t_17_2; have o10 := gz_sh B_t_17_3; have o11 := gz_sh B_t_17_4; have o12 := gz_sh B_t_17_5; have o13 := gz_sh B_t_17_6; have o14 := gz_sh B_t_17_7; have o15 := gz_sh B_t_5; have o16 := gz_sh B_t_6; have o17 := gz_sh B_t_9; omega) | (simp only [gz_hd] at *; omega)))
  have N_t_7__20 := gz_hi (show ¬ ((t + 7) = 20) from by (/-1-/first | (have o1 := gz_sh B_t; have o2 := gz_sh B_t_10; have o3 := gz_sh B_t_13; have o4 := gz_sh B_t_14; have o5 := gz_sh B_t_15; have o6 := gz_sh B_t_16; have o7 := gz_sh B_t_17; have o8 := gz_sh B_t_17_1; have o9 := gz_sh B_t_17_2; have o10 := gz_sh B_t_17_3; have o11 := gz_sh B_t_17_4; have o12 := gz_sh B_t_17_5; have o13 := gz_sh B_t_17_6; have o14 := gz_sh B_t_17_7; have o15 := gz_sh B_t_5; have o16 := gz_sh B_t_6; have o17 := gz_sh B_t_9; omega) | (simp only [gz_hd] at *; omega)))
  have KPK_I : gc_PKs I I := gc_PKs_rf
  have t1 := gz_hi (gc_TK_mo KTK_I)
  have f3 := gz_hi ((gc_b_3_5 hI (gz_sh R_23)))
  have f4 := gz_hi ((gc_b_3_6 hI (gz_sh R_23)))
  have f5 := gz_hi ((gc_b_3_7 hI (gz_sh R_23)))
  have f6 := gz_hi ((gc_b_22_17 hI (gz_sh R_1)))
  have f7 := gz_hi ((show 0 ≤ I (t + 7) 1 ∧ I (t + 7) 1 ≤ 16 from gc_in2 hI (gz_sh R_t_7) rfl rfl rfl))
  have tAT := gc_AT_l x2
  have L121 : ∀ (I10 : gr_I) (J11 : gr_J) (p_12 : Int), gc_Inv ro I10 → (∀ q j : Nat, ((q = 39 ∧ j = 3) ∨ (q = 39 ∧ j = 4) ∨ (q = 23 ∧ j = 5) ∨ (q = 23 ∧ j = 6) ∨ (q = 23 ∧ j = 7) ∨ (q = 23 ∧ j = 8) ∨ (q = 1 ∧ j = 17) ∨ (q = 1 ∧ j = 18) ∨ q = 20 ∨ (q = 41 ∧ j = (Int.toNat a1)) ∨ (q = 41 ∧ j = (Int.toNat (a1 + 1))) ∨ (q = 41 ∧ j = (Int.toNat (a1 + 2)))) ∨ I10 q j = I q j) → (∀ q j : Nat, ((q = 23 ∧ j = 9)) ∨ J11 q j = J q j) → gc_LT I10 → gc_TK I10 → gc_row 41 25 gc_fS I10 → gc_PKs I I10 → ((I10 41 (Int.toNat a1) = 1 → I10 41 (Int.toNat (a1 + 1)) ≤ 15) ∧ (I 23 7 = 1 ∨ I 23 7 = 3 ∨ I 23 7 = 35) ∧ (I10 23 7 = I 23 7) ∧ (I10 23 6 = I 23 6) ∧ (I10 23 5 = I 23 5) ∧ (I10 1 17 ≤ I 1 17 ∨ I10 1 17 ≤ I 1 17 + I 23 6 - I 23 5) ∧ (0 ≤ p_12) ∧ (I10 1 18 = 0) ∧ (I10 23 1 = I 23 1) ∧ (I 23 5 ≤ I10 23 5) ∧ (I10 39 2 = (t : Int))) → (gc_AT β η p_12 23 I10 J11) → ((gs_ctx β η Ir Jr 1 p9) = gs_X β η p_12) → (gs_itc I I10 t (I10 41) (Int.toNat a1) (gs_ti β η Ir Jr p9)) → gv_X (gc_E6 ws0 tb 3 (yX6_readContext, cX6_readContext, 2, (some .boolean)) kX6_readContext) (gv_Q cX6_readContext (some .boolean) sh (fun r hₚ => (∃ (Iₚ : gr_I) (Jₚ : gr_J), hₚ = gc_h sh Iₚ Jₚ A ∧ gc_Inv ro Iₚ ∧ (∀ q j : Nat, ((q = 39 ∧ j = 3) ∨ (q = 39 ∧ j = 4) ∨ (q = 23 ∧ j = 5) ∨ (q = 23 ∧ j = 6) ∨ (q = 23 ∧ j = 7) ∨ (q = 23 ∧ j = 8) ∨ (q = 1 ∧ j = 17) ∨ (q = 1 ∧ j = 18) ∨ q = 20 ∨ (q = 41 ∧ j = (Int.toNat a1)) ∨ (q = 41 ∧ j = (Int.toNat (a1 + 1))) ∨ (q = 41 ∧ j = (Int.toNat (a1 + 2)))) ∨ Iₚ q j = I q j) ∧ (∀ q j : Nat, ((q = 23 ∧ j = 9)) ∨ Jₚ q j = J q j) ∧ gc_LT Iₚ ∧ gc_TK Iₚ ∧ gc_row 41 25 gc_fS Iₚ ∧ gc_RC Iₚ ∧ (∃ z : Int, r = some (.inl z) ∧ 0 ≤ z ∧ z ≤ 1 ∧ (Iₚ 23 1 = I 23 1) ∧ (I 23 5 ≤ Iₚ 23 5) ∧ (B ≤ 1280 ∧ Iₚ 1 17 + Iₚ 23 1 ≤ B + Iₚ 23 5) ∧ (gc_PKs I Iₚ) ∧ (gs_Or z (0 ≤ (gs_ctx β η Ir Jr 1 p9) ∧ gc_AT β η (gs_ctx β η Ir Jr 1 p9) 23 Iₚ Jₚ ∧ Iₚ 1 18 = 0 ∧ gs_itc I Iₚ t (Iₚ 41) (Int.toNat a1) (gs_ti β η Ir Jr p9)) ((gs_ctx β η Ir Jr 1 p9) < 0 ∧ Iₚ 39 4 = -1 - (gs_ctx β η Ir Jr 1 p9))))))) (121, [(0, .inr (.inr (some 39)))], [], sh, gc_h sh I10 J11 A) := d_X6_readContext_p_L121 (ws0 := ws0) (tb := tb) hws htb sh ro I J A hI t B β η p9 Ir Jr a1 hb h_t G_t ha1 x0 x1 x2 x3 x4 x5 x6 x7 x8 KLT_I KTK_I KRS_I KRC_I
  refine gv_run 1 true hD (pcₚ := 1) (lvₚ := [(0, .inr (.inr (some 39))), (1, .inl a1)]) (stₚ := [.inr (.inr (some 39))]) (hₚ := gc_h sh I J A) (C := (True ∧ True)) rfl ⟨trivial, trivial⟩ ?_
  refine gv_get hD rfl rfl S_39 ⟨by decide, (gz_sh B_39)⟩ (gc_hA S_39 rfl A_39_1) ?_
  show gv_X _ _ (4, [(0, .inr (.inr (some 39))), (1, .inl a1)], [.inr (.inr (some 23))], sh, gc_h sh I J A)
  refine gv_get hD rfl rfl S_23 ⟨by decide, (gz_sh B_23)⟩ (gc_hI S_23 rfl) ?_
  show gv_X _ _ (7, [(0, .inr (.inr (some 39))), (1, .inl a1)], [.inl (I 23 7)], sh, gc_h sh I J A)
  refine gv_run 1 true hD (pcₚ := 9) (lvₚ := [(0, .inr (.inr (some 39))), (1, .inl a1)]) (stₚ := [.inl 35, .inl (I 23 7)]) (hₚ := gc_h sh I J A) (C := (True ∧ True)) rfl ⟨trivial, trivial⟩ ?_
  refine gv_icmp_ne (t := 22) hD rfl rfl ⟨⟨by (/-22-/first | (have o1 := gz_sh f5; omega) | (simp only [gz_hd] at *; omega)), by (/-23-/first | (have o1 := gz_sh f5; omega) | (simp only [gz_hd] at *; omega))⟩, ⟨by (/-24-/first | omega | (simp only [gz_hd] at *; omega)), by (/-25-/first | omega | (simp only [gz_hd] at *; omega))⟩⟩ (fun c42 => ?_) (fun c42 => ?_)
  · show gv_X _ _ (22, [(0, .inr (.inr (some 39))), (1, .inl a1)], [], sh, gc_h sh I J A)
    refine gv_run 1 true hD (pcₚ := 23) (lvₚ := [(0, .inr (.inr (some 39))), (1, .inl a1)]) (stₚ := [.inr (.inr (some 39))]) (hₚ := gc_h sh I J A) (C := (True ∧ True)) rfl ⟨trivial, trivial⟩ ?_
    refine gv_get hD rfl rfl S_39 ⟨by decide, (gz_sh B_39)⟩ (gc_hA S_39 rfl A_39_1) ?_
    show gv_X _ _ (26, [(0, .inr (.inr (some 39))), (1, .inl a1)], [.inr (.inr (some 23))], sh, gc_h sh I J A)
    refine gv_get hD rfl rfl S_23 ⟨by decide, (gz_sh B_23)⟩ (gc_hI S_23 rfl) ?_
    show gv_X _ _ (29, [(0, .inr (.inr (some 39))), (1, .inl a1)], [.inl (I 23 7)], sh, gc_h sh I J A)
    refine gv_run 1 true hD (pcₚ := 30) (lvₚ := [(0, .inr (.inr (some 39))), (1, .inl a1)]) (stₚ := [.inl 3, .inl (I 23 7)]) (hₚ := gc_h sh I J A) (C := (True ∧ True)) rfl ⟨trivial, trivial⟩ ?_
    refine gv_icmp_ne (t := 70) hD rfl rfl ⟨⟨by (/-26-/first | (have o1 := gz_sh f5; omega) | (simp only [gz_hd] at *; omega)), by (/-27-/first | (have o1 := gz_sh f5; omega) | (simp only [gz_hd] at *; omega))⟩, ⟨by (/-28-/first | omega | (simp only [gz_hd] at *; omega)), by (/-29-/first | omega | (simp only [gz_hd] at *; omega))⟩⟩ (fun c44 => ?_) (fun c44 => ?_)
    · show gv_X _ _ (70, [(0, .inr (.inr (some 39))), (1, .inl a1)], [], sh, gc_h sh I J A)
      refine gv_run 2 true hD (pcₚ := 72) (lvₚ := [(0, .inr (.inr (some 39))), (1, .inl a1)]) (stₚ := [.inr (.inr (some 39)), .inr (.inr (some 39))]) (hₚ := gc_h sh I J A) (C := ((True ∧ True) ∧ True)) rfl ⟨⟨trivial, trivial⟩, trivial⟩ ?_
      refine gv_get hD rfl rfl S_39 ⟨by decide, (gz_sh B_39)⟩ (gc_h5 (t := t) S_39 rfl (by (/-30-/first | omega | (simp only [gz_hd] at *; omega)))) ?_
      show gv_X _ _ (75, [(0, .inr (.inr (some 39))), (1, .inl a1)], [.inr (.inr (some t)), .inr (.inr (some 39))], sh, gc_h sh I J A)
      refine gv_get hD rfl rfl S_t ⟨by decide, (gz_sh B_t)⟩ (gc_hA S_t rfl A_t_4) ?_
      show gv_X _ _ (78, [(0, .inr (.inr (some 39))), (1, .inl a1)], [.inr (.inr (some (t + 7))), .inr (.inr (some 39))], sh, gc_h sh I J A)
      obtain ⟨r45, h45, E45, P45⟩ := d_X6_needKnown_p (ws0 := ws0) (tb := tb) hws htb sh ro I J A hI  16 7 β η p9 (t + 7) hb h_t_7   x2 (by (/-31-/first | omega | (simp only [gz_hd] at *; omega))) 
      obtain ⟨I46, J47, rfl, hI46, g45, k45, ⟨z45, rfl, q45⟩⟩ := P45
      replace q45 := gz_hi q45
      have FI46 := gc_frc (W := fun q j => (q = 39 ∧ j = 3) ∨ (q = 39 ∧ j = 4) ∨ (q = 23 ∧ j = 5) ∨ (q = 23 ∧ j = 6) ∨ (q = 23 ∧ j = 7) ∨ (q = 23 ∧ j = 8) ∨ (q = 1 ∧ j = 17) ∨ (q = 1 ∧ j = 18) ∨ q = 20 ∨ (q = 41 ∧ j = (Int.toNat a1)) ∨ (q = 41 ∧ j = (Int.toNat (a1 + 1))) ∨ (q = 41 ∧ j = (Int.toNat (a1 + 2)))) (V := fun q j => (q = 39 ∧ j = 3) ∨ (q = 39 ∧ j = 4)) FI (fun q j h => (h.elim (fun h => (Or.inl h)) (fun h => (Or.inr (Or.inl h))))) g45
      have t48 := gz_hi ((g45 23 1).resolve_left (fun h => h.elim (fun h => absurd h.2 (by first | exact gz_ne rfl | decide)) (fun h => absurd h.2 (by first | exact gz_ne rfl | decide))))
      have t49 := gz_hi ((g45 23 5).resolve_left (fun h => h.elim (fun h => absurd h.2 (by first | exact gz_ne rfl | decide)) (fun h => absurd h.2 (by first | exact gz_ne rfl | decide))))
      have t50 := gz_hi ((g45 23 6).resolve_left (fun h => h.elim (fun h => absurd h.2 (by first | exact gz_ne rfl | decide)) (fun h => absurd h.2 (by first | exact gz_ne rfl | decide))))
      have t51 := gz_hi ((g45 23 7).resolve_left (fun h => h.elim (fun h => absurd h.2 (by first | exact gz_ne rfl | decide)) (fun h => absurd h.2 (by first | exact gz_ne rfl | decide))))
      have t52 := gz_hi ((g45 1 17).resolve_left (fun h => h.elim (fun h => absurd h.2 (by first | exact gz_ne rfl | decide)) (fun h => absurd h.2 (by first | exact gz_ne rfl | decide))))
      have t53 := gz_hi ((g45 (t + 7) 1).resolve_left (fun h => h.elim (fun h => absurd h.2 (by first | exact gz_ne rfl | decide)) (fun h => absurd h.2 (by first | exact gz_ne rfl | decide))))
      have t54 := gz_hi ((g45 1 18).resolve_left (fun h => h.elim (fun h => absurd h.2 (by first | exact gz_ne rfl | decide)) (fun h => absurd h.2 (by first | exact gz_ne rfl | decide))))
      have t55 := gz_hi ((g45 39 2).resolve_left (fun h => h.elim (fun h => absurd h.2 (by first | exact gz_ne rfl | decide)) (fun h => absurd h.2 (by first | exact gz_ne rfl | decide))))
      obtain rfl : J = J47 := funext fun q => funext fun j => ((k45 q j).resolve_left id).symm
      have KLT_I46 := gc_LT_fr KLT_I ((g45 23 5).resolve_left (fun h => h.elim (fun h => absurd h.2 (by first | exact gz_ne rfl | decide)) (fun h => absurd h.2 (by first | exact gz_ne rfl | decide)))) ((g45 23 6).resolve_left (fun h => h.elim (fun h => absurd h.2 (by first | exact gz_ne rfl | decide)) (fun h => absurd h.2 (by first | exact gz_ne rfl | decide)))) ((g45 23 7).resolve_left (fun h => h.elim (fun h => absurd h.2 (by first | exact gz_ne rfl | decide)) (fun h => absurd h.2 (by first | exact gz_ne rfl | decide)))) (fun k => (g45 24 k).resolve_left (fun h => h.elim (fun h => absurd h.1 (by first | exact gz_ne rfl | decide)) (fun h => absurd h.1 (by first | exact gz_ne rfl | decide))))
      have KTK_I46 := gc_TK_fr KTK_I ((g45 23 1).resolve_left (fun h => h.elim (fun h => absurd h.2 (by first | exact gz_ne rfl | decide)) (fun h => absurd h.2 (by first | exact gz_ne rfl | decide)))) ((g45 23 5).resolve_left (fun h => h.elim (fun h => absurd h.2 (by first | exact gz_ne rfl | decide)) (fun h => absurd h.2 (by first | exact gz_ne rfl | decide)))) ((g45 23 6).resolve_left (fun h => h.elim (fun h => absurd h.2 (by first | exact gz_ne rfl | decide)) (fun h => absurd h.2 (by first | exact gz_ne rfl | decide)))) ((g45 23 7).resolve_left (fun h => h.elim (fun h => absurd h.2 (by first | exact gz_ne rfl | decide)) (fun h => absurd h.2 (by first | exact gz_ne rfl | decide))))
      have KRS_I46 := gc_row_fr KRS_I (fun k => (g45 41 k).resolve_left (fun h => h.elim (fun h => absurd h.1 (by first | exact gz_ne rfl | decide)) (fun h => absurd h.1 (by first | exact gz_ne rfl | decide))))
      have KRC_I46 := gc_RC_fr KRC_I (fun k => (g45 41 k).resolve_left (fun h => h.elim (fun h => absurd h.1 (by first | exact gz_ne rfl | decide)) (fun h => absurd h.1 (by first | exact gz_ne rfl | decide))))
      have KPK_I46 := gc_PKs_fr KPK_I ((g45 1 17).resolve_left (fun h => h.elim (fun h => absurd h.2 (by first | exact gz_ne rfl | decide)) (fun h => absurd h.2 (by first | exact gz_ne rfl | decide)))) (fun k => (g45 20 k).resolve_left (fun h => h.elim (fun h => absurd h.1 (by first | exact gz_ne rfl | decide)) (fun h => absurd h.1 (by first | exact gz_ne rfl | decide))))
      have A58 := gc_AT_I x2 ((g45 23 1).resolve_left (fun h => h.elim (fun h => absurd h.2 (by first | exact gz_ne rfl | decide)) (fun h => absurd h.2 (by first | exact gz_ne rfl | decide)))) ((g45 23 5).resolve_left (fun h => h.elim (fun h => absurd h.2 (by first | exact gz_ne rfl | decide)) (fun h => absurd h.2 (by first | exact gz_ne rfl | decide)))) ((g45 23 6).resolve_left (fun h => h.elim (fun h => absurd h.2 (by first | exact gz_ne rfl | decide)) (fun h => absurd h.2 (by first | exact gz_ne rfl | decide)))) ((g45 23 7).resolve_left (fun h => h.elim (fun h => absurd h.2 (by first | exact gz_ne rfl | decide)) (fun h => absurd h.2 (by first | exact gz_ne rfl | decide)))) ((g45 23 8).resolve_left (fun h => h.elim (fun h => absurd h.2 (by first | exact gz_ne rfl | decide)) (fun h => absurd h.2 (by first | exact gz_ne rfl | decide)))) (fun k => (g45 24 k).resolve_left (fun h => h.elim (fun h => absurd h.1 (by first | exact gz_ne rfl | decide)) (fun h => absurd h.1 (by first | exact gz_ne rfl | decide))))
      refine gv_callV hD rfl (As := [.inr (.inr (some (t + 7)))]) (st := []) rfl (gz_sh B_39) S_39 rfl (gc_lV6 hws rfl) (Nat.le_of_ble_eq_true rfl) (gz_Ev_mono (d := 3) (by decide) E45) ?_
      show gv_X _ _ (81, [(0, .inr (.inr (some 39))), (1, .inl a1)], [.inl z45], sh, gc_h sh I46 J A)
      refine gv_if_eq (t := 119) hD rfl rfl ⟨by (/-32-/first | (have o1 := gz_sh q45; omega) | (simp only [gz_hd] at *; omega)), by (/-33-/first | (have o1 := gz_sh q45; omega) | (simp only [gz_hd] at *; omega))⟩ (fun c60 => ?_) (fun c60 => ?_)
      · show gv_X _ _ (119, [(0, .inr (.inr (some 39))), (1, .inl a1)], [], sh, gc_h sh I46 J A)
        have u61 := gs_or0 (gz_sh q45).2.2.2 (by (/-34-/first | omega | (simp only [gz_hd] at *; omega)))
        have L45 : gs_T β η p9 = 1 → gc_fd (J ((t + 7) + 1)) (gs_M β η p9) (Int.toNat (I (t + 7) 1)) = gs_lt Jr 22 (16 * Ir 0 6) (Ir 15 (Int.toNat (Ir 0 6))) (gs_rn β η p9) := (fun h => by exact gs_NA_lt x6 x5 h)
        refine gv_run 1 true hD (pcₚ := 120) (lvₚ := [(0, .inr (.inr (some 39))), (1, .inl a1)]) (stₚ := [.inl 0]) (hₚ := gc_h sh I46 J A) (C := (True ∧ True)) rfl ⟨trivial, trivial⟩ ?_
        exact gv_zret hD rfl (by (/-35-/first | omega | (simp only [gz_hd] at *; omega))) ⟨I46, J, rfl, hI46, FI46, FJ, KLT_I46, KTK_I46, KRS_I46, KRC_I46, ⟨_, rfl, by (/-36-/first | omega | (simp only [gz_hd] at *; omega)), by (/-37-/first | omega | (simp only [gz_hd] at *; omega)), by (/-38-/first | (have o1 := gz_sh t48; omega) | (simp only [gz_hd] at *; omega)), by (/-39-/first | (have o1 := gz_sh t49; omega) | (simp only [gz_hd] at *; omega)), by (/-40-/first | (and_intros; (omega); (have o1 := gz_sh t48; have o2 := gz_sh t49; have o3 := gz_sh t52; omega)) | (simp only [gz_hd] at *; omega)), KPK_I46, (Or.inr ⟨by (/-41-/first | omega | (simp only [gz_hd] at *; omega)), by first | (exfalso; (/-42-/first | omega | (simp only [gz_hd] at *; omega))) | (unfold gs_ctx; by_cases c9 : gs_T β η p9 = 1; (have h9 := L45 c9; (repeat first | rw [if_pos (by (/-43-/first | omega | (simp only [gz_hd] at *; omega)))] | rw [if_neg (by (/-44-/first | (have o1 := gz_sh t51; omega) | (simp only [gz_hd] at *; omega)))]); exact ⟨by (/-45-/first | (have o1 := gz_sh f3; omega) | (simp only [gz_hd] at *; omega)), by (/-46-/first | omega | (simp only [gz_hd] at *; omega))⟩); (repeat first | rw [if_pos (by (/-47-/first | omega | (simp only [gz_hd] at *; omega)))] | rw [if_neg (by (/-48-/first | (have o1 := gz_sh q45; have o2 := gz_sh t51; omega) | (simp only [gz_hd] at *; omega)))]); exact ⟨by (/-49-/first | (have o1 := gz_sh f3; omega) | (simp only [gz_hd] at *; omega)), by (/-50-/first | omega | (simp only [gz_hd] at *; omega))⟩)⟩)⟩⟩
      · show gv_X _ _ (84, [(0, .inr (.inr (some 39))), (1, .inl a1)], [], sh, gc_h sh I46 J A)
        have u62 := gs_or1 (gz_sh q45).2.2.2 (by (/-51-/first | omega | (simp only [gz_hd] at *; omega)))
        have L45 : gs_T β η p9 = 1 → gc_fd (J ((t + 7) + 1)) (gs_M β η p9) (Int.toNat (I (t + 7) 1)) = gs_lt Jr 22 (16 * Ir 0 6) (Ir 15 (Int.toNat (Ir 0 6))) (gs_rn β η p9) := (fun h => by exact gs_NA_lt x6 x5 h)
        have t63 := gz_hi (L45 (by (/-52-/first | omega | (simp only [gz_hd] at *; omega))))
        refine gv_run 1 true hD (pcₚ := 85) (lvₚ := [(0, .inr (.inr (some 39))), (1, .inl a1)]) (stₚ := [.inr (.inr (some 39))]) (hₚ := gc_h sh I46 J A) (C := (True ∧ True)) rfl ⟨trivial, trivial⟩ ?_
        refine gv_get hD rfl rfl S_39 ⟨by decide, (gz_sh B_39)⟩ (gc_hA S_39 rfl A_39_10) ?_
        show gv_X _ _ (88, [(0, .inr (.inr (some 39))), (1, .inl a1)], [.inr (.inr (some 41))], sh, gc_h sh I46 J A)
        refine gv_run 2 true hD (pcₚ := 90) (lvₚ := [(0, .inr (.inr (some 39))), (1, .inl a1)]) (stₚ := [.inl 1, .inl a1, .inr (.inr (some 41))]) (hₚ := gc_h sh I46 J A) (C := ((True ∧ True) ∧ True)) rfl ⟨⟨trivial, trivial⟩, trivial⟩ ?_
        refine gv_iast hD rfl S_41 ⟨by decide, (gz_sh B_41)⟩ ⟨by (/-53-/first | omega | (simp only [gz_hd] at *; omega)), by (/-54-/first | omega | (simp only [gz_hd] at *; omega))⟩ ?_
        refine gc_st hI46 S_41 rfl (gz_sh R_41) (lo := (-2147483648)) (hi := 2147483647) rfl rfl (by (/-55-/first | omega | (simp only [gz_hd] at *; omega))) (by (/-56-/first | omega | (simp only [gz_hd] at *; omega))) (fun I64 hI64 q65 p65 => ?_)
        have FI64 := gc_frs (W := fun q j => (q = 39 ∧ j = 3) ∨ (q = 39 ∧ j = 4) ∨ (q = 23 ∧ j = 5) ∨ (q = 23 ∧ j = 6) ∨ (q = 23 ∧ j = 7) ∨ (q = 23 ∧ j = 8) ∨ (q = 1 ∧ j = 17) ∨ (q = 1 ∧ j = 18) ∨ q = 20 ∨ (q = 41 ∧ j = (Int.toNat a1)) ∨ (q = 41 ∧ j = (Int.toNat (a1 + 1))) ∨ (q = 41 ∧ j = (Int.toNat (a1 + 2)))) FI46 (Or.inr (Or.inr (Or.inr (Or.inr (Or.inr (Or.inr (Or.inr (Or.inr (Or.inr (Or.inl ⟨rfl, rfl⟩)))))))))) p65
        have t66 := gz_hi (p65 23 1 (fun h => absurd h.1 (by first | exact gz_ne rfl | decide)))
        have t67 := gz_hi (p65 23 5 (fun h => absurd h.1 (by first | exact gz_ne rfl | decide)))
        have t68 := gz_hi (p65 23 6 (fun h => absurd h.1 (by first | exact gz_ne rfl | decide)))
        have t69 := gz_hi (p65 23 7 (fun h => absurd h.1 (by first | exact gz_ne rfl | decide)))
        have t70 := gz_hi (p65 1 17 (fun h => absurd h.1 (by first | exact gz_ne rfl | decide)))
        have t71 := gz_hi (p65 (t + 7) 1 (fun h => absurd h.1 (gz_sh N_t_7__41)))
        have t72 := gz_hi (p65 1 18 (fun h => absurd h.1 (by first | exact gz_ne rfl | decide)))
        have t73 := gz_hi (p65 39 2 (fun h => absurd h.1 (by first | exact gz_ne rfl | decide)))
        have KLT_I64 := gc_LT_fr KLT_I46 (p65 23 5 (fun h => absurd h.1 (by first | exact gz_ne rfl | decide))) (p65 23 6 (fun h => absurd h.1 (by first | exact gz_ne rfl | decide))) (p65 23 7 (fun h => absurd h.1 (by first | exact gz_ne rfl | decide))) (fun k => p65 24 k (fun h => absurd h.1 (by first | exact gz_ne rfl | decide)))
        have KTK_I64 := gc_TK_fr KTK_I46 (p65 23 1 (fun h => absurd h.1 (by first | exact gz_ne rfl | decide))) (p65 23 5 (fun h => absurd h.1 (by first | exact gz_ne rfl | decide))) (p65 23 6 (fun h => absurd h.1 (by first | exact gz_ne rfl | decide))) (p65 23 7 (fun h => absurd h.1 (by first | exact gz_ne rfl | decide)))
        have KRS_I64 := gc_row_st KRS_I46 p65 q65 (by unfold gc_fS; (/-58-/first | (and_intros <;> omega) | (simp only [gz_hd] at *; omega)))
        have KPK_I64 := gc_PKs_fr KPK_I46 (p65 1 17 (fun h => absurd h.1 (by first | exact gz_ne rfl | decide))) (fun k => p65 20 k (fun h => absurd h.1 (by first | exact gz_ne rfl | decide)))
        have A75 := gc_AT_I A58 (p65 23 1 (fun h => absurd h.1 (by first | exact gz_ne rfl | decide))) (p65 23 5 (fun h => absurd h.1 (by first | exact gz_ne rfl | decide))) (p65 23 6 (fun h => absurd h.1 (by first | exact gz_ne rfl | decide))) (p65 23 7 (fun h => absurd h.1 (by first | exact gz_ne rfl | decide))) (p65 23 8 (fun h => absurd h.1 (by first | exact gz_ne rfl | decide))) (fun k => p65 24 k (fun h => absurd h.1 (by first | exact gz_ne rfl | decide)))
        show gv_X _ _ (91, [(0, .inr (.inr (some 39))), (1, .inl a1)], [], sh, gc_h sh I64 J A)
        refine gv_run 1 true hD (pcₚ := 92) (lvₚ := [(0, .inr (.inr (some 39))), (1, .inl a1)]) (stₚ := [.inr (.inr (some 39))]) (hₚ := gc_h sh I64 J A) (C := (True ∧ True)) rfl ⟨trivial, trivial⟩ ?_
        refine gv_get hD rfl rfl S_39 ⟨by decide, (gz_sh B_39)⟩ (gc_hA S_39 rfl A_39_10) ?_
        show gv_X _ _ (95, [(0, .inr (.inr (some 39))), (1, .inl a1)], [.inr (.inr (some 41))], sh, gc_h sh I64 J A)
        refine gv_run 4 true hD (pcₚ := 99) (lvₚ := [(0, .inr (.inr (some 39))), (1, .inl a1)]) (stₚ := [.inr (.inr (some 39)), .inl (a1 + 1), .inr (.inr (some 41))]) (hₚ := gc_h sh I64 J A) (C := ((((True ∧ True) ∧ True) ∧ True) ∧ True)) rfl ⟨⟨⟨⟨trivial, trivial⟩, trivial⟩, trivial⟩, trivial⟩ ?_
        refine gv_get hD rfl rfl S_39 ⟨by decide, (gz_sh B_39)⟩ (gc_h5 (t := t) S_39 rfl (by (/-59-/first | (have o1 := gz_sh t55; have o2 := gz_sh t73; omega) | (simp only [gz_hd] at *; omega)))) ?_
        show gv_X _ _ (102, [(0, .inr (.inr (some 39))), (1, .inl a1)], [.inr (.inr (some t)), .inl (a1 + 1), .inr (.inr (some 41))], sh, gc_h sh I64 J A)
        refine gv_get hD rfl rfl S_t ⟨by decide, (gz_sh B_t)⟩ (gc_hA S_t rfl A_t_4) ?_
        show gv_X _ _ (105, [(0, .inr (.inr (some 39))), (1, .inl a1)], [.inr (.inr (some (t + 7))), .inl (a1 + 1), .inr (.inr (some 41))], sh, gc_h sh I64 J A)
        refine gv_run 1 true hD (pcₚ := 106) (lvₚ := [(0, .inr (.inr (some 39))), (1, .inl a1)]) (stₚ := [.inr (.inr (some 39)), .inr (.inr (some (t + 7))), .inl (a1 + 1), .inr (.inr (some 41))]) (hₚ := gc_h sh I64 J A) (C := (True ∧ True)) rfl ⟨trivial, trivial⟩ ?_
        refine gv_get hD rfl rfl S_39 ⟨by decide, (gz_sh B_39)⟩ (gc_hA S_39 rfl A_39_1) ?_
        show gv_X _ _ (109, [(0, .inr (.inr (some 39))), (1, .inl a1)], [.inr (.inr (some 23)), .inr (.inr (some (t + 7))), .inl (a1 + 1), .inr (.inr (some 41))], sh, gc_h sh I64 J A)
        refine gv_get hD rfl rfl S_23 ⟨by decide, (gz_sh B_23)⟩ (gc_hJ S_23 rfl) ?_
        show gv_X _ _ (112, [(0, .inr (.inr (some 39))), (1, .inl a1)], [.inr (.inl (J 23 9)), .inr (.inr (some (t + 7))), .inl (a1 + 1), .inr (.inr (some 41))], sh, gc_h sh I64 J A)
        obtain ⟨r77, h77, E77, P77⟩ := d_X4_find (ws0 := ws0) (tb := tb) hws htb sh ro I64 J A hI64 (t + 7) 16 7 (J 23 9) h_t_7     
        obtain ⟨rfl, ⟨z77, rfl, q77⟩⟩ := P77
        replace q77 := gz_hi q77
        have t78 : z77 = gs_lt Jr 22 (16 * Ir 0 6) (Ir 15 (Int.toNat (Ir 0 6))) (gs_rn β η p9) := (gz_sh q77).2.2.2.trans (by rw [gc_AT_m A75 (by (/-61-/first | omega | (simp only [gz_hd] at *; omega)))]; exact (show gs_T β η p9 = 1 → gc_fd (J ((t + 7) + 1)) (gs_M β η p9) (Int.toNat (I64 (t + 7) 1)) = gs_lt Jr 22 (16 * Ir 0 6) (Ir 15 (Int.toNat (Ir 0 6))) (gs_rn β η p9) from (fun h => by rw [show I64 (t + 7) 1 = I (t + 7) 1 from ((p65 (t + 7) 1 (by (/-62-/first | (have o1 := gz_sh B_t; have o2 := gz_sh B_t_10; have o3 := gz_sh B_t_13; have o4 := gz_sh B_t_14; have o5 := gz_sh B_t_15; have o6 := gz_sh B_t_16; have o7 := gz_sh B_t_17; have o8 := gz_sh B_t_17_1; have o9 := gz_sh B_t_17_2; have o10 := gz_sh B_t_17_3; have o11 := gz_sh B_t_17_4; have o12 := gz_sh B_t_17_5; have o13 := gz_sh B_t_17_6; have o14 := gz_sh B_t_17_7; have o15 := gz_sh B_t_5; have o16 := gz_sh B_t_6; have o17 := gz_sh B_t_9; have o18 := gz_sh t55; have o19 := gz_sh t73; omega) | (simp only [gz_hd] at *; omega)))).trans ((g45 (t + 7) 1).resolve_left (by (/-63-/first | (have o1 := gz_sh B_t; have o2 := gz_sh B_t_10; have o3 := gz_sh B_t_13; have o4 := gz_sh B_t_14; have o5 := gz_sh B_t_15; have o6 := gz_sh B_t_16; have o7 := gz_sh B_t_17; have o8 := gz_sh B_t_17_1; have o9 := gz_sh B_t_17_2; have o10 := gz_sh B_t_17_3; have o11 := gz_sh B_t_17_4; have o12 := gz_sh B_t_17_5; have o13 := gz_sh B_t_17_6; have o14 := gz_sh B_t_17_7; have o15 := gz_sh B_t_5; have o16 := gz_sh B_t_6; have o17 := gz_sh B_t_9; have o18 := gz_sh t55; have o19 := gz_sh t73; omega) | (simp only [gz_hd] at *; omega)))))]; exact gs_NA_lt x6 x5 h)) (by (/-64-/first | omega | (simp only [gz_hd] at *; omega))))
        refine gv_callV hD rfl (As := [.inr (.inl (J 23 9))]) (st := [.inl (a1 + 1), .inr (.inr (some 41))]) rfl (gz_sh B_t_7) S_t_7 rfl (gc_lV6 hws rfl) (Nat.le_of_ble_eq_true rfl) (gz_Ev_mono (d := 1) (by decide) E77) ?_
        show gv_X _ _ (115, [(0, .inr (.inr (some 39))), (1, .inl a1)], [.inl z77, .inl (a1 + 1), .inr (.inr (some 41))], sh, gc_h sh I64 J A)
        refine gv_iast hD rfl S_41 ⟨by decide, (gz_sh B_41)⟩ ⟨by (/-65-/first | omega | (simp only [gz_hd] at *; omega)), by (/-66-/first | omega | (simp only [gz_hd] at *; omega))⟩ ?_
        refine gc_st hI64 S_41 rfl (gz_sh R_41) (lo := (-2147483648)) (hi := 2147483647) rfl rfl (by (/-67-/first | (have o1 := gz_sh q77; omega) | (simp only [gz_hd] at *; omega))) (by (/-68-/first | (have o1 := gz_sh q77; omega) | (simp only [gz_hd] at *; omega))) (fun I79 hI79 q80 p80 => ?_)
        have FI79 := gc_frs (W := fun q j => (q = 39 ∧ j = 3) ∨ (q = 39 ∧ j = 4) ∨ (q = 23 ∧ j = 5) ∨ (q = 23 ∧ j = 6) ∨ (q = 23 ∧ j = 7) ∨ (q = 23 ∧ j = 8) ∨ (q = 1 ∧ j = 17) ∨ (q = 1 ∧ j = 18) ∨ q = 20 ∨ (q = 41 ∧ j = (Int.toNat a1)) ∨ (q = 41 ∧ j = (Int.toNat (a1 + 1))) ∨ (q = 41 ∧ j = (Int.toNat (a1 + 2)))) FI64 (Or.inr (Or.inr (Or.inr (Or.inr (Or.inr (Or.inr (Or.inr (Or.inr (Or.inr (Or.inr (Or.inl ⟨rfl, rfl⟩))))))))))) p80
        have t81 := gz_hi (p80 23 1 (fun h => absurd h.1 (by first | exact gz_ne rfl | decide)))
        have t82 := gz_hi (p80 23 5 (fun h => absurd h.1 (by first | exact gz_ne rfl | decide)))
        have t83 := gz_hi (p80 23 6 (fun h => absurd h.1 (by first | exact gz_ne rfl | decide)))
        have t84 := gz_hi (p80 23 7 (fun h => absurd h.1 (by first | exact gz_ne rfl | decide)))
        have t85 := gz_hi (p80 1 17 (fun h => absurd h.1 (by first | exact gz_ne rfl | decide)))
        have t86 := gz_hi (p80 (t + 7) 1 (fun h => absurd h.1 (gz_sh N_t_7__41)))
        have t87 := gz_hi (p80 1 18 (fun h => absurd h.1 (by first | exact gz_ne rfl | decide)))
        have t88 := gz_hi (p80 39 2 (fun h => absurd h.1 (by first | exact gz_ne rfl | decide)))
        have KLT_I79 := gc_LT_fr KLT_I64 (p80 23 5 (fun h => absurd h.1 (by first | exact gz_ne rfl | decide))) (p80 23 6 (fun h => absurd h.1 (by first | exact gz_ne rfl | decide))) (p80 23 7 (fun h => absurd h.1 (by first | exact gz_ne rfl | decide))) (fun k => p80 24 k (fun h => absurd h.1 (by first | exact gz_ne rfl | decide)))
        have KTK_I79 := gc_TK_fr KTK_I64 (p80 23 1 (fun h => absurd h.1 (by first | exact gz_ne rfl | decide))) (p80 23 5 (fun h => absurd h.1 (by first | exact gz_ne rfl | decide))) (p80 23 6 (fun h => absurd h.1 (by first | exact gz_ne rfl | decide))) (p80 23 7 (fun h => absurd h.1 (by first | exact gz_ne rfl | decide)))
        have KRS_I79 := gc_row_st KRS_I64 p80 q80 (by unfold gc_fS; (/-70-/first | (and_intros; (have o1 := gz_sh t63; omega); (have o1 := gz_sh q77; omega); (have o1 := gz_sh B_t; have o2 := gz_sh B_t_10; have o3 := gz_sh B_t_13; have o4 := gz_sh B_t_14; have o5 := gz_sh B_t_15; have o6 := gz_sh B_t_16; have o7 := gz_sh B_t_17; have o8 := gz_sh B_t_17_1; have o9 := gz_sh B_t_17_2; have o10 := gz_sh B_t_17_3; have o11 := gz_sh B_t_17_4; have o12 := gz_sh B_t_17_5; have o13 := gz_sh B_t_17_6; have o14 := gz_sh B_t_17_7; have o15 := gz_sh B_t_5; have o16 := gz_sh B_t_6; have o17 := gz_sh B_t_9; have o18 := gz_sh N_t_7__20; have o19 := gz_sh N_t_7__41; have o20 := gz_sh q45; have o21 := gz_sh q77; have o22 := gz_sh t51; have o23 := gz_sh t55; have o24 := gz_sh t63; have o25 := gz_sh t73; have o26 := gz_sh t88; omega); (have o1 := gz_sh B_t; have o2 := gz_sh B_t_10; have o3 := gz_sh B_t_13; have o4 := gz_sh B_t_14; have o5 := gz_sh B_t_15; have o6 := gz_sh B_t_16; have o7 := gz_sh B_t_17; have o8 := gz_sh B_t_17_1; have o9 := gz_sh B_t_17_2; have o10 := gz_sh B_t_17_3; have o11 := gz_sh B_t_17_4; have o12 := gz_sh B_t_17_5; have o13 := gz_sh B_t_17_6; have o14 := gz_sh B_t_17_7; have o15 := gz_sh B_t_5; have o16 := gz_sh B_t_6; have o17 := gz_sh B_t_9; have o18 := gz_sh N_t_7__20; have o19 := gz_sh N_t_7__41; have o20 := gz_sh q45; have o21 := gz_sh q77; have o22 := gz_sh t51; have o23 := gz_sh t55; have o24 := gz_sh t63; have o25 := gz_sh t73; have o26 := gz_sh t88; omega); (have o1 := gz_sh B_t; have o2 := gz_sh B_t_10; have o3 := gz_sh B_t_13; have o4 := gz_sh B_t_14; have o5 := gz_sh B_t_15; have o6 := gz_sh B_t_16; have o7 := gz_sh B_t_17; have o8 := gz_sh B_t_17_1; have o9 := gz_sh B_t_17_2; have o10 := gz_sh B_t_17_3; have o11 := gz_sh B_t_17_4; have o12 := gz_sh B_t_17_5; have o13 := gz_sh B_t_17_6; have o14 := gz_sh B_t_17_7; have o15 := gz_sh B_t_5; have o16 := gz_sh B_t_6; have o17 := gz_sh B_t_9; have o18 := gz_sh N_t_7__20; have o19 := gz_sh N_t_7__41; have o20 := gz_sh q45; have o21 := gz_sh q77; have o22 := gz_sh t51; have o23 := gz_sh t55; have o24 := gz_sh t63; have o25 := gz_sh t73; have o26 := gz_sh t88; omega)) | (simp only [gz_hd] at *; omega)))
        have KPK_I79 := gc_PKs_fr KPK_I64 (p80 1 17 (fun h => absurd h.1 (by first | exact gz_ne rfl | decide))) (fun k => p80 20 k (fun h => absurd h.1 (by first | exact gz_ne rfl | decide)))
        have A90 := gc_AT_I A75 (p80 23 1 (fun h => absurd h.1 (by first | exact gz_ne rfl | decide))) (p80 23 5 (fun h => absurd h.1 (by first | exact gz_ne rfl | decide))) (p80 23 6 (fun h => absurd h.1 (by first | exact gz_ne rfl | decide))) (p80 23 7 (fun h => absurd h.1 (by first | exact gz_ne rfl | decide))) (p80 23 8 (fun h => absurd h.1 (by first | exact gz_ne rfl | decide))) (fun k => p80 24 k (fun h => absurd h.1 (by first | exact gz_ne rfl | decide)))
        show gv_X _ _ (116, [(0, .inr (.inr (some 39))), (1, .inl a1)], [], sh, gc_h sh I79 J A)
        refine gv_run 1 true hD (pcₚ := 121) (lvₚ := [(0, .inr (.inr (some 39))), (1, .inl a1)]) (stₚ := []) (hₚ := gc_h sh I79 J A) (C := (True ∧ True)) rfl ⟨trivial, trivial⟩ ?_
        refine gv_pick [0] rfl ?_
        exact L121 I79 J p9 hI79 FI79 FJ KLT_I79 KTK_I79 KRS_I79 KPK_I79 (by (/-71-/first | (and_intros; (have o1 := gz_sh f7; have o2 := gz_sh q77; have o3 := gz_sh t53; have o4 := gz_sh t71; omega); (omega); (have o1 := gz_sh t51; have o2 := gz_sh t69; have o3 := gz_sh t84; omega); (have o1 := gz_sh t50; have o2 := gz_sh t68; have o3 := gz_sh t83; omega); (have o1 := gz_sh t49; have o2 := gz_sh t67; have o3 := gz_sh t82; omega); (have o1 := gz_sh t52; have o2 := gz_sh t70; have o3 := gz_sh t85; omega); (omega); (have o1 := gz_sh t54; have o2 := gz_sh t72; have o3 := gz_sh t87; omega); (have o1 := gz_sh t48; have o2 := gz_sh t66; have o3 := gz_sh t81; omega); (have o1 := gz_sh t49; have o2 := gz_sh t67; have o3 := gz_sh t82; omega); (have o1 := gz_sh t55; have o2 := gz_sh t73; have o3 := gz_sh t88; omega)) | (simp only [gz_hd] at *; omega))) A90 (by unfold gs_ctx; (repeat first | rw [if_pos (by (/-72-/first | omega | (simp only [gz_hd] at *; omega)))] | rw [if_neg (by (/-73-/first | (have o1 := gz_sh q77; have o2 := gz_sh t63; omega) | (simp only [gz_hd] at *; omega)))])) (by rw [gs_ti_1 (by (/-74-/first | omega | (simp only [gz_hd] at *; omega))), ← t78]; exact gs_itc_c x7 ((p80 41 (Int.toNat a1) (by (/-75-/first | omega | (simp only [gz_hd] at *; omega)))).trans q65) ((congrArg (I79 41) (show (Int.toNat a1) + 1 = (Int.toNat (a1 + 1)) by (/-76-/first | omega | (simp only [gz_hd] at *; omega)))).trans q80) (by (/-77-/first | (have o1 := gz_sh t63; omega) | (simp only [gz_hd] at *; omega))) (by have h8 := (show I79 (t + 7) 1 = I (t + 7) 1 from (((p80 (t + 7) 1 (by (/-78-/first | (have o1 := gz_sh B_t; have o2 := gz_sh B_t_10; have o3 := gz_sh B_t_13; have o4 := gz_sh B_t_14; have o5 := gz_sh B_t_15; have o6 := gz_sh B_t_16; have o7 := gz_sh B_t_17; have o8 := gz_sh B_t_17_1; have o9 := gz_sh B_t_17_2; have o10 := gz_sh B_t_17_3; have o11 := gz_sh B_t_17_4; have o12 := gz_sh B_t_17_5; have o13 := gz_sh B_t_17_6; have o14 := gz_sh B_t_17_7; have o15 := gz_sh B_t_5; have o16 := gz_sh B_t_6; have o17 := gz_sh B_t_9; have o18 := gz_sh t55; have o19 := gz_sh t73; have o20 := gz_sh t88; omega) | (simp only [gz_hd] at *; omega)))).trans (p65 (t + 7) 1 (by (/-79-/first | (have o1 := gz_sh B_t; have o2 := gz_sh B_t_10; have o3 := gz_sh B_t_13; have o4 := gz_sh B_t_14; have o5 := gz_sh B_t_15; have o6 := gz_sh B_t_16; have o7 := gz_sh B_t_17; have o8 := gz_sh B_t_17_1; have o9 := gz_sh B_t_17_2; have o10 := gz_sh B_t_17_3; have o11 := gz_sh B_t_17_4; have o12 := gz_sh B_t_17_5; have o13 := gz_sh B_t_17_6; have o14 := gz_sh B_t_17_7; have o15 := gz_sh B_t_5; have o16 := gz_sh B_t_6; have o17 := gz_sh B_t_9; have o18 := gz_sh t55; have o19 := gz_sh t73; have o20 := gz_sh t88; omega) | (simp only [gz_hd] at *; omega))))).trans ((g45 (t + 7) 1).resolve_left (by (/-80-/first | (have o1 := gz_sh B_t; have o2 := gz_sh B_t_10; have o3 := gz_sh B_t_13; have o4 := gz_sh B_t_14; have o5 := gz_sh B_t_15; have o6 := gz_sh B_t_16; have o7 := gz_sh B_t_17; have o8 := gz_sh B_t_17_1; have o9 := gz_sh B_t_17_2; have o10 := gz_sh B_t_17_3; have o11 := gz_sh B_t_17_4; have o12 := gz_sh B_t_17_5; have o13 := gz_sh B_t_17_6; have o14 := gz_sh B_t_17_7; have o15 := gz_sh B_t_5; have o16 := gz_sh B_t_6; have o17 := gz_sh B_t_9; have o18 := gz_sh t55; have o19 := gz_sh t73; have o20 := gz_sh t88; omega) | (simp only [gz_hd] at *; omega)))))); (/-81-/first | (have o1 := gz_sh q77; have o2 := gz_sh t53; have o3 := gz_sh t71; omega) | (simp only [gz_hd] at *; omega))))
    · show gv_X _ _ (33, [(0, .inr (.inr (some 39))), (1, .inl a1)], [], sh, gc_h sh I J A)
      refine gv_run 1 true hD (pcₚ := 34) (lvₚ := [(0, .inr (.inr (some 39))), (1, .inl a1)]) (stₚ := [.inr (.inr (some 39))]) (hₚ := gc_h sh I J A) (C := (True ∧ True)) rfl ⟨trivial, trivial⟩ ?_
      refine gv_get hD rfl rfl S_39 ⟨by decide, (gz_sh B_39)⟩ (gc_hA S_39 rfl A_39_10) ?_
      show gv_X _ _ (37, [(0, .inr (.inr (some 39))), (1, .inl a1)], [.inr (.inr (some 41))], sh, gc_h sh I J A)
      refine gv_run 2 true hD (pcₚ := 39) (lvₚ := [(0, .inr (.inr (some 39))), (1, .inl a1)]) (stₚ := [.inl 0, .inl a1, .inr (.inr (some 41))]) (hₚ := gc_h sh I J A) (C := ((True ∧ True) ∧ True)) rfl ⟨⟨trivial, trivial⟩, trivial⟩ ?_
      refine gv_iast hD rfl S_41 ⟨by decide, (gz_sh B_41)⟩ ⟨by (/-82-/first | omega | (simp only [gz_hd] at *; omega)), by (/-83-/first | omega | (simp only [gz_hd] at *; omega))⟩ ?_
      refine gc_st hI S_41 rfl (gz_sh R_41) (lo := (-2147483648)) (hi := 2147483647) rfl rfl (by (/-84-/first | omega | (simp only [gz_hd] at *; omega))) (by (/-85-/first | omega | (simp only [gz_hd] at *; omega))) (fun I91 hI91 q92 p92 => ?_)
      have FI91 := gc_frs (W := fun q j => (q = 39 ∧ j = 3) ∨ (q = 39 ∧ j = 4) ∨ (q = 23 ∧ j = 5) ∨ (q = 23 ∧ j = 6) ∨ (q = 23 ∧ j = 7) ∨ (q = 23 ∧ j = 8) ∨ (q = 1 ∧ j = 17) ∨ (q = 1 ∧ j = 18) ∨ q = 20 ∨ (q = 41 ∧ j = (Int.toNat a1)) ∨ (q = 41 ∧ j = (Int.toNat (a1 + 1))) ∨ (q = 41 ∧ j = (Int.toNat (a1 + 2)))) FI (Or.inr (Or.inr (Or.inr (Or.inr (Or.inr (Or.inr (Or.inr (Or.inr (Or.inr (Or.inl ⟨rfl, rfl⟩)))))))))) p92
      have t93 := gz_hi (p92 23 1 (fun h => absurd h.1 (by first | exact gz_ne rfl | decide)))
      have t94 := gz_hi (p92 23 5 (fun h => absurd h.1 (by first | exact gz_ne rfl | decide)))
      have t95 := gz_hi (p92 23 6 (fun h => absurd h.1 (by first | exact gz_ne rfl | decide)))
      have t96 := gz_hi (p92 23 7 (fun h => absurd h.1 (by first | exact gz_ne rfl | decide)))
      have t97 := gz_hi (p92 1 17 (fun h => absurd h.1 (by first | exact gz_ne rfl | decide)))
      have t99 := gz_hi (p92 1 18 (fun h => absurd h.1 (by first | exact gz_ne rfl | decide)))
      have t100 := gz_hi (p92 39 2 (fun h => absurd h.1 (by first | exact gz_ne rfl | decide)))
      have KLT_I91 := gc_LT_fr KLT_I (p92 23 5 (fun h => absurd h.1 (by first | exact gz_ne rfl | decide))) (p92 23 6 (fun h => absurd h.1 (by first | exact gz_ne rfl | decide))) (p92 23 7 (fun h => absurd h.1 (by first | exact gz_ne rfl | decide))) (fun k => p92 24 k (fun h => absurd h.1 (by first | exact gz_ne rfl | decide)))
      have KTK_I91 := gc_TK_fr KTK_I (p92 23 1 (fun h => absurd h.1 (by first | exact gz_ne rfl | decide))) (p92 23 5 (fun h => absurd h.1 (by first | exact gz_ne rfl | decide))) (p92 23 6 (fun h => absurd h.1 (by first | exact gz_ne rfl | decide))) (p92 23 7 (fun h => absurd h.1 (by first | exact gz_ne rfl | decide)))
      have KRS_I91 := gc_row_st KRS_I p92 q92 (by unfold gc_fS; (/-87-/first | (and_intros <;> omega) | (simp only [gz_hd] at *; omega)))
      have KPK_I91 := gc_PKs_fr KPK_I (p92 1 17 (fun h => absurd h.1 (by first | exact gz_ne rfl | decide))) (fun k => p92 20 k (fun h => absurd h.1 (by first | exact gz_ne rfl | decide)))
      have A102 := gc_AT_I x2 (p92 23 1 (fun h => absurd h.1 (by first | exact gz_ne rfl | decide))) (p92 23 5 (fun h => absurd h.1 (by first | exact gz_ne rfl | decide))) (p92 23 6 (fun h => absurd h.1 (by first | exact gz_ne rfl | decide))) (p92 23 7 (fun h => absurd h.1 (by first | exact gz_ne rfl | decide))) (p92 23 8 (fun h => absurd h.1 (by first | exact gz_ne rfl | decide))) (fun k => p92 24 k (fun h => absurd h.1 (by first | exact gz_ne rfl | decide)))
      show gv_X _ _ (40, [(0, .inr (.inr (some 39))), (1, .inl a1)], [], sh, gc_h sh I91 J A)
      refine gv_run 1 true hD (pcₚ := 41) (lvₚ := [(0, .inr (.inr (some 39))), (1, .inl a1)]) (stₚ := [.inr (.inr (some 39))]) (hₚ := gc_h sh I91 J A) (C := (True ∧ True)) rfl ⟨trivial, trivial⟩ ?_
      refine gv_get hD rfl rfl S_39 ⟨by decide, (gz_sh B_39)⟩ (gc_hA S_39 rfl A_39_10) ?_
      show gv_X _ _ (44, [(0, .inr (.inr (some 39))), (1, .inl a1)], [.inr (.inr (some 41))], sh, gc_h sh I91 J A)
      refine gv_run 4 true hD (pcₚ := 48) (lvₚ := [(0, .inr (.inr (some 39))), (1, .inl a1)]) (stₚ := [.inr (.inr (some 39)), .inl (a1 + 1), .inr (.inr (some 41))]) (hₚ := gc_h sh I91 J A) (C := ((((True ∧ True) ∧ True) ∧ True) ∧ True)) rfl ⟨⟨⟨⟨trivial, trivial⟩, trivial⟩, trivial⟩, trivial⟩ ?_
      obtain ⟨r103, h103, E103, P103⟩ := d_X6_keepLetters_p (ws0 := ws0) (tb := tb) hws htb sh ro I91 J A hI91   hb    (by (/-88-/first | (have o1 := gz_sh t96; omega) | (simp only [gz_hd] at *; omega))) (by (/-89-/first | (have o1 := gz_sh t1; have o2 := gz_sh t97; omega) | (simp only [gz_hd] at *; omega))) KLT_I91 KTK_I91
      obtain ⟨I104, J105, rfl, hI104, g103, k103, KLT_I104, KTK_I104, ⟨z103, rfl, q103⟩⟩ := P103
      replace q103 := gz_hi q103
      have FI104 := gc_frc (W := fun q j => (q = 39 ∧ j = 3) ∨ (q = 39 ∧ j = 4) ∨ (q = 23 ∧ j = 5) ∨ (q = 23 ∧ j = 6) ∨ (q = 23 ∧ j = 7) ∨ (q = 23 ∧ j = 8) ∨ (q = 1 ∧ j = 17) ∨ (q = 1 ∧ j = 18) ∨ q = 20 ∨ (q = 41 ∧ j = (Int.toNat a1)) ∨ (q = 41 ∧ j = (Int.toNat (a1 + 1))) ∨ (q = 41 ∧ j = (Int.toNat (a1 + 2)))) (V := fun q j => (q = 1 ∧ j = 17) ∨ (q = 1 ∧ j = 18) ∨ q = 20) FI91 (fun q j h => (h.elim (fun h => (Or.inr (Or.inr (Or.inr (Or.inr (Or.inr (Or.inr (Or.inl h)))))))) (fun h => (h.elim (fun h => (Or.inr (Or.inr (Or.inr (Or.inr (Or.inr (Or.inr (Or.inr (Or.inl h))))))))) (fun h => (Or.inr (Or.inr (Or.inr (Or.inr (Or.inr (Or.inr (Or.inr (Or.inr (Or.inl h)))))))))))))) g103
      have t106 := gz_hi ((g103 23 1).resolve_left (fun h => h.elim (fun h => absurd h.2 (by first | exact gz_ne rfl | decide)) (fun h => h.elim (fun h => absurd h.2 (by first | exact gz_ne rfl | decide)) (fun h => absurd h (by first | exact gz_ne rfl | decide)))))
      have t107 := gz_hi ((g103 23 5).resolve_left (fun h => h.elim (fun h => absurd h.2 (by first | exact gz_ne rfl | decide)) (fun h => h.elim (fun h => absurd h.2 (by first | exact gz_ne rfl | decide)) (fun h => absurd h (by first | exact gz_ne rfl | decide)))))
      have t108 := gz_hi ((g103 23 6).resolve_left (fun h => h.elim (fun h => absurd h.2 (by first | exact gz_ne rfl | decide)) (fun h => h.elim (fun h => absurd h.2 (by first | exact gz_ne rfl | decide)) (fun h => absurd h (by first | exact gz_ne rfl | decide)))))
      have t109 := gz_hi ((g103 23 7).resolve_left (fun h => h.elim (fun h => absurd h.2 (by first | exact gz_ne rfl | decide)) (fun h => h.elim (fun h => absurd h.2 (by first | exact gz_ne rfl | decide)) (fun h => absurd h (by first | exact gz_ne rfl | decide)))))
      have t111 := gz_hi ((g103 39 2).resolve_left (fun h => h.elim (fun h => absurd h.2 (by first | exact gz_ne rfl | decide)) (fun h => h.elim (fun h => absurd h.2 (by first | exact gz_ne rfl | decide)) (fun h => absurd h (by first | exact gz_ne rfl | decide)))))
      have t112 := gz_hi ((g103 41 (Int.toNat a1)).resolve_left (fun h => h.elim (fun h => absurd h.1 (by first | exact gz_ne rfl | decide)) (fun h => h.elim (fun h => absurd h.1 (by first | exact gz_ne rfl | decide)) (fun h => absurd h (by first | exact gz_ne rfl | decide)))))
      obtain rfl : J = J105 := funext fun q => funext fun j => ((k103 q j).resolve_left id).symm
      have KRS_I104 := gc_row_fr KRS_I91 (fun k => (g103 41 k).resolve_left (fun h => h.elim (fun h => absurd h.1 (by first | exact gz_ne rfl | decide)) (fun h => h.elim (fun h => absurd h.1 (by first | exact gz_ne rfl | decide)) (fun h => absurd h (by first | exact gz_ne rfl | decide)))))
      have l103 := (gz_sh q103).2.2.2.2.2.2.2
      have KPK_I104 := gc_PKs_tr KPK_I91 l103
      have A116 := gc_AT_I A102 ((g103 23 1).resolve_left (fun h => h.elim (fun h => absurd h.2 (by first | exact gz_ne rfl | decide)) (fun h => h.elim (fun h => absurd h.2 (by first | exact gz_ne rfl | decide)) (fun h => absurd h (by first | exact gz_ne rfl | decide))))) ((g103 23 5).resolve_left (fun h => h.elim (fun h => absurd h.2 (by first | exact gz_ne rfl | decide)) (fun h => h.elim (fun h => absurd h.2 (by first | exact gz_ne rfl | decide)) (fun h => absurd h (by first | exact gz_ne rfl | decide))))) ((g103 23 6).resolve_left (fun h => h.elim (fun h => absurd h.2 (by first | exact gz_ne rfl | decide)) (fun h => h.elim (fun h => absurd h.2 (by first | exact gz_ne rfl | decide)) (fun h => absurd h (by first | exact gz_ne rfl | decide))))) ((g103 23 7).resolve_left (fun h => h.elim (fun h => absurd h.2 (by first | exact gz_ne rfl | decide)) (fun h => h.elim (fun h => absurd h.2 (by first | exact gz_ne rfl | decide)) (fun h => absurd h (by first | exact gz_ne rfl | decide))))) ((g103 23 8).resolve_left (fun h => h.elim (fun h => absurd h.2 (by first | exact gz_ne rfl | decide)) (fun h => h.elim (fun h => absurd h.2 (by first | exact gz_ne rfl | decide)) (fun h => absurd h (by first | exact gz_ne rfl | decide))))) (fun k => (g103 24 k).resolve_left (fun h => h.elim (fun h => absurd h.1 (by first | exact gz_ne rfl | decide)) (fun h => h.elim (fun h => absurd h.1 (by first | exact gz_ne rfl | decide)) (fun h => absurd h (by first | exact gz_ne rfl | decide)))))
      refine gv_callV hD rfl (As := []) (st := [.inl (a1 + 1), .inr (.inr (some 41))]) rfl (gz_sh B_39) S_39 rfl (gc_lV6 hws rfl) (Nat.le_of_ble_eq_true rfl) (gz_Ev_mono (d := 2) (by decide) E103) ?_
      show gv_X _ _ (51, [(0, .inr (.inr (some 39))), (1, .inl a1)], [.inl z103, .inl (a1 + 1), .inr (.inr (some 41))], sh, gc_h sh I104 J A)
      refine gv_iast hD rfl S_41 ⟨by decide, (gz_sh B_41)⟩ ⟨by (/-90-/first | omega | (simp only [gz_hd] at *; omega)), by (/-91-/first | omega | (simp only [gz_hd] at *; omega))⟩ ?_
      refine gc_st hI104 S_41 rfl (gz_sh R_41) (lo := (-2147483648)) (hi := 2147483647) rfl rfl (by (/-92-/first | (have o1 := gz_sh q103; omega) | (simp only [gz_hd] at *; omega))) (by (/-93-/first | (have o1 := gz_sh q103; omega) | (simp only [gz_hd] at *; omega))) (fun I118 hI118 q119 p119 => ?_)
      have FI118 := gc_frs (W := fun q j => (q = 39 ∧ j = 3) ∨ (q = 39 ∧ j = 4) ∨ (q = 23 ∧ j = 5) ∨ (q = 23 ∧ j = 6) ∨ (q = 23 ∧ j = 7) ∨ (q = 23 ∧ j = 8) ∨ (q = 1 ∧ j = 17) ∨ (q = 1 ∧ j = 18) ∨ q = 20 ∨ (q = 41 ∧ j = (Int.toNat a1)) ∨ (q = 41 ∧ j = (Int.toNat (a1 + 1))) ∨ (q = 41 ∧ j = (Int.toNat (a1 + 2)))) FI104 (Or.inr (Or.inr (Or.inr (Or.inr (Or.inr (Or.inr (Or.inr (Or.inr (Or.inr (Or.inr (Or.inl ⟨rfl, rfl⟩))))))))))) p119
      have t120 := gz_hi (p119 23 1 (fun h => absurd h.1 (by first | exact gz_ne rfl | decide)))
      have t121 := gz_hi (p119 23 5 (fun h => absurd h.1 (by first | exact gz_ne rfl | decide)))
      have t122 := gz_hi (p119 23 6 (fun h => absurd h.1 (by first | exact gz_ne rfl | decide)))
      have t123 := gz_hi (p119 23 7 (fun h => absurd h.1 (by first | exact gz_ne rfl | decide)))
      have t124 := gz_hi (p119 1 17 (fun h => absurd h.1 (by first | exact gz_ne rfl | decide)))
      have t126 := gz_hi (p119 1 18 (fun h => absurd h.1 (by first | exact gz_ne rfl | decide)))
      have t127 := gz_hi (p119 39 2 (fun h => absurd h.1 (by first | exact gz_ne rfl | decide)))
      have t128 := gz_hi (p119 41 (Int.toNat a1) (fun h => absurd h.2 (by (/-94-/first | omega | (simp only [gz_hd] at *; omega)))))
      have KLT_I118 := gc_LT_fr KLT_I104 (p119 23 5 (fun h => absurd h.1 (by first | exact gz_ne rfl | decide))) (p119 23 6 (fun h => absurd h.1 (by first | exact gz_ne rfl | decide))) (p119 23 7 (fun h => absurd h.1 (by first | exact gz_ne rfl | decide))) (fun k => p119 24 k (fun h => absurd h.1 (by first | exact gz_ne rfl | decide)))
      have KTK_I118 := gc_TK_fr KTK_I104 (p119 23 1 (fun h => absurd h.1 (by first | exact gz_ne rfl | decide))) (p119 23 5 (fun h => absurd h.1 (by first | exact gz_ne rfl | decide))) (p119 23 6 (fun h => absurd h.1 (by first | exact gz_ne rfl | decide))) (p119 23 7 (fun h => absurd h.1 (by first | exact gz_ne rfl | decide)))
      have KRS_I118 := gc_row_st KRS_I104 p119 q119 (by unfold gc_fS; (/-95-/first | (and_intros; (have o1 := gz_sh q103; omega); (have o1 := gz_sh q103; have o2 := gz_sh t1; have o3 := gz_sh t97; omega); (have o1 := gz_sh B_t; have o2 := gz_sh B_t_10; have o3 := gz_sh B_t_13; have o4 := gz_sh B_t_14; have o5 := gz_sh B_t_15; have o6 := gz_sh B_t_16; have o7 := gz_sh B_t_17; have o8 := gz_sh B_t_17_1; have o9 := gz_sh B_t_17_2; have o10 := gz_sh B_t_17_3; have o11 := gz_sh B_t_17_4; have o12 := gz_sh B_t_17_5; have o13 := gz_sh B_t_17_6; have o14 := gz_sh B_t_17_7; have o15 := gz_sh B_t_5; have o16 := gz_sh B_t_6; have o17 := gz_sh B_t_9; have o18 := gz_sh N_t_7__20; have o19 := gz_sh N_t_7__41; have o20 := gz_sh q103; have o21 := gz_sh t1; have o22 := gz_sh t100; have o23 := gz_sh t106; have o24 := gz_sh t107; have o25 := gz_sh t111; have o26 := gz_sh t120; have o27 := gz_sh t121; have o28 := gz_sh t127; have o29 := gz_sh t93; have o30 := gz_sh t94; have o31 := gz_sh t97; omega); (have o1 := gz_sh B_t; have o2 := gz_sh B_t_10; have o3 := gz_sh B_t_13; have o4 := gz_sh B_t_14; have o5 := gz_sh B_t_15; have o6 := gz_sh B_t_16; have o7 := gz_sh B_t_17; have o8 := gz_sh B_t_17_1; have o9 := gz_sh B_t_17_2; have o10 := gz_sh B_t_17_3; have o11 := gz_sh B_t_17_4; have o12 := gz_sh B_t_17_5; have o13 := gz_sh B_t_17_6; have o14 := gz_sh B_t_17_7; have o15 := gz_sh B_t_5; have o16 := gz_sh B_t_6; have o17 := gz_sh B_t_9; have o18 := gz_sh N_t_7__20; have o19 := gz_sh N_t_7__41; have o20 := gz_sh q103; have o21 := gz_sh t1; have o22 := gz_sh t100; have o23 := gz_sh t106; have o24 := gz_sh t107; have o25 := gz_sh t111; have o26 := gz_sh t120; have o27 := gz_sh t121; have o28 := gz_sh t127; have o29 := gz_sh t93; have o30 := gz_sh t94; have o31 := gz_sh t97; omega); (have o1 := gz_sh B_t; have o2 := gz_sh B_t_10; have o3 := gz_sh B_t_13; have o4 := gz_sh B_t_14; have o5 := gz_sh B_t_15; have o6 := gz_sh B_t_16; have o7 := gz_sh B_t_17; have o8 := gz_sh B_t_17_1; have o9 := gz_sh B_t_17_2; have o10 := gz_sh B_t_17_3; have o11 := gz_sh B_t_17_4; have o12 := gz_sh B_t_17_5; have o13 := gz_sh B_t_17_6; have o14 := gz_sh B_t_17_7; have o15 := gz_sh B_t_5; have o16 := gz_sh B_t_6; have o17 := gz_sh B_t_9; have o18 := gz_sh N_t_7__20; have o19 := gz_sh N_t_7__41; have o20 := gz_sh q103; have o21 := gz_sh t1; have o22 := gz_sh t100; have o23 := gz_sh t106; have o24 := gz_sh t107; have o25 := gz_sh t111; have o26 := gz_sh t120; have o27 := gz_sh t121; have o28 := gz_sh t127; have o29 := gz_sh t93; have o30 := gz_sh t94; have o31 := gz_sh t97; omega)) | (simp only [gz_hd] at *; omega)))
      have KPK_I118 := gc_PKs_fr KPK_I104 (p119 1 17 (fun h => absurd h.1 (by first | exact gz_ne rfl | decide))) (fun k => p119 20 k (fun h => absurd h.1 (by first | exact gz_ne rfl | decide)))
      have A129 := gc_AT_I A116 (p119 23 1 (fun h => absurd h.1 (by first | exact gz_ne rfl | decide))) (p119 23 5 (fun h => absurd h.1 (by first | exact gz_ne rfl | decide))) (p119 23 6 (fun h => absurd h.1 (by first | exact gz_ne rfl | decide))) (p119 23 7 (fun h => absurd h.1 (by first | exact gz_ne rfl | decide))) (p119 23 8 (fun h => absurd h.1 (by first | exact gz_ne rfl | decide))) (fun k => p119 24 k (fun h => absurd h.1 (by first | exact gz_ne rfl | decide)))
      show gv_X _ _ (52, [(0, .inr (.inr (some 39))), (1, .inl a1)], [], sh, gc_h sh I118 J A)
      refine gv_run 1 true hD (pcₚ := 53) (lvₚ := [(0, .inr (.inr (some 39))), (1, .inl a1)]) (stₚ := [.inr (.inr (some 39))]) (hₚ := gc_h sh I118 J A) (C := (True ∧ True)) rfl ⟨trivial, trivial⟩ ?_
      refine gv_get hD rfl rfl S_39 ⟨by decide, (gz_sh B_39)⟩ (gc_hA S_39 rfl A_39_10) ?_
      show gv_X _ _ (56, [(0, .inr (.inr (some 39))), (1, .inl a1)], [.inr (.inr (some 41))], sh, gc_h sh I118 J A)
      refine gv_run 4 true hD (pcₚ := 60) (lvₚ := [(0, .inr (.inr (some 39))), (1, .inl a1)]) (stₚ := [.inr (.inr (some 39)), .inl (a1 + 2), .inr (.inr (some 41))]) (hₚ := gc_h sh I118 J A) (C := ((((True ∧ True) ∧ True) ∧ True) ∧ True)) rfl ⟨⟨⟨⟨trivial, trivial⟩, trivial⟩, trivial⟩, trivial⟩ ?_
      refine gv_get hD rfl rfl S_39 ⟨by decide, (gz_sh B_39)⟩ (gc_hA S_39 rfl A_39_1) ?_
      show gv_X _ _ (63, [(0, .inr (.inr (some 39))), (1, .inl a1)], [.inr (.inr (some 23)), .inl (a1 + 2), .inr (.inr (some 41))], sh, gc_h sh I118 J A)
      have t131 := gz_hi (gc_TK_l3 KTK_I118 (by (/-96-/first | (have o1 := gz_sh t109; have o2 := gz_sh t123; have o3 := gz_sh t96; omega) | (simp only [gz_hd] at *; omega))))
      obtain ⟨r130, h130, E130, P130⟩ := d_X9_lettersSize (ws0 := ws0) (tb := tb) hws htb sh ro I118 J A hI118 23  (gc_b23 hb)     
      obtain ⟨rfl, ⟨z130, rfl, q130⟩⟩ := P130
      replace q130 := gz_hi q130
      refine gv_callV hD rfl (As := []) (st := [.inl (a1 + 2), .inr (.inr (some 41))]) rfl (gz_sh B_23) S_23 rfl (gc_lV6 hws rfl) (Nat.le_of_ble_eq_true rfl) (gz_Ev_mono (d := 1) (by decide) E130) ?_
      show gv_X _ _ (66, [(0, .inr (.inr (some 39))), (1, .inl a1)], [.inl z130, .inl (a1 + 2), .inr (.inr (some 41))], sh, gc_h sh I118 J A)
      refine gv_iast hD rfl S_41 ⟨by decide, (gz_sh B_41)⟩ ⟨by (/-97-/first | omega | (simp only [gz_hd] at *; omega)), by (/-98-/first | omega | (simp only [gz_hd] at *; omega))⟩ ?_
      refine gc_st hI118 S_41 rfl (gz_sh R_41) (lo := (-2147483648)) (hi := 2147483647) rfl rfl (by (/-99-/first | (have o1 := gz_sh q130; omega) | (simp only [gz_hd] at *; omega))) (by (/-100-/first | (have o1 := gz_sh q130; omega) | (simp only [gz_hd] at *; omega))) (fun I132 hI132 q133 p133 => ?_)
      have FI132 := gc_frs (W := fun q j => (q = 39 ∧ j = 3) ∨ (q = 39 ∧ j = 4) ∨ (q = 23 ∧ j = 5) ∨ (q = 23 ∧ j = 6) ∨ (q = 23 ∧ j = 7) ∨ (q = 23 ∧ j = 8) ∨ (q = 1 ∧ j = 17) ∨ (q = 1 ∧ j = 18) ∨ q = 20 ∨ (q = 41 ∧ j = (Int.toNat a1)) ∨ (q = 41 ∧ j = (Int.toNat (a1 + 1))) ∨ (q = 41 ∧ j = (Int.toNat (a1 + 2)))) FI118 (Or.inr (Or.inr (Or.inr (Or.inr (Or.inr (Or.inr (Or.inr (Or.inr (Or.inr (Or.inr (Or.inr ⟨rfl, rfl⟩))))))))))) p133
      have t134 := gz_hi (p133 23 1 (fun h => absurd h.1 (by first | exact gz_ne rfl | decide)))
      have t135 := gz_hi (p133 23 5 (fun h => absurd h.1 (by first | exact gz_ne rfl | decide)))
      have t136 := gz_hi (p133 23 6 (fun h => absurd h.1 (by first | exact gz_ne rfl | decide)))
      have t137 := gz_hi (p133 23 7 (fun h => absurd h.1 (by first | exact gz_ne rfl | decide)))
      have t138 := gz_hi (p133 1 17 (fun h => absurd h.1 (by first | exact gz_ne rfl | decide)))
      have t140 := gz_hi (p133 1 18 (fun h => absurd h.1 (by first | exact gz_ne rfl | decide)))
      have t141 := gz_hi (p133 39 2 (fun h => absurd h.1 (by first | exact gz_ne rfl | decide)))
      have t142 := gz_hi (p133 41 (Int.toNat a1) (fun h => absurd h.2 (by (/-101-/first | omega | (simp only [gz_hd] at *; omega)))))
      have t143 := gz_hi (p133 41 (Int.toNat (a1 + 1)) (fun h => absurd h.2 (by (/-102-/first | omega | (simp only [gz_hd] at *; omega)))))
      have KLT_I132 := gc_LT_fr KLT_I118 (p133 23 5 (fun h => absurd h.1 (by first | exact gz_ne rfl | decide))) (p133 23 6 (fun h => absurd h.1 (by first | exact gz_ne rfl | decide))) (p133 23 7 (fun h => absurd h.1 (by first | exact gz_ne rfl | decide))) (fun k => p133 24 k (fun h => absurd h.1 (by first | exact gz_ne rfl | decide)))
      have KTK_I132 := gc_TK_fr KTK_I118 (p133 23 1 (fun h => absurd h.1 (by first | exact gz_ne rfl | decide))) (p133 23 5 (fun h => absurd h.1 (by first | exact gz_ne rfl | decide))) (p133 23 6 (fun h => absurd h.1 (by first | exact gz_ne rfl | decide))) (p133 23 7 (fun h => absurd h.1 (by first | exact gz_ne rfl | decide)))
      have KRS_I132 := gc_row_st KRS_I118 p133 q133 (by unfold gc_fS; (/-103-/first | (and_intros; (have o1 := gz_sh q130; have o2 := gz_sh t131; omega); (have o1 := gz_sh q130; omega); (have o1 := gz_sh B_t; have o2 := gz_sh B_t_10; have o3 := gz_sh B_t_13; have o4 := gz_sh B_t_14; have o5 := gz_sh B_t_15; have o6 := gz_sh B_t_16; have o7 := gz_sh B_t_17; have o8 := gz_sh B_t_17_1; have o9 := gz_sh B_t_17_2; have o10 := gz_sh B_t_17_3; have o11 := gz_sh B_t_17_4; have o12 := gz_sh B_t_17_5; have o13 := gz_sh B_t_17_6; have o14 := gz_sh B_t_17_7; have o15 := gz_sh B_t_5; have o16 := gz_sh B_t_6; have o17 := gz_sh B_t_9; have o18 := gz_sh N_t_7__20; have o19 := gz_sh N_t_7__41; have o20 := gz_sh q130; have o21 := gz_sh t100; have o22 := gz_sh t111; have o23 := gz_sh t127; have o24 := gz_sh t131; have o25 := gz_sh t135; have o26 := gz_sh t136; have o27 := gz_sh t141; omega); (have o1 := gz_sh q130; have o2 := gz_sh t131; omega); (have o1 := gz_sh B_t; have o2 := gz_sh B_t_10; have o3 := gz_sh B_t_13; have o4 := gz_sh B_t_14; have o5 := gz_sh B_t_15; have o6 := gz_sh B_t_16; have o7 := gz_sh B_t_17; have o8 := gz_sh B_t_17_1; have o9 := gz_sh B_t_17_2; have o10 := gz_sh B_t_17_3; have o11 := gz_sh B_t_17_4; have o12 := gz_sh B_t_17_5; have o13 := gz_sh B_t_17_6; have o14 := gz_sh B_t_17_7; have o15 := gz_sh B_t_5; have o16 := gz_sh B_t_6; have o17 := gz_sh B_t_9; have o18 := gz_sh N_t_7__20; have o19 := gz_sh N_t_7__41; have o20 := gz_sh q130; have o21 := gz_sh t100; have o22 := gz_sh t111; have o23 := gz_sh t127; have o24 := gz_sh t131; have o25 := gz_sh t135; have o26 := gz_sh t136; have o27 := gz_sh t141; omega)) | (simp only [gz_hd] at *; omega)))
      have KPK_I132 := gc_PKs_fr KPK_I118 (p133 1 17 (fun h => absurd h.1 (by first | exact gz_ne rfl | decide))) (fun k => p133 20 k (fun h => absurd h.1 (by first | exact gz_ne rfl | decide)))
      have A144 := gc_AT_I A129 (p133 23 1 (fun h => absurd h.1 (by first | exact gz_ne rfl | decide))) (p133 23 5 (fun h => absurd h.1 (by first | exact gz_ne rfl | decide))) (p133 23 6 (fun h => absurd h.1 (by first | exact gz_ne rfl | decide))) (p133 23 7 (fun h => absurd h.1 (by first | exact gz_ne rfl | decide))) (p133 23 8 (fun h => absurd h.1 (by first | exact gz_ne rfl | decide))) (fun k => p133 24 k (fun h => absurd h.1 (by first | exact gz_ne rfl | decide)))
      show gv_X _ _ (67, [(0, .inr (.inr (some 39))), (1, .inl a1)], [], sh, gc_h sh I132 J A)
      refine gv_run 1 true hD (pcₚ := 121) (lvₚ := [(0, .inr (.inr (some 39))), (1, .inl a1)]) (stₚ := []) (hₚ := gc_h sh I132 J A) (C := (True ∧ True)) rfl ⟨trivial, trivial⟩ ?_
      refine gv_pick [0] rfl ?_
      exact L121 I132 J p9 hI132 FI132 FJ KLT_I132 KTK_I132 KRS_I132 KPK_I132 (by (/-104-/first | (and_intros; (have o1 := gz_sh t112; have o2 := gz_sh t128; have o3 := gz_sh t142; omega); (omega); (have o1 := gz_sh t109; have o2 := gz_sh t123; have o3 := gz_sh t137; have o4 := gz_sh t96; omega); (have o1 := gz_sh t108; have o2 := gz_sh t122; have o3 := gz_sh t136; have o4 := gz_sh t95; omega); (have o1 := gz_sh t107; have o2 := gz_sh t121; have o3 := gz_sh t135; have o4 := gz_sh t94; omega); (have o1 := gz_sh q103; have o2 := gz_sh t124; have o3 := gz_sh t138; have o4 := gz_sh t94; have o5 := gz_sh t95; have o6 := gz_sh t97; omega); (omega); (have o1 := gz_sh q103; have o2 := gz_sh t126; have o3 := gz_sh t140; have o4 := gz_sh t99; omega); (have o1 := gz_sh t106; have o2 := gz_sh t120; have o3 := gz_sh t134; have o4 := gz_sh t93; omega); (have o1 := gz_sh t107; have o2 := gz_sh t121; have o3 := gz_sh t135; have o4 := gz_sh t94; omega); (have o1 := gz_sh t100; have o2 := gz_sh t111; have o3 := gz_sh t127; have o4 := gz_sh t141; omega)) | (simp only [gz_hd] at *; omega))) A144 (by unfold gs_ctx; (repeat first | rw [if_pos (by (/-105-/first | omega | (simp only [gz_hd] at *; omega)))] | rw [if_neg (by (/-106-/first | omega | (simp only [gz_hd] at *; omega)))])) (by rw [gs_ti_3 (by (/-107-/first | omega | (simp only [gz_hd] at *; omega)))]; exact gs_itc_l ((((p133 41 (Int.toNat a1) (by (/-108-/first | omega | (simp only [gz_hd] at *; omega)))).trans (p119 41 (Int.toNat a1) (by (/-109-/first | omega | (simp only [gz_hd] at *; omega))))).trans ((g103 41 (Int.toNat a1)).resolve_left (by (/-110-/first | omega | (simp only [gz_hd] at *; omega))))).trans q92) (((congrArg (I132 41) (show (Int.toNat a1) + 1 = (Int.toNat (a1 + 1)) by (/-111-/first | omega | (simp only [gz_hd] at *; omega)))).trans ((p133 41 (Int.toNat (a1 + 1)) (by (/-112-/first | omega | (simp only [gz_hd] at *; omega)))).trans q119)).trans (show z103 = I91 1 17 by (/-113-/first | (have o1 := gz_sh q103; omega) | (simp only [gz_hd] at *; omega)))) (((congrArg (I132 41) (show (Int.toNat a1) + 2 = (Int.toNat (a1 + 2)) by (/-114-/first | omega | (simp only [gz_hd] at *; omega)))).trans q133).trans (show _ = gs_X β η p9 - gs_A β η p9 - 2 by (/-115-/first | (have o1 := gz_sh q130; have o2 := gz_sh t107; have o3 := gz_sh t108; have o4 := gz_sh t121; have o5 := gz_sh t122; have o6 := gz_sh t94; have o7 := gz_sh t95; omega) | (simp only [gz_hd] at *; omega)))) (by (/-116-/first | (have o1 := gz_sh q103; omega) | (simp only [gz_hd] at *; omega))) (by (/-117-/first | (have o1 := gz_sh t107; have o2 := gz_sh t108; have o3 := gz_sh t121; have o4 := gz_sh t122; have o5 := gz_sh t131; have o6 := gz_sh t94; have o7 := gz_sh t95; omega) | (simp only [gz_hd] at *; omega))) (by have k9 := (gz_sh q103).2.2.2.2.2.2.1; have k8 := k9.1; (/-118-/first | (have o1 := gz_sh t124; have o2 := gz_sh t138; have o3 := gz_sh t94; have o4 := gz_sh t95; omega) | (simp only [gz_hd] at *; omega))) (fun i a b => gc_kl_b A102 (by (/-119-/first | (have o1 := gz_sh f3; have o2 := gz_sh t94; omega) | (simp only [gz_hd] at *; omega))) (gc_TK_nx KTK_I91 (by (/-120-/first | (have o1 := gz_sh t96; omega) | (simp only [gz_hd] at *; omega)))) (gz_sh q103).2.2.2.2.2.2.1 (fun j => ((p133 20 j (by (/-121-/first | omega | (simp only [gz_hd] at *; omega)))).trans (p119 20 j (by (/-122-/first | omega | (simp only [gz_hd] at *; omega)))))) i a b))
  · show gv_X _ _ (12, [(0, .inr (.inr (some 39))), (1, .inl a1)], [], sh, gc_h sh I J A)
    refine gv_run 1 true hD (pcₚ := 13) (lvₚ := [(0, .inr (.inr (some 39))), (1, .inl a1)]) (stₚ := [.inr (.inr (some 39))]) (hₚ := gc_h sh I J A) (C := (True ∧ True)) rfl ⟨trivial, trivial⟩ ?_
    refine gv_get hD rfl rfl S_39 ⟨by decide, (gz_sh B_39)⟩ (gc_hA S_39 rfl A_39_10) ?_
    show gv_X _ _ (16, [(0, .inr (.inr (some 39))), (1, .inl a1)], [.inr (.inr (some 41))], sh, gc_h sh I J A)
    refine gv_run 2 true hD (pcₚ := 18) (lvₚ := [(0, .inr (.inr (some 39))), (1, .inl a1)]) (stₚ := [.inl 2, .inl a1, .inr (.inr (some 41))]) (hₚ := gc_h sh I J A) (C := ((True ∧ True) ∧ True)) rfl ⟨⟨trivial, trivial⟩, trivial⟩ ?_
    refine gv_iast hD rfl S_41 ⟨by decide, (gz_sh B_41)⟩ ⟨by (/-123-/first | omega | (simp only [gz_hd] at *; omega)), by (/-124-/first | omega | (simp only [gz_hd] at *; omega))⟩ ?_
    refine gc_st hI S_41 rfl (gz_sh R_41) (lo := (-2147483648)) (hi := 2147483647) rfl rfl (by (/-125-/first | omega | (simp only [gz_hd] at *; omega))) (by (/-126-/first | omega | (simp only [gz_hd] at *; omega))) (fun I145 hI145 q146 p146 => ?_)
    have FI145 := gc_frs (W := fun q j => (q = 39 ∧ j = 3) ∨ (q = 39 ∧ j = 4) ∨ (q = 23 ∧ j = 5) ∨ (q = 23 ∧ j = 6) ∨ (q = 23 ∧ j = 7) ∨ (q = 23 ∧ j = 8) ∨ (q = 1 ∧ j = 17) ∨ (q = 1 ∧ j = 18) ∨ q = 20 ∨ (q = 41 ∧ j = (Int.toNat a1)) ∨ (q = 41 ∧ j = (Int.toNat (a1 + 1))) ∨ (q = 41 ∧ j = (Int.toNat (a1 + 2)))) FI (Or.inr (Or.inr (Or.inr (Or.inr (Or.inr (Or.inr (Or.inr (Or.inr (Or.inr (Or.inl ⟨rfl, rfl⟩)))))))))) p146
    have t147 := gz_hi (p146 23 1 (fun h => absurd h.1 (by first | exact gz_ne rfl | decide)))
    have t148 := gz_hi (p146 23 5 (fun h => absurd h.1 (by first | exact gz_ne rfl | decide)))
    have t149 := gz_hi (p146 23 6 (fun h => absurd h.1 (by first | exact gz_ne rfl | decide)))
    have t150 := gz_hi (p146 23 7 (fun h => absurd h.1 (by first | exact gz_ne rfl | decide)))
    have t151 := gz_hi (p146 1 17 (fun h => absurd h.1 (by first | exact gz_ne rfl | decide)))
    have t153 := gz_hi (p146 1 18 (fun h => absurd h.1 (by first | exact gz_ne rfl | decide)))
    have t154 := gz_hi (p146 39 2 (fun h => absurd h.1 (by first | exact gz_ne rfl | decide)))
    have KLT_I145 := gc_LT_fr KLT_I (p146 23 5 (fun h => absurd h.1 (by first | exact gz_ne rfl | decide))) (p146 23 6 (fun h => absurd h.1 (by first | exact gz_ne rfl | decide))) (p146 23 7 (fun h => absurd h.1 (by first | exact gz_ne rfl | decide))) (fun k => p146 24 k (fun h => absurd h.1 (by first | exact gz_ne rfl | decide)))
    have KTK_I145 := gc_TK_fr KTK_I (p146 23 1 (fun h => absurd h.1 (by first | exact gz_ne rfl | decide))) (p146 23 5 (fun h => absurd h.1 (by first | exact gz_ne rfl | decide))) (p146 23 6 (fun h => absurd h.1 (by first | exact gz_ne rfl | decide))) (p146 23 7 (fun h => absurd h.1 (by first | exact gz_ne rfl | decide)))
    have KRS_I145 := gc_row_st KRS_I p146 q146 (by unfold gc_fS; (/-128-/first | (and_intros <;> omega) | (simp only [gz_hd] at *; omega)))
    have KPK_I145 := gc_PKs_fr KPK_I (p146 1 17 (fun h => absurd h.1 (by first | exact gz_ne rfl | decide))) (fun k => p146 20 k (fun h => absurd h.1 (by first | exact gz_ne rfl | decide)))
    have A156 := gc_AT_I x2 (p146 23 1 (fun h => absurd h.1 (by first | exact gz_ne rfl | decide))) (p146 23 5 (fun h => absurd h.1 (by first | exact gz_ne rfl | decide))) (p146 23 6 (fun h => absurd h.1 (by first | exact gz_ne rfl | decide))) (p146 23 7 (fun h => absurd h.1 (by first | exact gz_ne rfl | decide))) (p146 23 8 (fun h => absurd h.1 (by first | exact gz_ne rfl | decide))) (fun k => p146 24 k (fun h => absurd h.1 (by first | exact gz_ne rfl | decide)))
    show gv_X _ _ (19, [(0, .inr (.inr (some 39))), (1, .inl a1)], [], sh, gc_h sh I145 J A)
    refine gv_run 1 true hD (pcₚ := 121) (lvₚ := [(0, .inr (.inr (some 39))), (1, .inl a1)]) (stₚ := []) (hₚ := gc_h sh I145 J A) (C := (True ∧ True)) rfl ⟨trivial, trivial⟩ ?_
    refine gv_pick [0] rfl ?_
    exact L121 I145 J p9 hI145 FI145 FJ KLT_I145 KTK_I145 KRS_I145 KPK_I145 (by (/-129-/first | (and_intros; (omega); (omega); (have o1 := gz_sh t150; omega); (have o1 := gz_sh t149; omega); (have o1 := gz_sh t148; omega); (have o1 := gz_sh t151; omega); (omega); (have o1 := gz_sh t153; omega); (have o1 := gz_sh t147; omega); (have o1 := gz_sh t148; omega); (have o1 := gz_sh t154; omega)) | (simp only [gz_hd] at *; omega))) A156 (by unfold gs_ctx; (repeat first | rw [if_pos (by (/-130-/first | omega | (simp only [gz_hd] at *; omega)))] | rw [if_neg (by (/-131-/first | omega | (simp only [gz_hd] at *; omega)))])) (by rw [gs_ti_2 (by (/-132-/first | omega | (simp only [gz_hd] at *; omega))) (by (/-133-/first | omega | (simp only [gz_hd] at *; omega)))]; exact gs_itc_b q146)
