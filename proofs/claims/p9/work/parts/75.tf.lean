def gc_OP (J : gr_J) (I : gr_I) : Prop := ∀ k : Nat, (k : Int) < I 86 9 → (J 94 k = 7237492 ∨ (k : Int) + 1 ≤ I 95 k) ∧ I 96 k ≤ 7 ∧ I 98 k ≤ (k : Int) + 1
theorem gc_OP_fr {J : gr_J} {I Iₚ : gr_I} {m : Nat} (h : gc_OP J I) (e9 : Iₚ 86 9 ≤ I 86 9) (h5 : ∀ k, Iₚ 95 k = I 95 k) (h8 : ∀ k, Iₚ 98 k = I 98 k) (h6 : ∀ k, ¬ k = m → Iₚ 96 k = I 96 k) (hz : (m : Int) < Iₚ 86 9 → Iₚ 96 m ≤ 7) : gc_OP J Iₚ := fun k hk => by
  have h9 := h k (by omega)
  rw [h5, h8]
  refine ⟨h9.1, ?_, h9.2.2⟩
  by_cases e : k = m
  · rw [e]; exact hz (by omega)
  · rw [h6 k e]; exact h9.2.1
theorem gc_OP_push {J Jₚ : gr_J} {I Iₚ : gr_I} (h : gc_OP J I) (h0 : 0 ≤ I 86 9) (e9 : Iₚ 86 9 = I 86 9 + 1) (hJ : ∀ k, ¬ k = Int.toNat (I 86 9) → Jₚ 94 k = J 94 k) (h5 : ∀ k, ¬ k = Int.toNat (I 86 9) → Iₚ 95 k = I 95 k) (h6 : ∀ k, ¬ k = Int.toNat (I 86 9) → Iₚ 96 k = I 96 k) (h8 : ∀ k, ¬ k = Int.toNat (I 86 9) → Iₚ 98 k = I 98 k) (z1 : Jₚ 94 (Int.toNat (I 86 9)) = 7237492 ∨ I 86 9 + 1 ≤ Iₚ 95 (Int.toNat (I 86 9))) (z2 : Iₚ 96 (Int.toNat (I 86 9)) ≤ 7) (z3 : Iₚ 98 (Int.toNat (I 86 9)) ≤ I 86 9 + 1) : gc_OP Jₚ Iₚ := fun k hk => by
  by_cases e : k = Int.toNat (I 86 9)
  · rw [e]
    refine ⟨z1.imp id (fun h9 => by omega), z2, by omega⟩
  · rw [hJ k e, h5 k e, h6 k e, h8 k e]
    exact h k (by omega)
theorem gc_N_n2 {f : Nat → Int} {a v : Int} (h : 0 ≤ a + v) : gc_N f (Int.toNat (a + (v + 1))) = gc_N f (Int.toNat (a + v)) + gc_nw (f (Int.toNat (a + v))) := by
  rw [← Int.add_assoc]
  exact gc_N_nx h
set_option maxHeartbeats 8000000 in
set_option maxRecDepth 100000 in
theorem d_X10_openUp {ws0 : List Cond} {tb : String → gz_T} (hws : gc_Ws ws0) (htb : gc_tbs tb) (sh : gz_Sh) (ro : Nat → Nat) (I : gr_I) (J : gr_J) (A : gc_A) (hI : gc_Inv ro I) (a1 : Int64) (a2 : Int) (a3 : Int) (hb : gc_Base sh ro A) (ha2 : 0 ≤ a2 ∧ a2 ≤ 301) (ha3 : (-1) ≤ a3 ∧ a3 ≤ 300) (x0 : gc_OP J I) (x1 : a1 = 7237492 ∨ I 86 9 + 1 ≤ a3) (x2 : I 86 9 ≤ 299) (x3 : I 86 17 ≤ I 86 9 + 1) : ∃ r hₚ, gz_Ev ws0 tb 1 (yX10_openUp, cX10_openUp, 5, (some .int)) [.inr (.inr (some 86)), .inr (.inl a1), .inl a2, .inl a3] sh (gc_h sh I J A) r sh hₚ 0 0 ∧ (∃ (Iₚ : gr_I) (Jₚ : gr_J), hₚ = gc_h sh Iₚ Jₚ A ∧ gc_Inv ro Iₚ ∧ (∀ q j : Nat, (q = 95 ∨ q = 96 ∨ q = 98 ∨ (q = 86 ∧ j = 9) ∨ (q = 86 ∧ j = 16)) ∨ Iₚ q j = I q j) ∧ (∀ q j : Nat, (q = 94) ∨ Jₚ q j = J q j) ∧ (∃ z : Int, r = some (.inl z) ∧ (-1) ≤ z ∧ z ≤ (-1) ∧ (gc_OP Jₚ Iₚ) ∧ (Iₚ 86 9 = I 86 9 + 1) ∧ (Iₚ 86 16 = a2))) := by
  have FI : ∀ q j : Nat, (q = 95 ∨ q = 96 ∨ q = 98 ∨ (q = 86 ∧ j = 9) ∨ (q = 86 ∧ j = 16)) ∨ I q j = I q j := fun _ _ => Or.inr rfl
  have FJ : ∀ q j : Nat, (q = 94) ∨ J q j = J q j := fun _ _ => Or.inr rfl
  have A_86_10 : A 86 10 = some 94 := gc_bA_86_10 hb
  have A_86_11 : A 86 11 = some 95 := gc_bA_86_11 hb
  have A_86_12 : A 86 12 = some 96 := gc_bA_86_12 hb
  have A_86_14 : A 86 14 = some 98 := gc_bA_86_14 hb
  have B_86 := gz_hi (show 86 < 1000000 from by decide)
  have B_94 := gz_hi (show 94 < 1000000 from by decide)
  have B_95 := gz_hi (show 95 < 1000000 from by decide)
  have B_96 := gz_hi (show 96 < 1000000 from by decide)
  have B_98 := gz_hi (show 98 < 1000000 from by decide)
  have R_86 := gz_hi (show ro 86 = 74 from gc_bR_86 hb)
  have R_95 := gz_hi (show ro 95 = 61 from gc_bR_95 hb)
  have R_96 := gz_hi (show ro 96 = 62 from gc_bR_96 hb)
  have R_98 := gz_hi (show ro 98 = 63 from gc_bR_98 hb)
  have S_86 : sh[86]? = some (false, 10, 19) := gc_bS_86 hb
  have S_94 : sh[94]? = some (true, 2, 300) := gc_bS_94 hb
  have S_95 : sh[95]? = some (true, 1, 300) := gc_bS_95 hb
  have S_96 : sh[96]? = some (true, 1, 300) := gc_bS_96 hb
  have S_98 : sh[98]? = some (true, 1, 300) := gc_bS_98 hb
  have hD : gv_D (gc_E10 ws0 tb 0 (yX10_openUp, cX10_openUp, 5, (some .int)) kX10_openUp) := gq_of oX10_openUp
  refine gc_ev10 (d := 0) (l := kX10_openUp) (Po := fun r hₚ => (∃ (Iₚ : gr_I) (Jₚ : gr_J), hₚ = gc_h sh Iₚ Jₚ A ∧ gc_Inv ro Iₚ ∧ (∀ q j : Nat, (q = 95 ∨ q = 96 ∨ q = 98 ∨ (q = 86 ∧ j = 9) ∨ (q = 86 ∧ j = 16)) ∨ Iₚ q j = I q j) ∧ (∀ q j : Nat, (q = 94) ∨ Jₚ q j = J q j) ∧ (∃ z : Int, r = some (.inl z) ∧ (-1) ≤ z ∧ z ≤ (-1) ∧ (gc_OP Jₚ Iₚ) ∧ (Iₚ 86 9 = I 86 9 + 1) ∧ (Iₚ 86 16 = a2)))) htb rfl (Nat.le_of_ble_eq_true rfl) ?_
  have f3 := gz_hi ((gc_b_74_9 hI (gz_sh R_86)))
  have f5 := gz_hi ((gc_b_74_17 hI (gz_sh R_86)))
  refine gv_run 1 true hD (pcₚ := 1) (lvₚ := [(0, .inr (.inr (some 86))), (1, .inr (.inl a1)), (3, .inl a2), (4, .inl a3)]) (stₚ := [.inr (.inr (some 86))]) (hₚ := gc_h sh I J A) (C := (True ∧ True)) rfl ⟨trivial, trivial⟩ ?_
  refine gv_get hD rfl rfl S_86 ⟨by decide, (gz_sh B_86)⟩ (gc_hA S_86 rfl A_86_10) ?_
  show gv_X _ _ (4, [(0, .inr (.inr (some 86))), (1, .inr (.inl a1)), (3, .inl a2), (4, .inl a3)], [.inr (.inr (some 94))], sh, gc_h sh I J A)
  refine gv_run 1 true hD (pcₚ := 5) (lvₚ := [(0, .inr (.inr (some 86))), (1, .inr (.inl a1)), (3, .inl a2), (4, .inl a3)]) (stₚ := [.inr (.inr (some 86)), .inr (.inr (some 94))]) (hₚ := gc_h sh I J A) (C := (True ∧ True)) rfl ⟨trivial, trivial⟩ ?_
  refine gv_get hD rfl rfl S_86 ⟨by decide, (gz_sh B_86)⟩ (gc_hI S_86 rfl) ?_
  show gv_X _ _ (8, [(0, .inr (.inr (some 86))), (1, .inr (.inl a1)), (3, .inl a2), (4, .inl a3)], [.inl (I 86 9), .inr (.inr (some 94))], sh, gc_h sh I J A)
  refine gv_run 1 true hD (pcₚ := 9) (lvₚ := [(0, .inr (.inr (some 86))), (1, .inr (.inl a1)), (3, .inl a2), (4, .inl a3)]) (stₚ := [.inr (.inl a1), .inl (I 86 9), .inr (.inr (some 94))]) (hₚ := gc_h sh I J A) (C := (True ∧ True)) rfl ⟨trivial, trivial⟩ ?_
  refine gv_last hD rfl S_94 ⟨by decide, (gz_sh B_94)⟩ ⟨by (/-0-/first | (have o1 := gz_sh f3; omega) | (simp only [gz_hd] at *; omega)), by (/-1-/first | omega | (simp only [gz_hd] at *; omega))⟩ ?_
  refine gc_stJ S_94 rfl (fun J7 q8 p8 => ?_)
  have FJ7 := gc_frs (W := fun q j => q = 94) FJ rfl p8
  show gv_X _ _ (10, [(0, .inr (.inr (some 86))), (1, .inr (.inl a1)), (3, .inl a2), (4, .inl a3)], [], sh, gc_h sh I J7 A)
  refine gv_run 1 true hD (pcₚ := 11) (lvₚ := [(0, .inr (.inr (some 86))), (1, .inr (.inl a1)), (3, .inl a2), (4, .inl a3)]) (stₚ := [.inr (.inr (some 86))]) (hₚ := gc_h sh I J7 A) (C := (True ∧ True)) rfl ⟨trivial, trivial⟩ ?_
  refine gv_get hD rfl rfl S_86 ⟨by decide, (gz_sh B_86)⟩ (gc_hA S_86 rfl A_86_11) ?_
  show gv_X _ _ (14, [(0, .inr (.inr (some 86))), (1, .inr (.inl a1)), (3, .inl a2), (4, .inl a3)], [.inr (.inr (some 95))], sh, gc_h sh I J7 A)
  refine gv_run 1 true hD (pcₚ := 15) (lvₚ := [(0, .inr (.inr (some 86))), (1, .inr (.inl a1)), (3, .inl a2), (4, .inl a3)]) (stₚ := [.inr (.inr (some 86)), .inr (.inr (some 95))]) (hₚ := gc_h sh I J7 A) (C := (True ∧ True)) rfl ⟨trivial, trivial⟩ ?_
  refine gv_get hD rfl rfl S_86 ⟨by decide, (gz_sh B_86)⟩ (gc_hI S_86 rfl) ?_
  show gv_X _ _ (18, [(0, .inr (.inr (some 86))), (1, .inr (.inl a1)), (3, .inl a2), (4, .inl a3)], [.inl (I 86 9), .inr (.inr (some 95))], sh, gc_h sh I J7 A)
  refine gv_run 1 true hD (pcₚ := 20) (lvₚ := [(0, .inr (.inr (some 86))), (1, .inr (.inl a1)), (3, .inl a2), (4, .inl a3)]) (stₚ := [.inl a3, .inl (I 86 9), .inr (.inr (some 95))]) (hₚ := gc_h sh I J7 A) (C := (True ∧ True)) rfl ⟨trivial, trivial⟩ ?_
  refine gv_iast hD rfl S_95 ⟨by decide, (gz_sh B_95)⟩ ⟨by (/-2-/first | (have o1 := gz_sh f3; omega) | (simp only [gz_hd] at *; omega)), by (/-3-/first | omega | (simp only [gz_hd] at *; omega))⟩ ?_
  refine gc_st hI S_95 rfl (gz_sh R_95) (lo := (-1)) (hi := 300) rfl rfl (by (/-4-/first | omega | (simp only [gz_hd] at *; omega))) (by (/-5-/first | omega | (simp only [gz_hd] at *; omega))) (fun I10 hI10 q11 p11 => ?_)
  have FI10 := gc_frs (W := fun q j => q = 95 ∨ q = 96 ∨ q = 98 ∨ (q = 86 ∧ j = 9) ∨ (q = 86 ∧ j = 16)) FI (Or.inl rfl) p11
  have t14 := gz_hi (p11 86 9 (fun h => absurd h.1 (by first | exact gz_ne rfl | decide)))
  have t16 := gz_hi (p11 86 17 (fun h => absurd h.1 (by first | exact gz_ne rfl | decide)))
  show gv_X _ _ (21, [(0, .inr (.inr (some 86))), (1, .inr (.inl a1)), (3, .inl a2), (4, .inl a3)], [], sh, gc_h sh I10 J7 A)
  refine gv_run 1 true hD (pcₚ := 22) (lvₚ := [(0, .inr (.inr (some 86))), (1, .inr (.inl a1)), (3, .inl a2), (4, .inl a3)]) (stₚ := [.inr (.inr (some 86))]) (hₚ := gc_h sh I10 J7 A) (C := (True ∧ True)) rfl ⟨trivial, trivial⟩ ?_
  refine gv_get hD rfl rfl S_86 ⟨by decide, (gz_sh B_86)⟩ (gc_hA S_86 rfl A_86_12) ?_
  show gv_X _ _ (25, [(0, .inr (.inr (some 86))), (1, .inr (.inl a1)), (3, .inl a2), (4, .inl a3)], [.inr (.inr (some 96))], sh, gc_h sh I10 J7 A)
  refine gv_run 1 true hD (pcₚ := 26) (lvₚ := [(0, .inr (.inr (some 86))), (1, .inr (.inl a1)), (3, .inl a2), (4, .inl a3)]) (stₚ := [.inr (.inr (some 86)), .inr (.inr (some 96))]) (hₚ := gc_h sh I10 J7 A) (C := (True ∧ True)) rfl ⟨trivial, trivial⟩ ?_
  refine gv_get hD rfl rfl S_86 ⟨by decide, (gz_sh B_86)⟩ (gc_hI S_86 rfl) ?_
  show gv_X _ _ (29, [(0, .inr (.inr (some 86))), (1, .inr (.inl a1)), (3, .inl a2), (4, .inl a3)], [.inl (I10 86 9), .inr (.inr (some 96))], sh, gc_h sh I10 J7 A)
  refine gv_run 1 true hD (pcₚ := 30) (lvₚ := [(0, .inr (.inr (some 86))), (1, .inr (.inl a1)), (3, .inl a2), (4, .inl a3)]) (stₚ := [.inl 0, .inl (I10 86 9), .inr (.inr (some 96))]) (hₚ := gc_h sh I10 J7 A) (C := (True ∧ True)) rfl ⟨trivial, trivial⟩ ?_
  refine gv_iast hD rfl S_96 ⟨by decide, (gz_sh B_96)⟩ ⟨by (/-6-/first | (have o1 := gz_sh f3; have o2 := gz_sh t14; omega) | (simp only [gz_hd] at *; omega)), by (/-7-/first | (have o1 := gz_sh t14; omega) | (simp only [gz_hd] at *; omega))⟩ ?_
  refine gc_st hI10 S_96 rfl (gz_sh R_96) (lo := 0) (hi := 9) rfl rfl (by (/-8-/first | omega | (simp only [gz_hd] at *; omega))) (by (/-9-/first | omega | (simp only [gz_hd] at *; omega))) (fun I18 hI18 q19 p19 => ?_)
  have FI18 := gc_frs (W := fun q j => q = 95 ∨ q = 96 ∨ q = 98 ∨ (q = 86 ∧ j = 9) ∨ (q = 86 ∧ j = 16)) FI10 (Or.inr (Or.inl rfl)) p19
  have t22 := gz_hi (p19 86 9 (fun h => absurd h.1 (by first | exact gz_ne rfl | decide)))
  have t24 := gz_hi (p19 86 17 (fun h => absurd h.1 (by first | exact gz_ne rfl | decide)))
  show gv_X _ _ (31, [(0, .inr (.inr (some 86))), (1, .inr (.inl a1)), (3, .inl a2), (4, .inl a3)], [], sh, gc_h sh I18 J7 A)
  refine gv_run 1 true hD (pcₚ := 32) (lvₚ := [(0, .inr (.inr (some 86))), (1, .inr (.inl a1)), (3, .inl a2), (4, .inl a3)]) (stₚ := [.inr (.inr (some 86))]) (hₚ := gc_h sh I18 J7 A) (C := (True ∧ True)) rfl ⟨trivial, trivial⟩ ?_
  refine gv_get hD rfl rfl S_86 ⟨by decide, (gz_sh B_86)⟩ (gc_hA S_86 rfl A_86_14) ?_
  show gv_X _ _ (35, [(0, .inr (.inr (some 86))), (1, .inr (.inl a1)), (3, .inl a2), (4, .inl a3)], [.inr (.inr (some 98))], sh, gc_h sh I18 J7 A)
  refine gv_run 1 true hD (pcₚ := 36) (lvₚ := [(0, .inr (.inr (some 86))), (1, .inr (.inl a1)), (3, .inl a2), (4, .inl a3)]) (stₚ := [.inr (.inr (some 86)), .inr (.inr (some 98))]) (hₚ := gc_h sh I18 J7 A) (C := (True ∧ True)) rfl ⟨trivial, trivial⟩ ?_
  refine gv_get hD rfl rfl S_86 ⟨by decide, (gz_sh B_86)⟩ (gc_hI S_86 rfl) ?_
  show gv_X _ _ (39, [(0, .inr (.inr (some 86))), (1, .inr (.inl a1)), (3, .inl a2), (4, .inl a3)], [.inl (I18 86 9), .inr (.inr (some 98))], sh, gc_h sh I18 J7 A)
  refine gv_run 1 true hD (pcₚ := 40) (lvₚ := [(0, .inr (.inr (some 86))), (1, .inr (.inl a1)), (3, .inl a2), (4, .inl a3)]) (stₚ := [.inr (.inr (some 86)), .inl (I18 86 9), .inr (.inr (some 98))]) (hₚ := gc_h sh I18 J7 A) (C := (True ∧ True)) rfl ⟨trivial, trivial⟩ ?_
  refine gv_get hD rfl rfl S_86 ⟨by decide, (gz_sh B_86)⟩ (gc_hI S_86 rfl) ?_
  show gv_X _ _ (43, [(0, .inr (.inr (some 86))), (1, .inr (.inl a1)), (3, .inl a2), (4, .inl a3)], [.inl (I18 86 17), .inl (I18 86 9), .inr (.inr (some 98))], sh, gc_h sh I18 J7 A)
  refine gv_iast hD rfl S_98 ⟨by decide, (gz_sh B_98)⟩ ⟨by (/-10-/first | (have o1 := gz_sh f3; have o2 := gz_sh t14; have o3 := gz_sh t22; omega) | (simp only [gz_hd] at *; omega)), by (/-11-/first | (have o1 := gz_sh t14; have o2 := gz_sh t22; omega) | (simp only [gz_hd] at *; omega))⟩ ?_
  refine gc_st hI18 S_98 rfl (gz_sh R_98) (lo := 0) (hi := 300) rfl rfl (by (/-12-/first | (have o1 := gz_sh f5; have o2 := gz_sh t16; have o3 := gz_sh t24; omega) | (simp only [gz_hd] at *; omega))) (by (/-13-/first | (have o1 := gz_sh f5; have o2 := gz_sh t16; have o3 := gz_sh t24; omega) | (simp only [gz_hd] at *; omega))) (fun I27 hI27 q28 p28 => ?_)
  have FI27 := gc_frs (W := fun q j => q = 95 ∨ q = 96 ∨ q = 98 ∨ (q = 86 ∧ j = 9) ∨ (q = 86 ∧ j = 16)) FI18 (Or.inr (Or.inr (Or.inl rfl))) p28
  have t31 := gz_hi (p28 86 9 (fun h => absurd h.1 (by first | exact gz_ne rfl | decide)))
  have t33 := gz_hi (p28 86 17 (fun h => absurd h.1 (by first | exact gz_ne rfl | decide)))
  show gv_X _ _ (44, [(0, .inr (.inr (some 86))), (1, .inr (.inl a1)), (3, .inl a2), (4, .inl a3)], [], sh, gc_h sh I27 J7 A)
  refine gv_run 2 true hD (pcₚ := 46) (lvₚ := [(0, .inr (.inr (some 86))), (1, .inr (.inl a1)), (3, .inl a2), (4, .inl a3)]) (stₚ := [.inr (.inr (some 86)), .inr (.inr (some 86))]) (hₚ := gc_h sh I27 J7 A) (C := ((True ∧ True) ∧ True)) rfl ⟨⟨trivial, trivial⟩, trivial⟩ ?_
  refine gv_get hD rfl rfl S_86 ⟨by decide, (gz_sh B_86)⟩ (gc_hI S_86 rfl) ?_
  show gv_X _ _ (49, [(0, .inr (.inr (some 86))), (1, .inr (.inl a1)), (3, .inl a2), (4, .inl a3)], [.inl (I27 86 9), .inr (.inr (some 86))], sh, gc_h sh I27 J7 A)
  refine gv_run 2 true hD (pcₚ := 51) (lvₚ := [(0, .inr (.inr (some 86))), (1, .inr (.inl a1)), (3, .inl a2), (4, .inl a3)]) (stₚ := [.inl ((I27 86 9) + 1), .inr (.inr (some 86))]) (hₚ := gc_h sh I27 J7 A) (C := ((True ∧ True) ∧ True)) rfl ⟨⟨trivial, trivial⟩, trivial⟩ ?_
  refine gv_put hD rfl rfl S_86 ⟨by decide, (gz_sh B_86)⟩ rfl trivial ?_
  refine gc_st (k := 9) hI27 S_86 rfl (gz_sh R_86) (lo := 0) (hi := 300) rfl rfl (by (/-14-/first | (have o1 := gz_sh f3; have o2 := gz_sh t14; have o3 := gz_sh t22; have o4 := gz_sh t31; omega) | (simp only [gz_hd] at *; omega))) (by (/-15-/first | (have o1 := gz_sh t14; have o2 := gz_sh t22; have o3 := gz_sh t31; omega) | (simp only [gz_hd] at *; omega))) (fun I35 hI35 q36 p36 => ?_)
  have FI35 := gc_frs (W := fun q j => q = 95 ∨ q = 96 ∨ q = 98 ∨ (q = 86 ∧ j = 9) ∨ (q = 86 ∧ j = 16)) FI27 (Or.inr (Or.inr (Or.inr (Or.inl ⟨rfl, rfl⟩)))) p36
  have t40 := gz_hi (p36 86 17 (fun h => absurd h.2 (by first | exact gz_ne rfl | decide)))
  show gv_X _ _ (54, [(0, .inr (.inr (some 86))), (1, .inr (.inl a1)), (3, .inl a2), (4, .inl a3)], [], sh, gc_h sh I35 J7 A)
  refine gv_run 2 true hD (pcₚ := 56) (lvₚ := [(0, .inr (.inr (some 86))), (1, .inr (.inl a1)), (3, .inl a2), (4, .inl a3)]) (stₚ := [.inl a2, .inr (.inr (some 86))]) (hₚ := gc_h sh I35 J7 A) (C := ((True ∧ True) ∧ True)) rfl ⟨⟨trivial, trivial⟩, trivial⟩ ?_
  refine gv_put hD rfl rfl S_86 ⟨by decide, (gz_sh B_86)⟩ rfl trivial ?_
  refine gc_st (k := 16) hI35 S_86 rfl (gz_sh R_86) (lo := (-1)) (hi := 301) rfl rfl (by (/-16-/first | omega | (simp only [gz_hd] at *; omega))) (by (/-17-/first | omega | (simp only [gz_hd] at *; omega))) (fun I42 hI42 q43 p43 => ?_)
  have FI42 := gc_frs (W := fun q j => q = 95 ∨ q = 96 ∨ q = 98 ∨ (q = 86 ∧ j = 9) ∨ (q = 86 ∧ j = 16)) FI35 (Or.inr (Or.inr (Or.inr (Or.inr ⟨rfl, rfl⟩)))) p43
  have t46 := gz_hi (p43 86 9 (fun h => absurd h.2 (by first | exact gz_ne rfl | decide)))
  have t47 := gz_hi (p43 86 17 (fun h => absurd h.2 (by first | exact gz_ne rfl | decide)))
  show gv_X _ _ (59, [(0, .inr (.inr (some 86))), (1, .inr (.inl a1)), (3, .inl a2), (4, .inl a3)], [], sh, gc_h sh I42 J7 A)
  refine gv_run 1 true hD (pcₚ := 60) (lvₚ := [(0, .inr (.inr (some 86))), (1, .inr (.inl a1)), (3, .inl a2), (4, .inl a3)]) (stₚ := [.inl (-1)]) (hₚ := gc_h sh I42 J7 A) (C := (True ∧ True)) rfl ⟨trivial, trivial⟩ ?_
  exact gv_iret hD rfl ⟨I42, J7, rfl, hI42, FI42, FJ7, ⟨_, rfl, by (/-18-/first | omega | (simp only [gz_hd] at *; omega)), by (/-19-/first | omega | (simp only [gz_hd] at *; omega)), (gc_OP_push x0 (by (/-20-/first | (have o1 := gz_sh f3; omega) | (simp only [gz_hd] at *; omega))) (by (/-21-/first | (have o1 := gz_sh t14; have o2 := gz_sh t22; have o3 := gz_sh t31; have o4 := gz_sh t46; omega) | (simp only [gz_hd] at *; omega))) (fun k hk => p8 94 k (fun h => hk h.2)) (fun k hk => (((((p43 95 k (fun h => absurd h.1 (by (/-22-/first | omega | (simp only [gz_hd] at *; omega))))).trans (p36 95 k (fun h => absurd h.1 (by (/-23-/first | omega | (simp only [gz_hd] at *; omega)))))).trans (p28 95 k (fun h => absurd h.1 (by (/-24-/first | omega | (simp only [gz_hd] at *; omega)))))).trans (p19 95 k (fun h => absurd h.1 (by (/-25-/first | omega | (simp only [gz_hd] at *; omega)))))).trans (p11 95 k (fun h => by have := h.2; (/-26-/first | omega | (simp only [gz_hd] at *; omega)))))) (fun k hk => (((((p43 96 k (fun h => absurd h.1 (by (/-27-/first | omega | (simp only [gz_hd] at *; omega))))).trans (p36 96 k (fun h => absurd h.1 (by (/-28-/first | omega | (simp only [gz_hd] at *; omega)))))).trans (p28 96 k (fun h => absurd h.1 (by (/-29-/first | omega | (simp only [gz_hd] at *; omega)))))).trans (p19 96 k (fun h => by have := h.2; (/-30-/first | (have o1 := gz_sh f3; have o2 := gz_sh t14; have o3 := gz_sh t22; have o4 := gz_sh t31; have o5 := gz_sh t46; omega) | (simp only [gz_hd] at *; omega))))).trans (p11 96 k (fun h => absurd h.1 (by (/-31-/first | omega | (simp only [gz_hd] at *; omega))))))) (fun k hk => (((((p43 98 k (fun h => absurd h.1 (by (/-32-/first | omega | (simp only [gz_hd] at *; omega))))).trans (p36 98 k (fun h => absurd h.1 (by (/-33-/first | omega | (simp only [gz_hd] at *; omega)))))).trans (p28 98 k (fun h => by have := h.2; (/-34-/first | (have o1 := gz_sh f3; have o2 := gz_sh t14; have o3 := gz_sh t22; have o4 := gz_sh t31; have o5 := gz_sh t46; omega) | (simp only [gz_hd] at *; omega))))).trans (p19 98 k (fun h => absurd h.1 (by (/-35-/first | omega | (simp only [gz_hd] at *; omega)))))).trans (p11 98 k (fun h => absurd h.1 (by (/-36-/first | omega | (simp only [gz_hd] at *; omega))))))) (x1.imp (fun h => (q8).trans h) (fun h => by have h9 := (((((p43 95 (Int.toNat (I 86 9)) (fun h => absurd h.1 (by (/-37-/first | omega | (simp only [gz_hd] at *; omega))))).trans (p36 95 (Int.toNat (I 86 9)) (fun h => absurd h.1 (by (/-38-/first | omega | (simp only [gz_hd] at *; omega)))))).trans (p28 95 (Int.toNat (I 86 9)) (fun h => absurd h.1 (by (/-39-/first | omega | (simp only [gz_hd] at *; omega)))))).trans (p19 95 (Int.toNat (I 86 9)) (fun h => absurd h.1 (by (/-40-/first | omega | (simp only [gz_hd] at *; omega))))))).trans q11; (/-41-/first | omega | (simp only [gz_hd] at *; omega)))) (by have h9 := ((((p43 96 (Int.toNat (I10 86 9)) (fun h => absurd h.1 (by (/-42-/first | omega | (simp only [gz_hd] at *; omega))))).trans (p36 96 (Int.toNat (I10 86 9)) (fun h => absurd h.1 (by (/-43-/first | omega | (simp only [gz_hd] at *; omega)))))).trans (p28 96 (Int.toNat (I10 86 9)) (fun h => absurd h.1 (by (/-44-/first | omega | (simp only [gz_hd] at *; omega))))))).trans q19; rw [show (Int.toNat (I10 86 9)) = (Int.toNat (I 86 9)) from by (/-45-/first | omega | (simp only [gz_hd] at *; omega))] at h9; (/-46-/first | omega | (simp only [gz_hd] at *; omega))) (by have h9 := (((p43 98 (Int.toNat (I18 86 9)) (fun h => absurd h.1 (by (/-47-/first | omega | (simp only [gz_hd] at *; omega))))).trans (p36 98 (Int.toNat (I18 86 9)) (fun h => absurd h.1 (by (/-48-/first | omega | (simp only [gz_hd] at *; omega))))))).trans q28; rw [show (Int.toNat (I18 86 9)) = (Int.toNat (I 86 9)) from by (/-49-/first | omega | (simp only [gz_hd] at *; omega))] at h9; (/-50-/first | (have o1 := gz_sh t16; have o2 := gz_sh t24; omega) | (simp only [gz_hd] at *; omega)))), by (/-51-/first | (have o1 := gz_sh t14; have o2 := gz_sh t22; have o3 := gz_sh t31; have o4 := gz_sh t46; omega) | (simp only [gz_hd] at *; omega)), by (/-52-/first | omega | (simp only [gz_hd] at *; omega))⟩⟩
set_option maxHeartbeats 8000000 in
set_option maxRecDepth 100000 in
theorem d_X10_stray {ws0 : List Cond} {tb : String → gz_T} (hws : gc_Ws ws0) (htb : gc_tbs tb) (sh : gz_Sh) (ro : Nat → Nat) (I : gr_I) (J : gr_J) (A : gc_A) (hI : gc_Inv ro I)  (hb : gc_Base sh ro A)   : ∃ r hₚ, gz_Ev ws0 tb 1 (yX10_stray, cX10_stray, 1, (some .int)) [.inr (.inr (some 86))] sh (gc_h sh I J A) r sh hₚ 0 0 ∧ (∃ (Iₚ : gr_I) (Jₚ : gr_J), hₚ = gc_h sh Iₚ Jₚ A ∧ gc_Inv ro Iₚ ∧ (∀ q j : Nat, ((q = 86 ∧ j = 18)) ∨ Iₚ q j = I q j) ∧ (∀ q j : Nat, (False) ∨ Jₚ q j = J q j) ∧ (∃ z : Int, r = some (.inl z) ∧ 0 ≤ z ∧ z ≤ 0)) := by
  have FI : ∀ q j : Nat, ((q = 86 ∧ j = 18)) ∨ I q j = I q j := fun _ _ => Or.inr rfl
  have FJ : ∀ q j : Nat, (False) ∨ J q j = J q j := fun _ _ => Or.inr rfl
  have B_86 := gz_hi (show 86 < 1000000 from by decide)
  have R_86 := gz_hi (show ro 86 = 74 from gc_bR_86 hb)
  have S_86 : sh[86]? = some (false, 10, 19) := gc_bS_86 hb
  have hD : gv_D (gc_E10 ws0 tb 0 (yX10_stray, cX10_stray, 1, (some .int)) kX10_stray) := gq_of oX10_stray
  refine gc_ev10 (d := 0) (l := kX10_stray) (Po := fun r hₚ => (∃ (Iₚ : gr_I) (Jₚ : gr_J), hₚ = gc_h sh Iₚ Jₚ A ∧ gc_Inv ro Iₚ ∧ (∀ q j : Nat, ((q = 86 ∧ j = 18)) ∨ Iₚ q j = I q j) ∧ (∀ q j : Nat, (False) ∨ Jₚ q j = J q j) ∧ (∃ z : Int, r = some (.inl z) ∧ 0 ≤ z ∧ z ≤ 0))) htb rfl (Nat.le_of_ble_eq_true rfl) ?_
  refine gv_run 2 true hD (pcₚ := 2) (lvₚ := [(0, .inr (.inr (some 86)))]) (stₚ := [.inl 1, .inr (.inr (some 86))]) (hₚ := gc_h sh I J A) (C := ((True ∧ True) ∧ True)) rfl ⟨⟨trivial, trivial⟩, trivial⟩ ?_
  refine gv_put hD rfl rfl S_86 ⟨by decide, (gz_sh B_86)⟩ rfl (by (/-0-/first | omega | (simp only [gz_hd] at *; omega))) ?_
  refine gc_st (k := 18) hI S_86 rfl (gz_sh R_86) (lo := 0) (hi := 1) rfl rfl (by (/-1-/first | omega | (simp only [gz_hd] at *; omega))) (by (/-2-/first | omega | (simp only [gz_hd] at *; omega))) (fun I1 hI1 q2 p2 => ?_)
  have FI1 := gc_frs (W := fun q j => (q = 86 ∧ j = 18)) FI ⟨rfl, rfl⟩ p2
  show gv_X _ _ (5, [(0, .inr (.inr (some 86)))], [], sh, gc_h sh I1 J A)
  refine gv_run 1 true hD (pcₚ := 6) (lvₚ := [(0, .inr (.inr (some 86)))]) (stₚ := [.inl 0]) (hₚ := gc_h sh I1 J A) (C := (True ∧ True)) rfl ⟨trivial, trivial⟩ ?_
  exact gv_iret hD rfl ⟨I1, J, rfl, hI1, FI1, FJ, ⟨_, rfl, by (/-3-/first | (and_intros <;> omega) | (simp only [gz_hd] at *; omega))⟩⟩
set_option maxHeartbeats 8000000 in
set_option maxRecDepth 100000 in
theorem d_X10_thingAt {ws0 : List Cond} {tb : String → gz_T} (hws : gc_Ws ws0) (htb : gc_tbs tb) (sh : gz_Sh) (ro : Nat → Nat) (I : gr_I) (J : gr_J) (A : gc_A) (hI : gc_Inv ro I) (o : Nat) (a1 : Int) (hb : gc_Base sh ro A) (ha1 : (-1) ≤ a1 ∧ a1 ≤ 300) (x0 : 86 + 1 + 2 * Int.toNat (I 86 2) = o) (x1 : o = 87 ∨ o = 89) : ∃ r hₚ, gz_Ev ws0 tb 2 (yX10_thingAt, cX10_thingAt, 2, (some .int)) [.inr (.inr (some 86)), .inl a1] sh (gc_h sh I J A) r sh hₚ 0 0 ∧ (hₚ = gc_h sh I J A ∧ (∃ z : Int, r = some (.inl z) ∧ (-1) ≤ z ∧ z ≤ 399)) := by
  have A_1_2 : A 1 2 = some 6 := gc_bA_1_2 hb
  have A_86_0 : A 86 0 = some 1 := gc_bA_86_0 hb
  have A_86_15 : A 86 15 = some 99 := gc_bA_86_15 hb
  have B_1 := gz_hi (show 1 < 1000000 from by decide)
  have B_6 := gz_hi (show 6 < 1000000 from by decide)
  have B_86 := gz_hi (show 86 < 1000000 from by decide)
  have B_88 := gz_hi (show 88 < 1000000 from by decide)
  have B_90 := gz_hi (show 90 < 1000000 from by decide)
  have B_99 := gz_hi (show 99 < 1000000 from by decide)
  have R_86 := gz_hi (show ro 86 = 74 from gc_bR_86 hb)
  have R_88 := gz_hi (show ro 88 = 0 from gc_bR_88 hb)
  have R_90 := gz_hi (show ro 90 = 0 from gc_bR_90 hb)
  have R_99 := gz_hi (show ro 99 = 64 from gc_bR_99 hb)
  have S_1 : sh[1]? = some (false, 8, 21) := gc_bS_1 hb
  have S_6 : sh[6]? = some (false, 4, 2) := gc_bS_6 hb
  have S_86 : sh[86]? = some (false, 10, 19) := gc_bS_86 hb
  have S_88 : sh[88]? = some (true, 2, 300) := gc_bS_88 hb
  have S_90 : sh[90]? = some (true, 2, 300) := gc_bS_90 hb
  have S_99 : sh[99]? = some (true, 1, 301) := gc_bS_99 hb
  have S_o : sh[o]? = some (true, 1, 300) := by
    rcases (show o = 87 ∨ o = 89 from by (/-0-/first | omega | (simp only [gz_hd] at *; omega))) with h9 | h9 <;> rw [h9] <;> exact gc_bS hb rfl
  have R_o : gz_hd (ro o = 77) := by
    refine gz_hi ?_
    rcases (show o = 87 ∨ o = 89 from by (/-1-/first | omega | (simp only [gz_hd] at *; omega))) with h9 | h9 <;> rw [h9] <;> exact gc_bR hb (by decide) rfl
  have B_o := gz_hi (show o < 1000000 from by (/-2-/first | omega | (simp only [gz_hd] at *; omega)))
  have hD : gv_D (gc_E10 ws0 tb 1 (yX10_thingAt, cX10_thingAt, 2, (some .int)) kX10_thingAt) := gq_of oX10_thingAt
  refine gc_ev10 (d := 1) (l := kX10_thingAt) (Po := fun r hₚ => (hₚ = gc_h sh I J A ∧ (∃ z : Int, r = some (.inl z) ∧ (-1) ≤ z ∧ z ≤ 399))) htb rfl (Nat.le_of_ble_eq_true rfl) ?_
  have f1 := gz_hi ((gc_b_74_1 hI (gz_sh R_86)))
  have f3 := gz_hi ((gc_b_74_17 hI (gz_sh R_86)))
  have L12 : gv_X (gc_E10 ws0 tb 1 (yX10_thingAt, cX10_thingAt, 2, (some .int)) kX10_thingAt) (gv_Q cX10_thingAt (some .int) sh (fun r hₚ => (hₚ = gc_h sh I J A ∧ (∃ z : Int, r = some (.inl z) ∧ (-1) ≤ z ∧ z ≤ 399)))) (12, [], [], sh, gc_h sh I J A) := by
    refine gv_run 1 true hD (pcₚ := 13) (lvₚ := []) (stₚ := [.inl (-1)]) (hₚ := gc_h sh I J A) (C := (True ∧ True)) rfl ⟨trivial, trivial⟩ ?_
    exact gv_iret hD rfl ⟨rfl, ⟨_, rfl, by (/-3-/first | (and_intros <;> omega) | (simp only [gz_hd] at *; omega))⟩⟩
  have L84 : ∀ (s0_8 : Int), (((-1) ≤ s0_8 ∧ s0_8 ≤ 8)) → gv_X (gc_E10 ws0 tb 1 (yX10_thingAt, cX10_thingAt, 2, (some .int)) kX10_thingAt) (gv_Q cX10_thingAt (some .int) sh (fun r hₚ => (hₚ = gc_h sh I J A ∧ (∃ z : Int, r = some (.inl z) ∧ (-1) ≤ z ∧ z ≤ 399)))) (84, [], [.inl s0_8], sh, gc_h sh I J A) := by
    intro s0_8 m_8
    have hs0_8 := m_8
    exact gv_iret hD rfl ⟨rfl, ⟨_, rfl, by (/-4-/first | (and_intros <;> omega) | (simp only [gz_hd] at *; omega))⟩⟩
  have L83 : gv_X (gc_E10 ws0 tb 1 (yX10_thingAt, cX10_thingAt, 2, (some .int)) kX10_thingAt) (gv_Q cX10_thingAt (some .int) sh (fun r hₚ => (hₚ = gc_h sh I J A ∧ (∃ z : Int, r = some (.inl z) ∧ (-1) ≤ z ∧ z ≤ 399)))) (83, [], [], sh, gc_h sh I J A) := by
    refine gv_run 1 true hD (pcₚ := 84) (lvₚ := []) (stₚ := [.inl (-1)]) (hₚ := gc_h sh I J A) (C := (True ∧ True)) rfl ⟨trivial, trivial⟩ ?_
    exact L84 (-1) (by (/-5-/first | (and_intros <;> omega) | (simp only [gz_hd] at *; omega)))
  refine gv_run 1 true hD (pcₚ := 1) (lvₚ := [(0, .inr (.inr (some 86))), (1, .inl a1)]) (stₚ := [.inl a1]) (hₚ := gc_h sh I J A) (C := (True ∧ True)) rfl ⟨trivial, trivial⟩ ?_
  refine gv_if_lt (t := 12) hD rfl rfl ⟨by (/-6-/first | omega | (simp only [gz_hd] at *; omega)), by (/-7-/first | omega | (simp only [gz_hd] at *; omega))⟩ (fun c16 => ?_) (fun c16 => ?_)
  · show gv_X _ _ (12, [(0, .inr (.inr (some 86))), (1, .inl a1)], [], sh, gc_h sh I J A)
    refine gv_pick [] rfl ?_
    exact L12 
  · show gv_X _ _ (4, [(0, .inr (.inr (some 86))), (1, .inl a1)], [], sh, gc_h sh I J A)
    refine gv_run 2 true hD (pcₚ := 6) (lvₚ := [(0, .inr (.inr (some 86))), (1, .inl a1)]) (stₚ := [.inr (.inr (some 86)), .inl a1]) (hₚ := gc_h sh I J A) (C := ((True ∧ True) ∧ True)) rfl ⟨⟨trivial, trivial⟩, trivial⟩ ?_
    refine gv_get hD rfl rfl S_86 ⟨by decide, (gz_sh B_86)⟩ (gc_hI S_86 rfl) ?_
    show gv_X _ _ (9, [(0, .inr (.inr (some 86))), (1, .inl a1)], [.inl (I 86 1), .inl a1], sh, gc_h sh I J A)
    refine gv_icmp_lt (t := 14) hD rfl rfl ⟨⟨by (/-8-/first | omega | (simp only [gz_hd] at *; omega)), by (/-9-/first | omega | (simp only [gz_hd] at *; omega))⟩, ⟨by (/-10-/first | (have o1 := gz_sh f1; omega) | (simp only [gz_hd] at *; omega)), by (/-11-/first | (have o1 := gz_sh f1; omega) | (simp only [gz_hd] at *; omega))⟩⟩ (fun c18 => ?_) (fun c18 => ?_)
    · show gv_X _ _ (14, [(0, .inr (.inr (some 86))), (1, .inl a1)], [], sh, gc_h sh I J A)
      refine gv_run 1 true hD (pcₚ := 15) (lvₚ := [(0, .inr (.inr (some 86))), (1, .inl a1)]) (stₚ := [.inr (.inr (some 86))]) (hₚ := gc_h sh I J A) (C := (True ∧ True)) rfl ⟨trivial, trivial⟩ ?_
      refine gv_get hD rfl rfl S_86 ⟨by decide, (gz_sh B_86)⟩ (gc_hS (n := 1001) (q := o) S_86 rfl (by (/-12-/first | omega | (simp only [gz_hd] at *; omega)))) ?_
      show gv_X _ _ (18, [(0, .inr (.inr (some 86))), (1, .inl a1)], [.inr (.inr (some o))], sh, gc_h sh I J A)
      refine gv_run 1 true hD (pcₚ := 19) (lvₚ := [(0, .inr (.inr (some 86))), (1, .inl a1)]) (stₚ := [.inl a1, .inr (.inr (some o))]) (hₚ := gc_h sh I J A) (C := (True ∧ True)) rfl ⟨trivial, trivial⟩ ?_
      have f19 := gz_hi ((show (-3) ≤ I o (Int.toNat a1) ∧ I o (Int.toNat a1) ≤ 1000000 from gc_in2 hI (gz_sh R_o) rfl rfl rfl))
      refine gv_iald hD rfl S_o rfl ⟨by decide, (gz_sh B_o)⟩ ⟨by (/-13-/first | omega | (simp only [gz_hd] at *; omega)), by (/-14-/first | (have o1 := gz_sh f1; omega) | (simp only [gz_hd] at *; omega))⟩ (gc_iI S_o rfl) ?_
      show gv_X _ _ (20, [(0, .inr (.inr (some 86))), (1, .inl a1)], [.inl (I o (Int.toNat a1))], sh, gc_h sh I J A)
      refine gv_run 1 true hD (pcₚ := 22) (lvₚ := [(0, .inr (.inr (some 86))), (1, .inl a1)]) (stₚ := [.inl (-3), .inl (I o (Int.toNat a1))]) (hₚ := gc_h sh I J A) (C := (True ∧ True)) rfl ⟨trivial, trivial⟩ ?_
      refine gv_icmp_ne (t := 42) hD rfl rfl ⟨⟨by (/-15-/first | (have o1 := gz_sh f19; omega) | (simp only [gz_hd] at *; omega)), by (/-16-/first | (have o1 := gz_sh f19; omega) | (simp only [gz_hd] at *; omega))⟩, ⟨by (/-17-/first | omega | (simp only [gz_hd] at *; omega)), by (/-18-/first | omega | (simp only [gz_hd] at *; omega))⟩⟩ (fun c20 => ?_) (fun c20 => ?_)
      · show gv_X _ _ (42, [(0, .inr (.inr (some 86))), (1, .inl a1)], [], sh, gc_h sh I J A)
        refine gv_run 1 true hD (pcₚ := 43) (lvₚ := [(0, .inr (.inr (some 86))), (1, .inl a1)]) (stₚ := [.inr (.inr (some 86))]) (hₚ := gc_h sh I J A) (C := (True ∧ True)) rfl ⟨trivial, trivial⟩ ?_
        refine gv_get hD rfl rfl S_86 ⟨by decide, (gz_sh B_86)⟩ (gc_hS (n := 1001) (q := o) S_86 rfl (by (/-19-/first | omega | (simp only [gz_hd] at *; omega)))) ?_
        show gv_X _ _ (46, [(0, .inr (.inr (some 86))), (1, .inl a1)], [.inr (.inr (some o))], sh, gc_h sh I J A)
        refine gv_run 1 true hD (pcₚ := 47) (lvₚ := [(0, .inr (.inr (some 86))), (1, .inl a1)]) (stₚ := [.inl a1, .inr (.inr (some o))]) (hₚ := gc_h sh I J A) (C := (True ∧ True)) rfl ⟨trivial, trivial⟩ ?_
        refine gv_iald hD rfl S_o rfl ⟨by decide, (gz_sh B_o)⟩ ⟨by (/-20-/first | omega | (simp only [gz_hd] at *; omega)), by (/-21-/first | (have o1 := gz_sh f1; omega) | (simp only [gz_hd] at *; omega))⟩ (gc_iI S_o rfl) ?_
        show gv_X _ _ (48, [(0, .inr (.inr (some 86))), (1, .inl a1)], [.inl (I o (Int.toNat a1))], sh, gc_h sh I J A)
        refine gv_if_lt (t := 83) hD rfl rfl ⟨by (/-22-/first | (have o1 := gz_sh f19; omega) | (simp only [gz_hd] at *; omega)), by (/-23-/first | (have o1 := gz_sh f19; omega) | (simp only [gz_hd] at *; omega))⟩ (fun c22 => ?_) (fun c22 => ?_)
        · show gv_X _ _ (83, [(0, .inr (.inr (some 86))), (1, .inl a1)], [], sh, gc_h sh I J A)
          refine gv_pick [] rfl ?_
          exact L83 
        · show gv_X _ _ (51, [(0, .inr (.inr (some 86))), (1, .inl a1)], [], sh, gc_h sh I J A)
          refine gv_run 1 true hD (pcₚ := 52) (lvₚ := [(0, .inr (.inr (some 86))), (1, .inl a1)]) (stₚ := [.inr (.inr (some 86))]) (hₚ := gc_h sh I J A) (C := (True ∧ True)) rfl ⟨trivial, trivial⟩ ?_
          refine gv_get hD rfl rfl S_86 ⟨by decide, (gz_sh B_86)⟩ (gc_hS (n := 1001) (q := o) S_86 rfl (by (/-24-/first | omega | (simp only [gz_hd] at *; omega)))) ?_
          show gv_X _ _ (55, [(0, .inr (.inr (some 86))), (1, .inl a1)], [.inr (.inr (some o))], sh, gc_h sh I J A)
          refine gv_run 1 true hD (pcₚ := 56) (lvₚ := [(0, .inr (.inr (some 86))), (1, .inl a1)]) (stₚ := [.inl a1, .inr (.inr (some o))]) (hₚ := gc_h sh I J A) (C := (True ∧ True)) rfl ⟨trivial, trivial⟩ ?_
          refine gv_iald hD rfl S_o rfl ⟨by decide, (gz_sh B_o)⟩ ⟨by (/-25-/first | omega | (simp only [gz_hd] at *; omega)), by (/-26-/first | (have o1 := gz_sh f1; omega) | (simp only [gz_hd] at *; omega))⟩ (gc_iI S_o rfl) ?_
          show gv_X _ _ (57, [(0, .inr (.inr (some 86))), (1, .inl a1)], [.inl (I o (Int.toNat a1))], sh, gc_h sh I J A)
          refine gv_run 1 true hD (pcₚ := 58) (lvₚ := [(0, .inr (.inr (some 86))), (1, .inl a1)]) (stₚ := [.inr (.inr (some 86)), .inl (I o (Int.toNat a1))]) (hₚ := gc_h sh I J A) (C := (True ∧ True)) rfl ⟨trivial, trivial⟩ ?_
          refine gv_get hD rfl rfl S_86 ⟨by decide, (gz_sh B_86)⟩ (gc_hI S_86 rfl) ?_
          show gv_X _ _ (61, [(0, .inr (.inr (some 86))), (1, .inl a1)], [.inl (I 86 17), .inl (I o (Int.toNat a1))], sh, gc_h sh I J A)
          refine gv_icmp_ge (t := 83) hD rfl rfl ⟨⟨by (/-27-/first | omega | (simp only [gz_hd] at *; omega)), by (/-28-/first | (have o1 := gz_sh f19; omega) | (simp only [gz_hd] at *; omega))⟩, ⟨by (/-29-/first | (have o1 := gz_sh f3; omega) | (simp only [gz_hd] at *; omega)), by (/-30-/first | (have o1 := gz_sh f3; omega) | (simp only [gz_hd] at *; omega))⟩⟩ (fun c25 => ?_) (fun c25 => ?_)
          · show gv_X _ _ (83, [(0, .inr (.inr (some 86))), (1, .inl a1)], [], sh, gc_h sh I J A)
            refine gv_pick [] rfl ?_
            exact L83 
          · show gv_X _ _ (64, [(0, .inr (.inr (some 86))), (1, .inl a1)], [], sh, gc_h sh I J A)
            refine gv_run 1 true hD (pcₚ := 65) (lvₚ := [(0, .inr (.inr (some 86))), (1, .inl a1)]) (stₚ := [.inr (.inr (some 86))]) (hₚ := gc_h sh I J A) (C := (True ∧ True)) rfl ⟨trivial, trivial⟩ ?_
            refine gv_get hD rfl rfl S_86 ⟨by decide, (gz_sh B_86)⟩ (gc_hA S_86 rfl A_86_15) ?_
            show gv_X _ _ (68, [(0, .inr (.inr (some 86))), (1, .inl a1)], [.inr (.inr (some 99))], sh, gc_h sh I J A)
            refine gv_run 1 true hD (pcₚ := 69) (lvₚ := [(0, .inr (.inr (some 86))), (1, .inl a1)]) (stₚ := [.inr (.inr (some 86)), .inr (.inr (some 99))]) (hₚ := gc_h sh I J A) (C := (True ∧ True)) rfl ⟨trivial, trivial⟩ ?_
            refine gv_get hD rfl rfl S_86 ⟨by decide, (gz_sh B_86)⟩ (gc_hI S_86 rfl) ?_
            show gv_X _ _ (72, [(0, .inr (.inr (some 86))), (1, .inl a1)], [.inl (I 86 17), .inr (.inr (some 99))], sh, gc_h sh I J A)
            refine gv_run 1 true hD (pcₚ := 73) (lvₚ := [(0, .inr (.inr (some 86))), (1, .inl a1)]) (stₚ := [.inr (.inr (some 86)), .inl (I 86 17), .inr (.inr (some 99))]) (hₚ := gc_h sh I J A) (C := (True ∧ True)) rfl ⟨trivial, trivial⟩ ?_
            refine gv_get hD rfl rfl S_86 ⟨by decide, (gz_sh B_86)⟩ (gc_hS (n := 1001) (q := o) S_86 rfl (by (/-31-/first | omega | (simp only [gz_hd] at *; omega)))) ?_
            show gv_X _ _ (76, [(0, .inr (.inr (some 86))), (1, .inl a1)], [.inr (.inr (some o)), .inl (I 86 17), .inr (.inr (some 99))], sh, gc_h sh I J A)
            refine gv_run 1 true hD (pcₚ := 77) (lvₚ := [(0, .inr (.inr (some 86))), (1, .inl a1)]) (stₚ := [.inl a1, .inr (.inr (some o)), .inl (I 86 17), .inr (.inr (some 99))]) (hₚ := gc_h sh I J A) (C := (True ∧ True)) rfl ⟨trivial, trivial⟩ ?_
            refine gv_iald hD rfl S_o rfl ⟨by decide, (gz_sh B_o)⟩ ⟨by (/-32-/first | omega | (simp only [gz_hd] at *; omega)), by (/-33-/first | (have o1 := gz_sh f1; omega) | (simp only [gz_hd] at *; omega))⟩ (gc_iI S_o rfl) ?_
            show gv_X _ _ (78, [(0, .inr (.inr (some 86))), (1, .inl a1)], [.inl (I o (Int.toNat a1)), .inl (I 86 17), .inr (.inr (some 99))], sh, gc_h sh I J A)
            refine gv_run 1 true hD (pcₚ := 79) (lvₚ := [(0, .inr (.inr (some 86))), (1, .inl a1)]) (stₚ := [.inl ((I 86 17) - (I o (Int.toNat a1))), .inr (.inr (some 99))]) (hₚ := gc_h sh I J A) (C := (True ∧ True)) rfl ⟨trivial, trivial⟩ ?_
            have f28 := gz_hi ((gc_b_64 hI (gz_sh R_99) (Int.toNat (((I 86 17) - (I o (Int.toNat a1)))))))
            refine gv_iald hD rfl S_99 rfl ⟨by decide, (gz_sh B_99)⟩ ⟨by (/-34-/first | omega | (simp only [gz_hd] at *; omega)), by (/-35-/first | (have o1 := gz_sh f3; omega) | (simp only [gz_hd] at *; omega))⟩ (gc_iI S_99 rfl) ?_
            show gv_X _ _ (80, [(0, .inr (.inr (some 86))), (1, .inl a1)], [.inl (I 99 (Int.toNat (((I 86 17) - (I o (Int.toNat a1))))))], sh, gc_h sh I J A)
            refine gv_run 1 true hD (pcₚ := 84) (lvₚ := [(0, .inr (.inr (some 86))), (1, .inl a1)]) (stₚ := [.inl (I 99 (Int.toNat (((I 86 17) - (I o (Int.toNat a1))))))]) (hₚ := gc_h sh I J A) (C := (True ∧ True)) rfl ⟨trivial, trivial⟩ ?_
            refine gv_pick [] rfl ?_
            exact L84 ((I 99 (Int.toNat (((I 86 17) - (I o (Int.toNat a1))))))) (by (/-36-/first | (and_intros; (have o1 := gz_sh f28; omega); (have o1 := gz_sh f28; omega)) | (simp only [gz_hd] at *; omega)))
      · show gv_X _ _ (25, [(0, .inr (.inr (some 86))), (1, .inl a1)], [], sh, gc_h sh I J A)
        refine gv_run 1 true hD (pcₚ := 26) (lvₚ := [(0, .inr (.inr (some 86))), (1, .inl a1)]) (stₚ := [.inr (.inr (some 86))]) (hₚ := gc_h sh I J A) (C := (True ∧ True)) rfl ⟨trivial, trivial⟩ ?_
        refine gv_get hD rfl rfl S_86 ⟨by decide, (gz_sh B_86)⟩ (gc_hA S_86 rfl A_86_0) ?_
        show gv_X _ _ (29, [(0, .inr (.inr (some 86))), (1, .inl a1)], [.inr (.inr (some 1))], sh, gc_h sh I J A)
        refine gv_get hD rfl rfl S_1 ⟨by decide, (gz_sh B_1)⟩ (gc_hA S_1 rfl A_1_2) ?_
        show gv_X _ _ (32, [(0, .inr (.inr (some 86))), (1, .inl a1)], [.inr (.inr (some 6))], sh, gc_h sh I J A)
        refine gv_run 1 true hD (pcₚ := 33) (lvₚ := [(0, .inr (.inr (some 86))), (1, .inl a1)]) (stₚ := [.inr (.inr (some 86)), .inr (.inr (some 6))]) (hₚ := gc_h sh I J A) (C := (True ∧ True)) rfl ⟨trivial, trivial⟩ ?_
        obtain ⟨f29_, hq_f29_, S_f29, R_f29, B_f29, D_f29⟩ := gc_sw (p := 86) (d := 2) (s := 2) (z := I 86 3) (gc_b_74_3 hI (gz_sh R_86)) S_88 (gz_sh R_88) (gz_sh B_88) S_90 (gz_sh R_90) (gz_sh B_90)
        refine gv_get hD rfl rfl S_86 ⟨by decide, (gz_sh B_86)⟩ (gc_hS (n := 1002) S_86 rfl hq_f29_) ?_
        show gv_X _ _ (36, [(0, .inr (.inr (some 86))), (1, .inl a1)], [.inr (.inr (some f29_)), .inr (.inr (some 6))], sh, gc_h sh I J A)
        refine gv_run 1 true hD (pcₚ := 37) (lvₚ := [(0, .inr (.inr (some 86))), (1, .inl a1)]) (stₚ := [.inl a1, .inr (.inr (some f29_)), .inr (.inr (some 6))]) (hₚ := gc_h sh I J A) (C := (True ∧ True)) rfl ⟨trivial, trivial⟩ ?_
        refine gv_lald hD rfl S_f29 rfl ⟨by decide, B_f29⟩ ⟨by (/-37-/first | omega | (simp only [gz_hd] at *; omega)), by (/-38-/first | (have o1 := gz_sh f1; omega) | (simp only [gz_hd] at *; omega))⟩ (gc_jJ S_f29 rfl) ?_
        show gv_X _ _ (38, [(0, .inr (.inr (some 86))), (1, .inl a1)], [.inr (.inl (J f29_ (Int.toNat a1))), .inr (.inr (some 6))], sh, gc_h sh I J A)
        obtain ⟨r31, h31, E31, P31⟩ := d_X4_find (ws0 := ws0) (tb := tb) hws htb sh ro I J A hI 6 8 6 ((J f29_ (Int.toNat a1))) (gc_b6 hb)     
        obtain ⟨rfl, ⟨z31, rfl, q31⟩⟩ := P31
        replace q31 := gz_hi q31
        refine gv_callV hD rfl (As := [.inr (.inl (J f29_ (Int.toNat a1)))]) (st := []) rfl (gz_sh B_6) S_6 rfl (gc_lV10 hws rfl) (Nat.le_of_ble_eq_true rfl) (gz_Ev_mono (d := 1) (by decide) E31) ?_
        show gv_X _ _ (41, [(0, .inr (.inr (some 86))), (1, .inl a1)], [.inl z31], sh, gc_h sh I J A)
        exact gv_iret hD rfl ⟨rfl, ⟨_, rfl, by (/-39-/first | (and_intros; (have o1 := gz_sh q31; omega); (have o1 := gz_sh q31; omega)) | (simp only [gz_hd] at *; omega))⟩⟩
    · show gv_X _ _ (12, [(0, .inr (.inr (some 86))), (1, .inl a1)], [], sh, gc_h sh I J A)
      refine gv_pick [] rfl ?_
      exact L12 
set_option maxHeartbeats 8000000 in
set_option maxRecDepth 100000 in
theorem d_X10_openAll {ws0 : List Cond} {tb : String → gz_T} (hws : gc_Ws ws0) (htb : gc_tbs tb) (sh : gz_Sh) (ro : Nat → Nat) (I : gr_I) (J : gr_J) (A : gc_A) (hI : gc_Inv ro I) (a1 : Int64) (a2 : Int) (hb : gc_Base sh ro A) (ha2 : 0 ≤ a2 ∧ a2 ≤ 300) (x0 : gc_OP J I) (x1 : I 86 9 + 2 ≤ a2) (x2 : I 86 17 ≤ I 86 9) : ∃ r hₚ, gz_Ev ws0 tb 2 (yX10_openAll, cX10_openAll, 5, (some .int)) [.inr (.inr (some 86)), .inr (.inl a1), .inl a2] sh (gc_h sh I J A) r sh hₚ 0 0 ∧ (∃ (Iₚ : gr_I) (Jₚ : gr_J), hₚ = gc_h sh Iₚ Jₚ A ∧ gc_Inv ro Iₚ ∧ (∀ q j : Nat, (q = 95 ∨ q = 96 ∨ q = 98 ∨ (q = 86 ∧ j = 9) ∨ (q = 86 ∧ j = 16) ∨ (q = 86 ∧ j = 17) ∨ q = 97 ∨ q = 99) ∨ Iₚ q j = I q j) ∧ (∀ q j : Nat, (q = 94) ∨ Jₚ q j = J q j) ∧ (∃ z : Int, r = some (.inl z) ∧ (-1) ≤ z ∧ z ≤ 1 ∧ (gc_OP Jₚ Iₚ) ∧ (0 ≤ z ∨ (Iₚ 86 17 ≤ Iₚ 86 9 ∧ Iₚ 86 9 ≤ Iₚ 86 16)))) := by
  have FI : ∀ q j : Nat, (q = 95 ∨ q = 96 ∨ q = 98 ∨ (q = 86 ∧ j = 9) ∨ (q = 86 ∧ j = 16) ∨ (q = 86 ∧ j = 17) ∨ q = 97 ∨ q = 99) ∨ I q j = I q j := fun _ _ => Or.inr rfl
  have FJ : ∀ q j : Nat, (q = 94) ∨ J q j = J q j := fun _ _ => Or.inr rfl
  have A_1_2 : A 1 2 = some 6 := gc_bA_1_2 hb
  have A_86_0 : A 86 0 = some 1 := gc_bA_86_0 hb
  have A_86_13 : A 86 13 = some 97 := gc_bA_86_13 hb
  have A_86_15 : A 86 15 = some 99 := gc_bA_86_15 hb
  have B_1 := gz_hi (show 1 < 1000000 from by decide)
  have B_6 := gz_hi (show 6 < 1000000 from by decide)
  have B_86 := gz_hi (show 86 < 1000000 from by decide)
  have B_97 := gz_hi (show 97 < 1000000 from by decide)
  have B_99 := gz_hi (show 99 < 1000000 from by decide)
  have R_6 := gz_hi (show ro 6 = 6 from gc_bR_6 hb)
  have R_86 := gz_hi (show ro 86 = 74 from gc_bR_86 hb)
  have R_97 := gz_hi (show ro 97 = 78 from gc_bR_97 hb)
  have R_99 := gz_hi (show ro 99 = 64 from gc_bR_99 hb)
  have S_1 : sh[1]? = some (false, 8, 21) := gc_bS_1 hb
  have S_6 : sh[6]? = some (false, 4, 2) := gc_bS_6 hb
  have S_86 : sh[86]? = some (false, 10, 19) := gc_bS_86 hb
  have S_97 : sh[97]? = some (true, 1, 300) := gc_bS_97 hb
  have S_99 : sh[99]? = some (true, 1, 301) := gc_bS_99 hb
  have hD : gv_D (gc_E10 ws0 tb 1 (yX10_openAll, cX10_openAll, 5, (some .int)) kX10_openAll) := gq_of oX10_openAll
  refine gc_ev10 (d := 1) (l := kX10_openAll) (Po := fun r hₚ => (∃ (Iₚ : gr_I) (Jₚ : gr_J), hₚ = gc_h sh Iₚ Jₚ A ∧ gc_Inv ro Iₚ ∧ (∀ q j : Nat, (q = 95 ∨ q = 96 ∨ q = 98 ∨ (q = 86 ∧ j = 9) ∨ (q = 86 ∧ j = 16) ∨ (q = 86 ∧ j = 17) ∨ q = 97 ∨ q = 99) ∨ Iₚ q j = I q j) ∧ (∀ q j : Nat, (q = 94) ∨ Jₚ q j = J q j) ∧ (∃ z : Int, r = some (.inl z) ∧ (-1) ≤ z ∧ z ≤ 1 ∧ (gc_OP Jₚ Iₚ) ∧ (0 ≤ z ∨ (Iₚ 86 17 ≤ Iₚ 86 9 ∧ Iₚ 86 9 ≤ Iₚ 86 16))))) htb rfl (Nat.le_of_ble_eq_true rfl) ?_
  have f3 := gz_hi ((gc_b_74_9 hI (gz_sh R_86)))
  have f5 := gz_hi ((gc_b_74_17 hI (gz_sh R_86)))
  have L13 : ∀ (s0_6 : Int), ((0 ≤ a2 ∧ a2 ≤ 300) ∧ (0 ≤ s0_6 ∧ s0_6 ≤ 1)) → gv_X (gc_E10 ws0 tb 1 (yX10_openAll, cX10_openAll, 5, (some .int)) kX10_openAll) (gv_Q cX10_openAll (some .int) sh (fun r hₚ => (∃ (Iₚ : gr_I) (Jₚ : gr_J), hₚ = gc_h sh Iₚ Jₚ A ∧ gc_Inv ro Iₚ ∧ (∀ q j : Nat, (q = 95 ∨ q = 96 ∨ q = 98 ∨ (q = 86 ∧ j = 9) ∨ (q = 86 ∧ j = 16) ∨ (q = 86 ∧ j = 17) ∨ q = 97 ∨ q = 99) ∨ Iₚ q j = I q j) ∧ (∀ q j : Nat, (q = 94) ∨ Jₚ q j = J q j) ∧ (∃ z : Int, r = some (.inl z) ∧ (-1) ≤ z ∧ z ≤ 1 ∧ (gc_OP Jₚ Iₚ) ∧ (0 ≤ z ∨ (Iₚ 86 17 ≤ Iₚ 86 9 ∧ Iₚ 86 9 ≤ Iₚ 86 16)))))) (13, [(0, .inr (.inr (some 86))), (1, .inr (.inl a1)), (3, .inl a2)], [.inl s0_6], sh, gc_h sh I J A) := by
    intro s0_6 m_6
    obtain ⟨ha2_6, hs0_6⟩ := gz_h2 m_6
    refine gv_run 2 true hD (pcₚ := 16) (lvₚ := [(4, .inl s0_6), (0, .inr (.inr (some 86))), (1, .inr (.inl a1)), (3, .inl a2)]) (stₚ := [.inr (.inr (some 86))]) (hₚ := gc_h sh I J A) (C := ((True ∧ True) ∧ True)) rfl ⟨⟨trivial, trivial⟩, trivial⟩ ?_
    refine gv_get hD rfl rfl S_86 ⟨by decide, (gz_sh B_86)⟩ (gc_hA S_86 rfl A_86_0) ?_
    show gv_X _ _ (19, [(4, .inl s0_6), (0, .inr (.inr (some 86))), (1, .inr (.inl a1)), (3, .inl a2)], [.inr (.inr (some 1))], sh, gc_h sh I J A)
    refine gv_get hD rfl rfl S_1 ⟨by decide, (gz_sh B_1)⟩ (gc_hA S_1 rfl A_1_2) ?_
    show gv_X _ _ (22, [(4, .inl s0_6), (0, .inr (.inr (some 86))), (1, .inr (.inl a1)), (3, .inl a2)], [.inr (.inr (some 6))], sh, gc_h sh I J A)
    have f12 := gz_hi ((gc_b_6_1 hI (gz_sh R_6)))
    refine gv_get hD rfl rfl S_6 ⟨by decide, (gz_sh B_6)⟩ (gc_hI S_6 rfl) ?_
    show gv_X _ _ (25, [(4, .inl s0_6), (0, .inr (.inr (some 86))), (1, .inr (.inl a1)), (3, .inl a2)], [.inl (I 6 1)], sh, gc_h sh I J A)
    refine gv_if_ne (t := 31) hD rfl rfl ⟨by (/-0-/first | (have o1 := gz_sh f12; omega) | (simp only [gz_hd] at *; omega)), by (/-1-/first | (have o1 := gz_sh f12; omega) | (simp only [gz_hd] at *; omega))⟩ (fun c13 => ?_) (fun c13 => ?_)
    · show gv_X _ _ (31, [(4, .inl s0_6), (0, .inr (.inr (some 86))), (1, .inr (.inl a1)), (3, .inl a2)], [], sh, gc_h sh I J A)
      refine gv_run 2 true hD (pcₚ := 33) (lvₚ := [(4, .inl s0_6), (0, .inr (.inr (some 86))), (1, .inr (.inl a1)), (3, .inl a2)]) (stₚ := [.inr (.inr (some 86)), .inr (.inr (some 86))]) (hₚ := gc_h sh I J A) (C := ((True ∧ True) ∧ True)) rfl ⟨⟨trivial, trivial⟩, trivial⟩ ?_
      refine gv_get hD rfl rfl S_86 ⟨by decide, (gz_sh B_86)⟩ (gc_hI S_86 rfl) ?_
      show gv_X _ _ (36, [(4, .inl s0_6), (0, .inr (.inr (some 86))), (1, .inr (.inl a1)), (3, .inl a2)], [.inl (I 86 17), .inr (.inr (some 86))], sh, gc_h sh I J A)
      refine gv_run 2 true hD (pcₚ := 38) (lvₚ := [(4, .inl s0_6), (0, .inr (.inr (some 86))), (1, .inr (.inl a1)), (3, .inl a2)]) (stₚ := [.inl ((I 86 17) + 1), .inr (.inr (some 86))]) (hₚ := gc_h sh I J A) (C := ((True ∧ True) ∧ True)) rfl ⟨⟨trivial, trivial⟩, trivial⟩ ?_
      refine gv_put hD rfl rfl S_86 ⟨by decide, (gz_sh B_86)⟩ rfl trivial ?_
      refine gc_st (k := 17) hI S_86 rfl (gz_sh R_86) (lo := 0) (hi := 300) rfl rfl (by (/-2-/first | (have o1 := gz_sh f5; omega) | (simp only [gz_hd] at *; omega))) (by (/-3-/first | omega | (simp only [gz_hd] at *; omega))) (fun I15 hI15 q16 p16 => ?_)
      have FI15 := gc_frs (W := fun q j => q = 95 ∨ q = 96 ∨ q = 98 ∨ (q = 86 ∧ j = 9) ∨ (q = 86 ∧ j = 16) ∨ (q = 86 ∧ j = 17) ∨ q = 97 ∨ q = 99) FI (Or.inr (Or.inr (Or.inr (Or.inr (Or.inr (Or.inl ⟨rfl, rfl⟩)))))) p16
      have t19 := gz_hi (p16 86 9 (fun h => absurd h.2 (by first | exact gz_ne rfl | decide)))
      have f21 := gz_hi ((gc_b_74_17 hI15 (gz_sh R_86)))
      show gv_X _ _ (41, [(4, .inl s0_6), (0, .inr (.inr (some 86))), (1, .inr (.inl a1)), (3, .inl a2)], [], sh, gc_h sh I15 J A)
      refine gv_run 1 true hD (pcₚ := 42) (lvₚ := [(4, .inl s0_6), (0, .inr (.inr (some 86))), (1, .inr (.inl a1)), (3, .inl a2)]) (stₚ := [.inr (.inr (some 86))]) (hₚ := gc_h sh I15 J A) (C := (True ∧ True)) rfl ⟨trivial, trivial⟩ ?_
      refine gv_get hD rfl rfl S_86 ⟨by decide, (gz_sh B_86)⟩ (gc_hA S_86 rfl A_86_15) ?_
      show gv_X _ _ (45, [(4, .inl s0_6), (0, .inr (.inr (some 86))), (1, .inr (.inl a1)), (3, .inl a2)], [.inr (.inr (some 99))], sh, gc_h sh I15 J A)
      refine gv_run 1 true hD (pcₚ := 46) (lvₚ := [(4, .inl s0_6), (0, .inr (.inr (some 86))), (1, .inr (.inl a1)), (3, .inl a2)]) (stₚ := [.inr (.inr (some 86)), .inr (.inr (some 99))]) (hₚ := gc_h sh I15 J A) (C := (True ∧ True)) rfl ⟨trivial, trivial⟩ ?_
      refine gv_get hD rfl rfl S_86 ⟨by decide, (gz_sh B_86)⟩ (gc_hI S_86 rfl) ?_
      show gv_X _ _ (49, [(4, .inl s0_6), (0, .inr (.inr (some 86))), (1, .inr (.inl a1)), (3, .inl a2)], [.inl (I15 86 17), .inr (.inr (some 99))], sh, gc_h sh I15 J A)
      refine gv_run 1 true hD (pcₚ := 50) (lvₚ := [(4, .inl s0_6), (0, .inr (.inr (some 86))), (1, .inr (.inl a1)), (3, .inl a2)]) (stₚ := [.inl 0, .inl (I15 86 17), .inr (.inr (some 99))]) (hₚ := gc_h sh I15 J A) (C := (True ∧ True)) rfl ⟨trivial, trivial⟩ ?_
      refine gv_iast hD rfl S_99 ⟨by decide, (gz_sh B_99)⟩ ⟨by (/-4-/first | (have o1 := gz_sh f21; omega) | (simp only [gz_hd] at *; omega)), by (/-5-/first | (have o1 := gz_sh f21; omega) | (simp only [gz_hd] at *; omega))⟩ ?_
      refine gc_st hI15 S_99 rfl (gz_sh R_99) (lo := 0) (hi := 8) rfl rfl (by (/-6-/first | omega | (simp only [gz_hd] at *; omega))) (by (/-7-/first | omega | (simp only [gz_hd] at *; omega))) (fun I23 hI23 q24 p24 => ?_)
      have FI23 := gc_frs (W := fun q j => q = 95 ∨ q = 96 ∨ q = 98 ∨ (q = 86 ∧ j = 9) ∨ (q = 86 ∧ j = 16) ∨ (q = 86 ∧ j = 17) ∨ q = 97 ∨ q = 99) FI15 (Or.inr (Or.inr (Or.inr (Or.inr (Or.inr (Or.inr (Or.inr rfl))))))) p24
      have t27 := gz_hi (p24 86 9 (fun h => absurd h.1 (by first | exact gz_ne rfl | decide)))
      have t29 := gz_hi (p24 86 17 (fun h => absurd h.1 (by first | exact gz_ne rfl | decide)))
      show gv_X _ _ (51, [(4, .inl s0_6), (0, .inr (.inr (some 86))), (1, .inr (.inl a1)), (3, .inl a2)], [], sh, gc_h sh I23 J A)
      refine gv_run 4 true hD (pcₚ := 55) (lvₚ := [(4, .inl s0_6), (0, .inr (.inr (some 86))), (1, .inr (.inl a1)), (3, .inl a2)]) (stₚ := [.inl a2, .inl a2, .inr (.inl a1), .inr (.inr (some 86))]) (hₚ := gc_h sh I23 J A) (C := ((((True ∧ True) ∧ True) ∧ True) ∧ True)) rfl ⟨⟨⟨⟨trivial, trivial⟩, trivial⟩, trivial⟩, trivial⟩ ?_
      obtain ⟨r30, h30, E30, P30⟩ := d_X10_openUp (ws0 := ws0) (tb := tb) hws htb sh ro I23 J A hI23  a1 a2 a2 hb   ⟨by (/-8-/first | omega | (simp only [gz_hd] at *; omega)), by (/-9-/first | omega | (simp only [gz_hd] at *; omega))⟩ ⟨by (/-10-/first | omega | (simp only [gz_hd] at *; omega)), by (/-11-/first | omega | (simp only [gz_hd] at *; omega))⟩ (gc_OP_fr (m := 301) x0 (by (/-12-/first | (have o1 := gz_sh t19; have o2 := gz_sh t27; omega) | (simp only [gz_hd] at *; omega))) (fun k => ((p24 95 k (fun h => absurd h.1 (by (/-13-/first | omega | (simp only [gz_hd] at *; omega))))).trans (p16 95 k (fun h => absurd h.1 (by (/-14-/first | omega | (simp only [gz_hd] at *; omega))))))) (fun k => ((p24 98 k (fun h => absurd h.1 (by (/-15-/first | omega | (simp only [gz_hd] at *; omega))))).trans (p16 98 k (fun h => absurd h.1 (by (/-16-/first | omega | (simp only [gz_hd] at *; omega))))))) (fun k _ => ((p24 96 k (fun h => absurd h.1 (by (/-17-/first | omega | (simp only [gz_hd] at *; omega))))).trans (p16 96 k (fun h => absurd h.1 (by (/-18-/first | omega | (simp only [gz_hd] at *; omega))))))) (fun h => by (/-19-/first | (have o1 := gz_sh f3; have o2 := gz_sh t19; have o3 := gz_sh t27; omega) | (simp only [gz_hd] at *; omega)))) (Or.inr (by (/-20-/first | (have o1 := gz_sh t19; have o2 := gz_sh t27; omega) | (simp only [gz_hd] at *; omega)))) (by (/-21-/first | (have o1 := gz_sh t19; have o2 := gz_sh t27; omega) | (simp only [gz_hd] at *; omega))) (by (/-22-/first | (have o1 := gz_sh t19; have o2 := gz_sh t27; have o3 := gz_sh t29; omega) | (simp only [gz_hd] at *; omega))) 
      obtain ⟨I31, J32, rfl, hI31, g30, k30, ⟨z30, rfl, q30⟩⟩ := P30
      replace q30 := gz_hi q30
      have FI31 := gc_frc (W := fun q j => q = 95 ∨ q = 96 ∨ q = 98 ∨ (q = 86 ∧ j = 9) ∨ (q = 86 ∧ j = 16) ∨ (q = 86 ∧ j = 17) ∨ q = 97 ∨ q = 99) (V := fun q j => q = 95 ∨ q = 96 ∨ q = 98 ∨ (q = 86 ∧ j = 9) ∨ (q = 86 ∧ j = 16)) FI23 (fun q j h => (h.elim (fun h => (Or.inl h)) (fun h => (h.elim (fun h => (Or.inr (Or.inl h))) (fun h => (h.elim (fun h => (Or.inr (Or.inr (Or.inl h)))) (fun h => (h.elim (fun h => (Or.inr (Or.inr (Or.inr (Or.inl h))))) (fun h => (Or.inr (Or.inr (Or.inr (Or.inr (Or.inl h)))))))))))))) g30
      have FJ32 := gc_frc (W := fun q j => q = 94) (V := fun q j => q = 94) FJ (fun q j h => h) k30
      have t35 := gz_hi ((g30 86 17).resolve_left (fun h => h.elim (fun h => absurd h (by first | exact gz_ne rfl | decide)) (fun h => h.elim (fun h => absurd h (by first | exact gz_ne rfl | decide)) (fun h => h.elim (fun h => absurd h (by first | exact gz_ne rfl | decide)) (fun h => h.elim (fun h => absurd h.2 (by first | exact gz_ne rfl | decide)) (fun h => absurd h.2 (by first | exact gz_ne rfl | decide)))))))
      have f36 := gz_hi ((gc_b_74_9 hI31 (gz_sh R_86)))
      refine gv_callV hD rfl (As := [.inr (.inl a1), .inl a2, .inl a2]) (st := []) rfl (gz_sh B_86) S_86 rfl (gc_lV10 hws rfl) (Nat.le_of_ble_eq_true rfl) (gz_Ev_mono (d := 1) (by decide) E30) ?_
      show gv_X _ _ (58, [(4, .inl s0_6), (0, .inr (.inr (some 86))), (1, .inr (.inl a1)), (3, .inl a2)], [.inl z30], sh, gc_h sh I31 J32 A)
      refine gv_run 2 true hD (pcₚ := 60) (lvₚ := [(4, .inl s0_6), (0, .inr (.inr (some 86))), (1, .inr (.inl a1)), (3, .inl a2)]) (stₚ := [.inr (.inr (some 86))]) (hₚ := gc_h sh I31 J32 A) (C := ((True ∧ True) ∧ True)) rfl ⟨⟨trivial, trivial⟩, trivial⟩ ?_
      refine gv_get hD rfl rfl S_86 ⟨by decide, (gz_sh B_86)⟩ (gc_hA S_86 rfl A_86_13) ?_
      show gv_X _ _ (63, [(4, .inl s0_6), (0, .inr (.inr (some 86))), (1, .inr (.inl a1)), (3, .inl a2)], [.inr (.inr (some 97))], sh, gc_h sh I31 J32 A)
      refine gv_run 1 true hD (pcₚ := 64) (lvₚ := [(4, .inl s0_6), (0, .inr (.inr (some 86))), (1, .inr (.inl a1)), (3, .inl a2)]) (stₚ := [.inr (.inr (some 86)), .inr (.inr (some 97))]) (hₚ := gc_h sh I31 J32 A) (C := (True ∧ True)) rfl ⟨trivial, trivial⟩ ?_
      refine gv_get hD rfl rfl S_86 ⟨by decide, (gz_sh B_86)⟩ (gc_hI S_86 rfl) ?_
      show gv_X _ _ (67, [(4, .inl s0_6), (0, .inr (.inr (some 86))), (1, .inr (.inl a1)), (3, .inl a2)], [.inl (I31 86 9), .inr (.inr (some 97))], sh, gc_h sh I31 J32 A)
      refine gv_run 3 true hD (pcₚ := 71) (lvₚ := [(4, .inl s0_6), (0, .inr (.inr (some 86))), (1, .inr (.inl a1)), (3, .inl a2)]) (stₚ := [.inl s0_6, .inl ((I31 86 9) - 1), .inr (.inr (some 97))]) (hₚ := gc_h sh I31 J32 A) (C := (((True ∧ True) ∧ True) ∧ True)) rfl ⟨⟨⟨trivial, trivial⟩, trivial⟩, trivial⟩ ?_
      refine gv_iast hD rfl S_97 ⟨by decide, (gz_sh B_97)⟩ ⟨by (/-23-/first | (have o1 := gz_sh f3; have o2 := gz_sh q30; have o3 := gz_sh t19; have o4 := gz_sh t27; omega) | (simp only [gz_hd] at *; omega)), by (/-24-/first | (have o1 := gz_sh f36; omega) | (simp only [gz_hd] at *; omega))⟩ ?_
      refine gc_st hI31 S_97 rfl (gz_sh R_97) (lo := 0) (hi := 1) rfl rfl (by (/-25-/first | (have o1 := gz_sh hs0_6; omega) | (simp only [gz_hd] at *; omega))) (by (/-26-/first | (have o1 := gz_sh hs0_6; omega) | (simp only [gz_hd] at *; omega))) (fun I39 hI39 q40 p40 => ?_)
      have FI39 := gc_frs (W := fun q j => q = 95 ∨ q = 96 ∨ q = 98 ∨ (q = 86 ∧ j = 9) ∨ (q = 86 ∧ j = 16) ∨ (q = 86 ∧ j = 17) ∨ q = 97 ∨ q = 99) FI31 (Or.inr (Or.inr (Or.inr (Or.inr (Or.inr (Or.inr (Or.inl rfl))))))) p40
      have t43 := gz_hi (p40 86 9 (fun h => absurd h.1 (by first | exact gz_ne rfl | decide)))
      have t44 := gz_hi (p40 86 16 (fun h => absurd h.1 (by first | exact gz_ne rfl | decide)))
      have t45 := gz_hi (p40 86 17 (fun h => absurd h.1 (by first | exact gz_ne rfl | decide)))
      show gv_X _ _ (72, [(4, .inl s0_6), (0, .inr (.inr (some 86))), (1, .inr (.inl a1)), (3, .inl a2)], [], sh, gc_h sh I39 J32 A)
      refine gv_run 1 true hD (pcₚ := 73) (lvₚ := [(4, .inl s0_6), (0, .inr (.inr (some 86))), (1, .inr (.inl a1)), (3, .inl a2)]) (stₚ := [.inl (-1)]) (hₚ := gc_h sh I39 J32 A) (C := (True ∧ True)) rfl ⟨trivial, trivial⟩ ?_
      exact gv_iret hD rfl ⟨I39, J32, rfl, hI39, FI39, FJ32, ⟨_, rfl, by (/-27-/first | omega | (simp only [gz_hd] at *; omega)), by (/-28-/first | omega | (simp only [gz_hd] at *; omega)), (gc_OP_fr (m := 301) (gz_sh q30).2.2.1 (by (/-29-/first | (have o1 := gz_sh t43; omega) | (simp only [gz_hd] at *; omega))) (fun k => (p40 95 k (fun h => absurd h.1 (by (/-30-/first | omega | (simp only [gz_hd] at *; omega)))))) (fun k => (p40 98 k (fun h => absurd h.1 (by (/-31-/first | omega | (simp only [gz_hd] at *; omega)))))) (fun k _ => (p40 96 k (fun h => absurd h.1 (by (/-32-/first | omega | (simp only [gz_hd] at *; omega)))))) (fun h => by (/-33-/first | (have o1 := gz_sh f3; have o2 := gz_sh f36; have o3 := gz_sh q30; have o4 := gz_sh t19; have o5 := gz_sh t27; have o6 := gz_sh t43; omega) | (simp only [gz_hd] at *; omega)))), by (/-34-/first | (have o1 := gz_sh q30; have o2 := gz_sh t19; have o3 := gz_sh t27; have o4 := gz_sh t29; have o5 := gz_sh t35; have o6 := gz_sh t43; have o7 := gz_sh t44; have o8 := gz_sh t45; omega) | (simp only [gz_hd] at *; omega))⟩⟩
    · show gv_X _ _ (28, [(4, .inl s0_6), (0, .inr (.inr (some 86))), (1, .inr (.inl a1)), (3, .inl a2)], [], sh, gc_h sh I J A)
      refine gv_run 1 true hD (pcₚ := 30) (lvₚ := [(4, .inl s0_6), (0, .inr (.inr (some 86))), (1, .inr (.inl a1)), (3, .inl a2)]) (stₚ := [.inl s0_6]) (hₚ := gc_h sh I J A) (C := (True ∧ True)) rfl ⟨trivial, trivial⟩ ?_
      exact gv_iret hD rfl ⟨I, J, rfl, hI, FI, FJ, ⟨_, rfl, by (/-35-/first | (have o1 := gz_sh hs0_6; omega) | (simp only [gz_hd] at *; omega)), by (/-36-/first | (have o1 := gz_sh hs0_6; omega) | (simp only [gz_hd] at *; omega)), x0, by (/-37-/first | (have o1 := gz_sh hs0_6; omega) | (simp only [gz_hd] at *; omega))⟩⟩
  have f46 := gz_hi (gw_cmp (a1) ((6384748)))
  refine gv_run 3 true hD (pcₚ := 5) (lvₚ := [(0, .inr (.inr (some 86))), (1, .inr (.inl a1)), (3, .inl a2)]) (stₚ := [.inl ((lg_cmp (a1) ((6384748))).toInt)]) (hₚ := gc_h sh I J A) (C := (((True ∧ True) ∧ True) ∧ True)) rfl ⟨⟨⟨trivial, trivial⟩, trivial⟩, trivial⟩ ?_
  refine gv_if_ne (t := 12) hD rfl rfl ⟨by (/-38-/first | (have o1 := gz_sh f46; omega) | (simp only [gz_hd] at *; omega)), by (/-39-/first | (have o1 := gz_sh f46; omega) | (simp only [gz_hd] at *; omega))⟩ (fun c47 => ?_) (fun c47 => ?_)
  · show gv_X _ _ (12, [(0, .inr (.inr (some 86))), (1, .inr (.inl a1)), (3, .inl a2)], [], sh, gc_h sh I J A)
    refine gv_run 1 true hD (pcₚ := 13) (lvₚ := [(0, .inr (.inr (some 86))), (1, .inr (.inl a1)), (3, .inl a2)]) (stₚ := [.inl 0]) (hₚ := gc_h sh I J A) (C := (True ∧ True)) rfl ⟨trivial, trivial⟩ ?_
    exact L13 0 (by (/-40-/first | (and_intros <;> omega) | (simp only [gz_hd] at *; omega)))
  · show gv_X _ _ (8, [(0, .inr (.inr (some 86))), (1, .inr (.inl a1)), (3, .inl a2)], [], sh, gc_h sh I J A)
    refine gv_run 2 true hD (pcₚ := 13) (lvₚ := [(0, .inr (.inr (some 86))), (1, .inr (.inl a1)), (3, .inl a2)]) (stₚ := [.inl 1]) (hₚ := gc_h sh I J A) (C := ((True ∧ True) ∧ True)) rfl ⟨⟨trivial, trivial⟩, trivial⟩ ?_
    exact L13 1 (by (/-41-/first | (and_intros <;> omega) | (simp only [gz_hd] at *; omega)))
set_option maxHeartbeats 8000000 in
set_option maxRecDepth 100000 in
theorem d_X10_goOn_L40 {ws0 : List Cond} {tb : String → gz_T} (hws : gc_Ws ws0) (htb : gc_tbs tb) (sh : gz_Sh) (ro : Nat → Nat) (I : gr_I) (J : gr_J) (A : gc_A) (hI : gc_Inv ro I) (a1 : Int) (hb : gc_Base sh ro A) (ha1 : 0 ≤ a1 ∧ a1 ≤ 1) (x0 : gc_OP J I) (x1 : 1 ≤ I 86 9) : ∀ (I7 : gr_I) (J8 : gr_J) (v2_9 : Int) (v3_9 : Int64), gc_Inv ro I7 → (∀ q j : Nat, ((q = 96 ∧ j = (Int.toNat (((I 86 9) - 1)))) ∨ q = 97 ∨ q = 99 ∨ (q = 86 ∧ j = 9) ∨ (q = 86 ∧ j = 16) ∨ (q = 86 ∧ j = 17)) ∨ I7 q j = I q j) → (∀ q j : Nat, (False) ∨ J8 q j = J q j) → ((0 ≤ a1 ∧ a1 ≤ 1) ∧ ((-1) ≤ v2_9 ∧ v2_9 ≤ 299) ∧ (v2_9 = I 86 9 - 1) ∧ (I7 86 9 = I 86 9) ∧ (I7 96 (Int.toNat v2_9) = I 96 (Int.toNat v2_9) + 1) ∧ (I 96 (Int.toNat v2_9) ≤ 7) ∧ (I 98 (Int.toNat v2_9) ≤ v2_9 + 1)) → (v3_9 = J 94 (Int.toNat v2_9)) → (v2_9 + 1 ≤ I 95 (Int.toNat v2_9)) → gv_X (gc_E10 ws0 tb 0 (yX10_goOn, cX10_goOn, 5, (some .int)) kX10_goOn) (gv_Q cX10_goOn (some .int) sh (fun r hₚ => (∃ (Iₚ : gr_I) (Jₚ : gr_J), hₚ = gc_h sh Iₚ Jₚ A ∧ gc_Inv ro Iₚ ∧ (∀ q j : Nat, ((q = 96 ∧ j = (Int.toNat (((I 86 9) - 1)))) ∨ q = 97 ∨ q = 99 ∨ (q = 86 ∧ j = 9) ∨ (q = 86 ∧ j = 16) ∨ (q = 86 ∧ j = 17)) ∨ Iₚ q j = I q j) ∧ (∀ q j : Nat, (False) ∨ Jₚ q j = J q j) ∧ (∃ z : Int, r = some (.inl z) ∧ (-1) ≤ z ∧ z ≤ 1 ∧ (gc_OP Jₚ Iₚ) ∧ (0 ≤ z ∨ (Iₚ 86 17 ≤ Iₚ 86 9 ∧ Iₚ 86 9 ≤ Iₚ 86 16)) ∧ (Iₚ 86 9 ≤ I 86 9))))) (40, [(0, .inr (.inr (some 86))), (1, .inl a1), (2, .inl v2_9), (3, .inr (.inl v3_9))], [], sh, gc_h sh I7 J8 A) := by
  have FI : ∀ q j : Nat, ((q = 96 ∧ j = (Int.toNat (((I 86 9) - 1)))) ∨ q = 97 ∨ q = 99 ∨ (q = 86 ∧ j = 9) ∨ (q = 86 ∧ j = 16) ∨ (q = 86 ∧ j = 17)) ∨ I q j = I q j := fun _ _ => Or.inr rfl
  have FJ : ∀ q j : Nat, (False) ∨ J q j = J q j := fun _ _ => Or.inr rfl
  have A_1_2 : A 1 2 = some 6 := gc_bA_1_2 hb
  have A_86_0 : A 86 0 = some 1 := gc_bA_86_0 hb
  have A_86_10 : A 86 10 = some 94 := gc_bA_86_10 hb
  have A_86_11 : A 86 11 = some 95 := gc_bA_86_11 hb
  have A_86_12 : A 86 12 = some 96 := gc_bA_86_12 hb
  have A_86_13 : A 86 13 = some 97 := gc_bA_86_13 hb
  have A_86_14 : A 86 14 = some 98 := gc_bA_86_14 hb
  have A_86_15 : A 86 15 = some 99 := gc_bA_86_15 hb
  have B_1 := gz_hi (show 1 < 1000000 from by decide)
  have B_6 := gz_hi (show 6 < 1000000 from by decide)
  have B_86 := gz_hi (show 86 < 1000000 from by decide)
  have B_94 := gz_hi (show 94 < 1000000 from by decide)
  have B_95 := gz_hi (show 95 < 1000000 from by decide)
  have B_96 := gz_hi (show 96 < 1000000 from by decide)
  have B_97 := gz_hi (show 97 < 1000000 from by decide)
  have B_98 := gz_hi (show 98 < 1000000 from by decide)
  have B_99 := gz_hi (show 99 < 1000000 from by decide)
  have R_6 := gz_hi (show ro 6 = 6 from gc_bR_6 hb)
  have R_86 := gz_hi (show ro 86 = 74 from gc_bR_86 hb)
  have R_95 := gz_hi (show ro 95 = 61 from gc_bR_95 hb)
  have R_96 := gz_hi (show ro 96 = 62 from gc_bR_96 hb)
  have R_97 := gz_hi (show ro 97 = 78 from gc_bR_97 hb)
  have R_98 := gz_hi (show ro 98 = 63 from gc_bR_98 hb)
  have R_99 := gz_hi (show ro 99 = 64 from gc_bR_99 hb)
  have S_1 : sh[1]? = some (false, 8, 21) := gc_bS_1 hb
  have S_6 : sh[6]? = some (false, 4, 2) := gc_bS_6 hb
  have S_86 : sh[86]? = some (false, 10, 19) := gc_bS_86 hb
  have S_94 : sh[94]? = some (true, 2, 300) := gc_bS_94 hb
  have S_95 : sh[95]? = some (true, 1, 300) := gc_bS_95 hb
  have S_96 : sh[96]? = some (true, 1, 300) := gc_bS_96 hb
  have S_97 : sh[97]? = some (true, 1, 300) := gc_bS_97 hb
  have S_98 : sh[98]? = some (true, 1, 300) := gc_bS_98 hb
  have S_99 : sh[99]? = some (true, 1, 301) := gc_bS_99 hb
  have hD : gv_D (gc_E10 ws0 tb 0 (yX10_goOn, cX10_goOn, 5, (some .int)) kX10_goOn) := gq_of oX10_goOn
  have f3 := gz_hi ((gc_b_74_9 hI (gz_sh R_86)))
  intro I7 J8 v2_9 v3_9 hI7 FI7 FJ8 m_9 e5_9 e6_9
  obtain ⟨ha1_9, hv2_9, e0_9, e1_9, e2_9, e3_9, e4_9⟩ := gz_h7 m_9
  have f15 := gz_hi ((gc_b_6_1 hI7 (gz_sh R_6)))
  refine gv_run 1 true hD (pcₚ := 41) (lvₚ := [(0, .inr (.inr (some 86))), (1, .inl a1), (2, .inl v2_9), (3, .inr (.inl v3_9))]) (stₚ := [.inr (.inr (some 86))]) (hₚ := gc_h sh I7 J8 A) (C := (True ∧ True)) rfl ⟨trivial, trivial⟩ ?_
  refine gv_get hD rfl rfl S_86 ⟨by decide, (gz_sh B_86)⟩ (gc_hA S_86 rfl A_86_13) ?_
  show gv_X _ _ (44, [(0, .inr (.inr (some 86))), (1, .inl a1), (2, .inl v2_9), (3, .inr (.inl v3_9))], [.inr (.inr (some 97))], sh, gc_h sh I7 J8 A)
  have f16 := gz_hi (gw_cmp (v3_9) ((6384748)))
  refine gv_run 4 true hD (pcₚ := 50) (lvₚ := [(0, .inr (.inr (some 86))), (1, .inl a1), (2, .inl v2_9), (3, .inr (.inl v3_9))]) (stₚ := [.inl ((lg_cmp (v3_9) ((6384748))).toInt), .inl v2_9, .inr (.inr (some 97))]) (hₚ := gc_h sh I7 J8 A) (C := ((((True ∧ True) ∧ True) ∧ True) ∧ True)) rfl ⟨⟨⟨⟨trivial, trivial⟩, trivial⟩, trivial⟩, trivial⟩ ?_
  refine gv_if_ne (t := 64) hD rfl rfl ⟨by (/-0-/first | (have o1 := gz_sh f16; omega) | (simp only [gz_hd] at *; omega)), by (/-1-/first | (have o1 := gz_sh f16; omega) | (simp only [gz_hd] at *; omega))⟩ (fun c17 => ?_) (fun c17 => ?_)
  · show gv_X _ _ (64, [(0, .inr (.inr (some 86))), (1, .inl a1), (2, .inl v2_9), (3, .inr (.inl v3_9))], [.inl v2_9, .inr (.inr (some 97))], sh, gc_h sh I7 J8 A)
    refine gv_run 1 true hD (pcₚ := 65) (lvₚ := [(0, .inr (.inr (some 86))), (1, .inl a1), (2, .inl v2_9), (3, .inr (.inl v3_9))]) (stₚ := [.inr (.inr (some 86)), .inl v2_9, .inr (.inr (some 97))]) (hₚ := gc_h sh I7 J8 A) (C := (True ∧ True)) rfl ⟨trivial, trivial⟩ ?_
    refine gv_get hD rfl rfl S_86 ⟨by decide, (gz_sh B_86)⟩ (gc_hA S_86 rfl A_86_13) ?_
    show gv_X _ _ (68, [(0, .inr (.inr (some 86))), (1, .inl a1), (2, .inl v2_9), (3, .inr (.inl v3_9))], [.inr (.inr (some 97)), .inl v2_9, .inr (.inr (some 97))], sh, gc_h sh I7 J8 A)
    refine gv_run 1 true hD (pcₚ := 69) (lvₚ := [(0, .inr (.inr (some 86))), (1, .inl a1), (2, .inl v2_9), (3, .inr (.inl v3_9))]) (stₚ := [.inl v2_9, .inr (.inr (some 97)), .inl v2_9, .inr (.inr (some 97))]) (hₚ := gc_h sh I7 J8 A) (C := (True ∧ True)) rfl ⟨trivial, trivial⟩ ?_
    have f18 := gz_hi ((gc_b_78 hI7 (gz_sh R_97) (Int.toNat v2_9)))
    refine gv_iald hD rfl S_97 rfl ⟨by decide, (gz_sh B_97)⟩ ⟨by (/-2-/first | (have o1 := gz_sh e0_9; omega) | (simp only [gz_hd] at *; omega)), by (/-3-/first | (have o1 := gz_sh e0_9; have o2 := gz_sh f3; omega) | (simp only [gz_hd] at *; omega))⟩ (gc_iI S_97 rfl) ?_
    show gv_X _ _ (70, [(0, .inr (.inr (some 86))), (1, .inl a1), (2, .inl v2_9), (3, .inr (.inl v3_9))], [.inl (I7 97 (Int.toNat v2_9)), .inl v2_9, .inr (.inr (some 97))], sh, gc_h sh I7 J8 A)
    have f19 := gz_hi (gc_or1 (x := ((I7 97 (Int.toNat v2_9)))) (y := a1) ⟨by (/-4-/first | (have o1 := gz_sh f18; omega) | (simp only [gz_hd] at *; omega)), by (/-5-/first | (have o1 := gz_sh f18; omega) | (simp only [gz_hd] at *; omega))⟩ ⟨by (/-6-/first | omega | (simp only [gz_hd] at *; omega)), by (/-7-/first | omega | (simp only [gz_hd] at *; omega))⟩)
    refine gv_run 2 true hD (pcₚ := 72) (lvₚ := [(0, .inr (.inr (some 86))), (1, .inl a1), (2, .inl v2_9), (3, .inr (.inl v3_9))]) (stₚ := [.inl ((Int32.ofInt ((I7 97 (Int.toNat v2_9))) ||| Int32.ofInt a1).toInt), .inl v2_9, .inr (.inr (some 97))]) (hₚ := gc_h sh I7 J8 A) (C := ((True ∧ True) ∧ True)) rfl ⟨⟨trivial, trivial⟩, trivial⟩ ?_
    refine gv_iast hD rfl S_97 ⟨by decide, (gz_sh B_97)⟩ ⟨by (/-8-/first | (have o1 := gz_sh e0_9; omega) | (simp only [gz_hd] at *; omega)), by (/-9-/first | (have o1 := gz_sh e0_9; have o2 := gz_sh f3; omega) | (simp only [gz_hd] at *; omega))⟩ ?_
    refine gc_st hI7 S_97 rfl (gz_sh R_97) (lo := 0) (hi := 1) rfl rfl (by (/-10-/first | (have o1 := gz_sh f19; omega) | (simp only [gz_hd] at *; omega))) (by (/-11-/first | (have o1 := gz_sh f19; omega) | (simp only [gz_hd] at *; omega))) (fun I20 hI20 q21 p21 => ?_)
    have FI20 := gc_frs (W := fun q j => (q = 96 ∧ j = (Int.toNat (((I 86 9) - 1)))) ∨ q = 97 ∨ q = 99 ∨ (q = 86 ∧ j = 9) ∨ (q = 86 ∧ j = 16) ∨ (q = 86 ∧ j = 17)) FI7 (Or.inr (Or.inl rfl)) p21
    have t24 := gz_hi (p21 86 9 (fun h => absurd h.1 (by first | exact gz_ne rfl | decide)))
    have t27 := gz_hi (p21 6 1 (fun h => absurd h.1 (by first | exact gz_ne rfl | decide)))
    have t28 := gz_hi (p21 96 (Int.toNat v2_9) (fun h => absurd h.1 (by first | exact gz_ne rfl | decide)))
    show gv_X _ _ (73, [(0, .inr (.inr (some 86))), (1, .inl a1), (2, .inl v2_9), (3, .inr (.inl v3_9))], [], sh, gc_h sh I20 J8 A)
    refine gv_run 1 true hD (pcₚ := 74) (lvₚ := [(0, .inr (.inr (some 86))), (1, .inl a1), (2, .inl v2_9), (3, .inr (.inl v3_9))]) (stₚ := [.inr (.inr (some 86))]) (hₚ := gc_h sh I20 J8 A) (C := (True ∧ True)) rfl ⟨trivial, trivial⟩ ?_
    refine gv_get hD rfl rfl S_86 ⟨by decide, (gz_sh B_86)⟩ (gc_hA S_86 rfl A_86_12) ?_
    show gv_X _ _ (77, [(0, .inr (.inr (some 86))), (1, .inl a1), (2, .inl v2_9), (3, .inr (.inl v3_9))], [.inr (.inr (some 96))], sh, gc_h sh I20 J8 A)
    refine gv_run 1 true hD (pcₚ := 78) (lvₚ := [(0, .inr (.inr (some 86))), (1, .inl a1), (2, .inl v2_9), (3, .inr (.inl v3_9))]) (stₚ := [.inl v2_9, .inr (.inr (some 96))]) (hₚ := gc_h sh I20 J8 A) (C := (True ∧ True)) rfl ⟨trivial, trivial⟩ ?_
    have f29 := gz_hi ((gc_b_62 hI20 (gz_sh R_96) (Int.toNat v2_9)))
    refine gv_iald hD rfl S_96 rfl ⟨by decide, (gz_sh B_96)⟩ ⟨by (/-12-/first | (have o1 := gz_sh e0_9; omega) | (simp only [gz_hd] at *; omega)), by (/-13-/first | (have o1 := gz_sh e0_9; have o2 := gz_sh f3; omega) | (simp only [gz_hd] at *; omega))⟩ (gc_iI S_96 rfl) ?_
    show gv_X _ _ (79, [(0, .inr (.inr (some 86))), (1, .inl a1), (2, .inl v2_9), (3, .inr (.inl v3_9))], [.inl (I20 96 (Int.toNat v2_9))], sh, gc_h sh I20 J8 A)
    refine gv_run 1 true hD (pcₚ := 80) (lvₚ := [(0, .inr (.inr (some 86))), (1, .inl a1), (2, .inl v2_9), (3, .inr (.inl v3_9))]) (stₚ := [.inr (.inr (some 86)), .inl (I20 96 (Int.toNat v2_9))]) (hₚ := gc_h sh I20 J8 A) (C := (True ∧ True)) rfl ⟨trivial, trivial⟩ ?_
    refine gv_get hD rfl rfl S_86 ⟨by decide, (gz_sh B_86)⟩ (gc_hA S_86 rfl A_86_0) ?_
    show gv_X _ _ (83, [(0, .inr (.inr (some 86))), (1, .inl a1), (2, .inl v2_9), (3, .inr (.inl v3_9))], [.inr (.inr (some 1)), .inl (I20 96 (Int.toNat v2_9))], sh, gc_h sh I20 J8 A)
    refine gv_get hD rfl rfl S_1 ⟨by decide, (gz_sh B_1)⟩ (gc_hA S_1 rfl A_1_2) ?_
    show gv_X _ _ (86, [(0, .inr (.inr (some 86))), (1, .inl a1), (2, .inl v2_9), (3, .inr (.inl v3_9))], [.inr (.inr (some 6)), .inl (I20 96 (Int.toNat v2_9))], sh, gc_h sh I20 J8 A)
    refine gv_get hD rfl rfl S_6 ⟨by decide, (gz_sh B_6)⟩ (gc_hI S_6 rfl) ?_
    show gv_X _ _ (89, [(0, .inr (.inr (some 86))), (1, .inl a1), (2, .inl v2_9), (3, .inr (.inl v3_9))], [.inl (I20 6 1), .inl (I20 96 (Int.toNat v2_9))], sh, gc_h sh I20 J8 A)
    refine gv_icmp_ge (t := 131) hD rfl rfl ⟨⟨by (/-14-/first | (have o1 := gz_sh f29; omega) | (simp only [gz_hd] at *; omega)), by (/-15-/first | (have o1 := gz_sh f29; omega) | (simp only [gz_hd] at *; omega))⟩, ⟨by (/-16-/first | (have o1 := gz_sh f15; have o2 := gz_sh t27; omega) | (simp only [gz_hd] at *; omega)), by (/-17-/first | (have o1 := gz_sh f15; have o2 := gz_sh t27; omega) | (simp only [gz_hd] at *; omega))⟩⟩ (fun c31 => ?_) (fun c31 => ?_)
    · show gv_X _ _ (131, [(0, .inr (.inr (some 86))), (1, .inl a1), (2, .inl v2_9), (3, .inr (.inl v3_9))], [], sh, gc_h sh I20 J8 A)
      refine gv_run 2 true hD (pcₚ := 133) (lvₚ := [(0, .inr (.inr (some 86))), (1, .inl a1), (2, .inl v2_9), (3, .inr (.inl v3_9))]) (stₚ := [.inr (.inr (some 86)), .inr (.inr (some 86))]) (hₚ := gc_h sh I20 J8 A) (C := ((True ∧ True) ∧ True)) rfl ⟨⟨trivial, trivial⟩, trivial⟩ ?_
      refine gv_get hD rfl rfl S_86 ⟨by decide, (gz_sh B_86)⟩ (gc_hI S_86 rfl) ?_
      show gv_X _ _ (136, [(0, .inr (.inr (some 86))), (1, .inl a1), (2, .inl v2_9), (3, .inr (.inl v3_9))], [.inl (I20 86 9), .inr (.inr (some 86))], sh, gc_h sh I20 J8 A)
      refine gv_run 2 true hD (pcₚ := 138) (lvₚ := [(0, .inr (.inr (some 86))), (1, .inl a1), (2, .inl v2_9), (3, .inr (.inl v3_9))]) (stₚ := [.inl ((I20 86 9) - 1), .inr (.inr (some 86))]) (hₚ := gc_h sh I20 J8 A) (C := ((True ∧ True) ∧ True)) rfl ⟨⟨trivial, trivial⟩, trivial⟩ ?_
      refine gv_put hD rfl rfl S_86 ⟨by decide, (gz_sh B_86)⟩ rfl trivial ?_
      refine gc_st (k := 9) hI20 S_86 rfl (gz_sh R_86) (lo := 0) (hi := 300) rfl rfl (by (/-18-/first | (have o1 := gz_sh e1_9; have o2 := gz_sh t24; omega) | (simp only [gz_hd] at *; omega))) (by (/-19-/first | (have o1 := gz_sh e1_9; have o2 := gz_sh f3; have o3 := gz_sh t24; omega) | (simp only [gz_hd] at *; omega))) (fun I33 hI33 q34 p34 => ?_)
      have FI33 := gc_frs (W := fun q j => (q = 96 ∧ j = (Int.toNat (((I 86 9) - 1)))) ∨ q = 97 ∨ q = 99 ∨ (q = 86 ∧ j = 9) ∨ (q = 86 ∧ j = 16) ∨ (q = 86 ∧ j = 17)) FI20 (Or.inr (Or.inr (Or.inr (Or.inl ⟨rfl, rfl⟩)))) p34
      show gv_X _ _ (141, [(0, .inr (.inr (some 86))), (1, .inl a1), (2, .inl v2_9), (3, .inr (.inl v3_9))], [], sh, gc_h sh I33 J8 A)
      refine gv_run 1 true hD (pcₚ := 142) (lvₚ := [(0, .inr (.inr (some 86))), (1, .inl a1), (2, .inl v2_9), (3, .inr (.inl v3_9))]) (stₚ := [.inr (.inr (some 86))]) (hₚ := gc_h sh I33 J8 A) (C := (True ∧ True)) rfl ⟨trivial, trivial⟩ ?_
      refine gv_get hD rfl rfl S_86 ⟨by decide, (gz_sh B_86)⟩ (gc_hA S_86 rfl A_86_13) ?_
      show gv_X _ _ (145, [(0, .inr (.inr (some 86))), (1, .inl a1), (2, .inl v2_9), (3, .inr (.inl v3_9))], [.inr (.inr (some 97))], sh, gc_h sh I33 J8 A)
      refine gv_run 1 true hD (pcₚ := 146) (lvₚ := [(0, .inr (.inr (some 86))), (1, .inl a1), (2, .inl v2_9), (3, .inr (.inl v3_9))]) (stₚ := [.inl v2_9, .inr (.inr (some 97))]) (hₚ := gc_h sh I33 J8 A) (C := (True ∧ True)) rfl ⟨trivial, trivial⟩ ?_
      have f42 := gz_hi ((gc_b_78 hI33 (gz_sh R_97) (Int.toNat v2_9)))
      refine gv_iald hD rfl S_97 rfl ⟨by decide, (gz_sh B_97)⟩ ⟨by (/-20-/first | (have o1 := gz_sh e0_9; omega) | (simp only [gz_hd] at *; omega)), by (/-21-/first | (have o1 := gz_sh e0_9; have o2 := gz_sh f3; omega) | (simp only [gz_hd] at *; omega))⟩ (gc_iI S_97 rfl) ?_
      show gv_X _ _ (147, [(0, .inr (.inr (some 86))), (1, .inl a1), (2, .inl v2_9), (3, .inr (.inl v3_9))], [.inl (I33 97 (Int.toNat v2_9))], sh, gc_h sh I33 J8 A)
      exact gv_iret hD rfl ⟨I33, J8, rfl, hI33, FI33, FJ8, ⟨_, rfl, by (/-22-/first | (have o1 := gz_sh f42; omega) | (simp only [gz_hd] at *; omega)), by (/-23-/first | (have o1 := gz_sh f42; omega) | (simp only [gz_hd] at *; omega)), (by rw [show J8 = J from funext fun q => funext fun j => (FJ8 q j).resolve_left id]; exact gc_OP_fr (m := Int.toNat v2_9) x0 (by (/-24-/first | (have o1 := gz_sh e1_9; have o2 := gz_sh t24; omega) | (simp only [gz_hd] at *; omega))) (fun k => (FI33 95 k).resolve_left (by (/-25-/first | omega | (simp only [gz_hd] at *; omega)))) (fun k => (FI33 98 k).resolve_left (by (/-26-/first | omega | (simp only [gz_hd] at *; omega)))) (fun k hk => (FI33 96 k).resolve_left (by (/-27-/first | (have o1 := gz_sh e0_9; have o2 := gz_sh e1_9; have o3 := gz_sh f3; have o4 := gz_sh t24; omega) | (simp only [gz_hd] at *; omega)))) (fun h => by (/-28-/first | (have o1 := gz_sh e0_9; have o2 := gz_sh e1_9; have o3 := gz_sh f3; have o4 := gz_sh t24; omega) | (simp only [gz_hd] at *; omega)))), by (/-29-/first | (have o1 := gz_sh f42; omega) | (simp only [gz_hd] at *; omega)), by (/-30-/first | (have o1 := gz_sh e1_9; have o2 := gz_sh t24; omega) | (simp only [gz_hd] at *; omega))⟩⟩
    · show gv_X _ _ (92, [(0, .inr (.inr (some 86))), (1, .inl a1), (2, .inl v2_9), (3, .inr (.inl v3_9))], [], sh, gc_h sh I20 J8 A)
      refine gv_run 1 true hD (pcₚ := 93) (lvₚ := [(0, .inr (.inr (some 86))), (1, .inl a1), (2, .inl v2_9), (3, .inr (.inl v3_9))]) (stₚ := [.inr (.inr (some 86))]) (hₚ := gc_h sh I20 J8 A) (C := (True ∧ True)) rfl ⟨trivial, trivial⟩ ?_
      refine gv_get hD rfl rfl S_86 ⟨by decide, (gz_sh B_86)⟩ (gc_hA S_86 rfl A_86_15) ?_
      show gv_X _ _ (96, [(0, .inr (.inr (some 86))), (1, .inl a1), (2, .inl v2_9), (3, .inr (.inl v3_9))], [.inr (.inr (some 99))], sh, gc_h sh I20 J8 A)
      refine gv_run 1 true hD (pcₚ := 97) (lvₚ := [(0, .inr (.inr (some 86))), (1, .inl a1), (2, .inl v2_9), (3, .inr (.inl v3_9))]) (stₚ := [.inr (.inr (some 86)), .inr (.inr (some 99))]) (hₚ := gc_h sh I20 J8 A) (C := (True ∧ True)) rfl ⟨trivial, trivial⟩ ?_
      refine gv_get hD rfl rfl S_86 ⟨by decide, (gz_sh B_86)⟩ (gc_hA S_86 rfl A_86_14) ?_
      show gv_X _ _ (100, [(0, .inr (.inr (some 86))), (1, .inl a1), (2, .inl v2_9), (3, .inr (.inl v3_9))], [.inr (.inr (some 98)), .inr (.inr (some 99))], sh, gc_h sh I20 J8 A)
      refine gv_run 1 true hD (pcₚ := 101) (lvₚ := [(0, .inr (.inr (some 86))), (1, .inl a1), (2, .inl v2_9), (3, .inr (.inl v3_9))]) (stₚ := [.inl v2_9, .inr (.inr (some 98)), .inr (.inr (some 99))]) (hₚ := gc_h sh I20 J8 A) (C := (True ∧ True)) rfl ⟨trivial, trivial⟩ ?_
      have t43 := gz_hi ((FI20 98 (Int.toNat v2_9)).resolve_left (by (/-31-/first | omega | (simp only [gz_hd] at *; omega))))
      have f44 := gz_hi ((gc_b_63 hI20 (gz_sh R_98) (Int.toNat v2_9)))
      refine gv_iald hD rfl S_98 rfl ⟨by decide, (gz_sh B_98)⟩ ⟨by (/-32-/first | (have o1 := gz_sh e0_9; omega) | (simp only [gz_hd] at *; omega)), by (/-33-/first | (have o1 := gz_sh e0_9; have o2 := gz_sh f3; omega) | (simp only [gz_hd] at *; omega))⟩ (gc_iI S_98 rfl) ?_
      show gv_X _ _ (102, [(0, .inr (.inr (some 86))), (1, .inl a1), (2, .inl v2_9), (3, .inr (.inl v3_9))], [.inl (I20 98 (Int.toNat v2_9)), .inr (.inr (some 99))], sh, gc_h sh I20 J8 A)
      refine gv_run 1 true hD (pcₚ := 103) (lvₚ := [(0, .inr (.inr (some 86))), (1, .inl a1), (2, .inl v2_9), (3, .inr (.inl v3_9))]) (stₚ := [.inr (.inr (some 86)), .inl (I20 98 (Int.toNat v2_9)), .inr (.inr (some 99))]) (hₚ := gc_h sh I20 J8 A) (C := (True ∧ True)) rfl ⟨trivial, trivial⟩ ?_
      refine gv_get hD rfl rfl S_86 ⟨by decide, (gz_sh B_86)⟩ (gc_hA S_86 rfl A_86_12) ?_
      show gv_X _ _ (106, [(0, .inr (.inr (some 86))), (1, .inl a1), (2, .inl v2_9), (3, .inr (.inl v3_9))], [.inr (.inr (some 96)), .inl (I20 98 (Int.toNat v2_9)), .inr (.inr (some 99))], sh, gc_h sh I20 J8 A)
      refine gv_run 1 true hD (pcₚ := 107) (lvₚ := [(0, .inr (.inr (some 86))), (1, .inl a1), (2, .inl v2_9), (3, .inr (.inl v3_9))]) (stₚ := [.inl v2_9, .inr (.inr (some 96)), .inl (I20 98 (Int.toNat v2_9)), .inr (.inr (some 99))]) (hₚ := gc_h sh I20 J8 A) (C := (True ∧ True)) rfl ⟨trivial, trivial⟩ ?_
      refine gv_iald hD rfl S_96 rfl ⟨by decide, (gz_sh B_96)⟩ ⟨by (/-34-/first | (have o1 := gz_sh e0_9; omega) | (simp only [gz_hd] at *; omega)), by (/-35-/first | (have o1 := gz_sh e0_9; have o2 := gz_sh f3; omega) | (simp only [gz_hd] at *; omega))⟩ (gc_iI S_96 rfl) ?_
      show gv_X _ _ (108, [(0, .inr (.inr (some 86))), (1, .inl a1), (2, .inl v2_9), (3, .inr (.inl v3_9))], [.inl (I20 96 (Int.toNat v2_9)), .inl (I20 98 (Int.toNat v2_9)), .inr (.inr (some 99))], sh, gc_h sh I20 J8 A)
      refine gv_iast hD rfl S_99 ⟨by decide, (gz_sh B_99)⟩ ⟨by (/-36-/first | (have o1 := gz_sh f44; omega) | (simp only [gz_hd] at *; omega)), by (/-37-/first | (have o1 := gz_sh f44; omega) | (simp only [gz_hd] at *; omega))⟩ ?_
      refine gc_st hI20 S_99 rfl (gz_sh R_99) (lo := 0) (hi := 8) rfl rfl (by (/-38-/first | (have o1 := gz_sh f29; omega) | (simp only [gz_hd] at *; omega))) (by (/-39-/first | (have o1 := gz_sh e2_9; have o2 := gz_sh e3_9; have o3 := gz_sh t28; omega) | (simp only [gz_hd] at *; omega))) (fun I46 hI46 q47 p47 => ?_)
      have FI46 := gc_frs (W := fun q j => (q = 96 ∧ j = (Int.toNat (((I 86 9) - 1)))) ∨ q = 97 ∨ q = 99 ∨ (q = 86 ∧ j = 9) ∨ (q = 86 ∧ j = 16) ∨ (q = 86 ∧ j = 17)) FI20 (Or.inr (Or.inr (Or.inl rfl))) p47
      have t50 := gz_hi (p47 86 9 (fun h => absurd h.1 (by first | exact gz_ne rfl | decide)))
      have t53 := gz_hi (p47 6 1 (fun h => absurd h.1 (by first | exact gz_ne rfl | decide)))
      have t54 := gz_hi (p47 96 (Int.toNat v2_9) (fun h => absurd h.1 (by first | exact gz_ne rfl | decide)))
      show gv_X _ _ (109, [(0, .inr (.inr (some 86))), (1, .inl a1), (2, .inl v2_9), (3, .inr (.inl v3_9))], [], sh, gc_h sh I46 J8 A)
      refine gv_run 2 true hD (pcₚ := 111) (lvₚ := [(0, .inr (.inr (some 86))), (1, .inl a1), (2, .inl v2_9), (3, .inr (.inl v3_9))]) (stₚ := [.inr (.inr (some 86)), .inr (.inr (some 86))]) (hₚ := gc_h sh I46 J8 A) (C := ((True ∧ True) ∧ True)) rfl ⟨⟨trivial, trivial⟩, trivial⟩ ?_
      refine gv_get hD rfl rfl S_86 ⟨by decide, (gz_sh B_86)⟩ (gc_hA S_86 rfl A_86_14) ?_
      show gv_X _ _ (114, [(0, .inr (.inr (some 86))), (1, .inl a1), (2, .inl v2_9), (3, .inr (.inl v3_9))], [.inr (.inr (some 98)), .inr (.inr (some 86))], sh, gc_h sh I46 J8 A)
      refine gv_run 1 true hD (pcₚ := 115) (lvₚ := [(0, .inr (.inr (some 86))), (1, .inl a1), (2, .inl v2_9), (3, .inr (.inl v3_9))]) (stₚ := [.inl v2_9, .inr (.inr (some 98)), .inr (.inr (some 86))]) (hₚ := gc_h sh I46 J8 A) (C := (True ∧ True)) rfl ⟨trivial, trivial⟩ ?_
      have t55 := gz_hi ((FI46 98 (Int.toNat v2_9)).resolve_left (by (/-40-/first | omega | (simp only [gz_hd] at *; omega))))
      refine gv_iald hD rfl S_98 rfl ⟨by decide, (gz_sh B_98)⟩ ⟨by (/-41-/first | (have o1 := gz_sh e0_9; omega) | (simp only [gz_hd] at *; omega)), by (/-42-/first | (have o1 := gz_sh e0_9; have o2 := gz_sh f3; omega) | (simp only [gz_hd] at *; omega))⟩ (gc_iI S_98 rfl) ?_
      show gv_X _ _ (116, [(0, .inr (.inr (some 86))), (1, .inl a1), (2, .inl v2_9), (3, .inr (.inl v3_9))], [.inl (I46 98 (Int.toNat v2_9)), .inr (.inr (some 86))], sh, gc_h sh I46 J8 A)
      refine gv_put hD rfl rfl S_86 ⟨by decide, (gz_sh B_86)⟩ rfl trivial ?_
      refine gc_st (k := 17) hI46 S_86 rfl (gz_sh R_86) (lo := 0) (hi := 300) rfl rfl (by (/-43-/first | (have o1 := gz_sh f44; have o2 := gz_sh t43; have o3 := gz_sh t55; omega) | (simp only [gz_hd] at *; omega))) (by (/-44-/first | (have o1 := gz_sh f44; have o2 := gz_sh t43; have o3 := gz_sh t55; omega) | (simp only [gz_hd] at *; omega))) (fun I57 hI57 q58 p58 => ?_)
      have FI57 := gc_frs (W := fun q j => (q = 96 ∧ j = (Int.toNat (((I 86 9) - 1)))) ∨ q = 97 ∨ q = 99 ∨ (q = 86 ∧ j = 9) ∨ (q = 86 ∧ j = 16) ∨ (q = 86 ∧ j = 17)) FI46 (Or.inr (Or.inr (Or.inr (Or.inr (Or.inr ⟨rfl, rfl⟩))))) p58
      have t61 := gz_hi (p58 86 9 (fun h => absurd h.2 (by first | exact gz_ne rfl | decide)))
      have t63 := gz_hi (p58 6 1 (fun h => absurd h.2 (by first | exact gz_ne rfl | decide)))
      have t64 := gz_hi (p58 96 (Int.toNat v2_9) (fun h => absurd h.1 (by first | exact gz_ne rfl | decide)))
      show gv_X _ _ (119, [(0, .inr (.inr (some 86))), (1, .inl a1), (2, .inl v2_9), (3, .inr (.inl v3_9))], [], sh, gc_h sh I57 J8 A)
      refine gv_run 2 true hD (pcₚ := 121) (lvₚ := [(0, .inr (.inr (some 86))), (1, .inl a1), (2, .inl v2_9), (3, .inr (.inl v3_9))]) (stₚ := [.inr (.inr (some 86)), .inr (.inr (some 86))]) (hₚ := gc_h sh I57 J8 A) (C := ((True ∧ True) ∧ True)) rfl ⟨⟨trivial, trivial⟩, trivial⟩ ?_
      refine gv_get hD rfl rfl S_86 ⟨by decide, (gz_sh B_86)⟩ (gc_hA S_86 rfl A_86_11) ?_
      show gv_X _ _ (124, [(0, .inr (.inr (some 86))), (1, .inl a1), (2, .inl v2_9), (3, .inr (.inl v3_9))], [.inr (.inr (some 95)), .inr (.inr (some 86))], sh, gc_h sh I57 J8 A)
      refine gv_run 1 true hD (pcₚ := 125) (lvₚ := [(0, .inr (.inr (some 86))), (1, .inl a1), (2, .inl v2_9), (3, .inr (.inl v3_9))]) (stₚ := [.inl v2_9, .inr (.inr (some 95)), .inr (.inr (some 86))]) (hₚ := gc_h sh I57 J8 A) (C := (True ∧ True)) rfl ⟨trivial, trivial⟩ ?_
      have t66 := gz_hi ((FI57 95 (Int.toNat v2_9)).resolve_left (by (/-45-/first | omega | (simp only [gz_hd] at *; omega))))
      have f67 := gz_hi ((gc_b_61 hI57 (gz_sh R_95) (Int.toNat v2_9)))
      refine gv_iald hD rfl S_95 rfl ⟨by decide, (gz_sh B_95)⟩ ⟨by (/-46-/first | (have o1 := gz_sh e0_9; omega) | (simp only [gz_hd] at *; omega)), by (/-47-/first | (have o1 := gz_sh e0_9; have o2 := gz_sh f3; omega) | (simp only [gz_hd] at *; omega))⟩ (gc_iI S_95 rfl) ?_
      show gv_X _ _ (126, [(0, .inr (.inr (some 86))), (1, .inl a1), (2, .inl v2_9), (3, .inr (.inl v3_9))], [.inl (I57 95 (Int.toNat v2_9)), .inr (.inr (some 86))], sh, gc_h sh I57 J8 A)
      refine gv_put hD rfl rfl S_86 ⟨by decide, (gz_sh B_86)⟩ rfl trivial ?_
      refine gc_st (k := 16) hI57 S_86 rfl (gz_sh R_86) (lo := (-1)) (hi := 301) rfl rfl (by (/-48-/first | (have o1 := gz_sh f67; omega) | (simp only [gz_hd] at *; omega))) (by (/-49-/first | (have o1 := gz_sh f67; omega) | (simp only [gz_hd] at *; omega))) (fun I68 hI68 q69 p69 => ?_)
      have FI68 := gc_frs (W := fun q j => (q = 96 ∧ j = (Int.toNat (((I 86 9) - 1)))) ∨ q = 97 ∨ q = 99 ∨ (q = 86 ∧ j = 9) ∨ (q = 86 ∧ j = 16) ∨ (q = 86 ∧ j = 17)) FI57 (Or.inr (Or.inr (Or.inr (Or.inr (Or.inl ⟨rfl, rfl⟩))))) p69
      have t72 := gz_hi (p69 86 9 (fun h => absurd h.2 (by first | exact gz_ne rfl | decide)))
      have t73 := gz_hi (p69 86 17 (fun h => absurd h.2 (by first | exact gz_ne rfl | decide)))
      have t74 := gz_hi (p69 6 1 (fun h => absurd h.2 (by first | exact gz_ne rfl | decide)))
      have t75 := gz_hi (p69 96 (Int.toNat v2_9) (fun h => absurd h.1 (by first | exact gz_ne rfl | decide)))
      show gv_X _ _ (129, [(0, .inr (.inr (some 86))), (1, .inl a1), (2, .inl v2_9), (3, .inr (.inl v3_9))], [], sh, gc_h sh I68 J8 A)
      refine gv_run 1 true hD (pcₚ := 130) (lvₚ := [(0, .inr (.inr (some 86))), (1, .inl a1), (2, .inl v2_9), (3, .inr (.inl v3_9))]) (stₚ := [.inl (-1)]) (hₚ := gc_h sh I68 J8 A) (C := (True ∧ True)) rfl ⟨trivial, trivial⟩ ?_
      exact gv_iret hD rfl ⟨I68, J8, rfl, hI68, FI68, FJ8, ⟨_, rfl, by (/-50-/first | omega | (simp only [gz_hd] at *; omega)), by (/-51-/first | omega | (simp only [gz_hd] at *; omega)), (by rw [show J8 = J from funext fun q => funext fun j => (FJ8 q j).resolve_left id]; exact gc_OP_fr (m := Int.toNat v2_9) x0 (by (/-52-/first | (have o1 := gz_sh e1_9; have o2 := gz_sh t24; have o3 := gz_sh t50; have o4 := gz_sh t61; have o5 := gz_sh t72; omega) | (simp only [gz_hd] at *; omega))) (fun k => (FI68 95 k).resolve_left (by (/-53-/first | omega | (simp only [gz_hd] at *; omega)))) (fun k => (FI68 98 k).resolve_left (by (/-54-/first | omega | (simp only [gz_hd] at *; omega)))) (fun k hk => (FI68 96 k).resolve_left (by (/-55-/first | (have o1 := gz_sh e0_9; have o2 := gz_sh e1_9; have o3 := gz_sh f3; have o4 := gz_sh t24; have o5 := gz_sh t50; have o6 := gz_sh t61; have o7 := gz_sh t72; omega) | (simp only [gz_hd] at *; omega)))) (fun h => by (/-56-/first | (have o1 := gz_sh f15; have o2 := gz_sh t27; have o3 := gz_sh t54; have o4 := gz_sh t64; have o5 := gz_sh t75; omega) | (simp only [gz_hd] at *; omega)))), by (/-57-/first | (have o1 := gz_sh e0_9; have o2 := gz_sh e1_9; have o3 := gz_sh e4_9; have o4 := gz_sh t24; have o5 := gz_sh t50; have o6 := gz_sh t55; have o7 := gz_sh t61; have o8 := gz_sh t66; have o9 := gz_sh t72; have o10 := gz_sh t73; omega) | (simp only [gz_hd] at *; omega)), by (/-58-/first | (have o1 := gz_sh e1_9; have o2 := gz_sh t24; have o3 := gz_sh t50; have o4 := gz_sh t61; have o5 := gz_sh t72; omega) | (simp only [gz_hd] at *; omega))⟩⟩
  · show gv_X _ _ (53, [(0, .inr (.inr (some 86))), (1, .inl a1), (2, .inl v2_9), (3, .inr (.inl v3_9))], [.inl v2_9, .inr (.inr (some 97))], sh, gc_h sh I7 J8 A)
    refine gv_run 1 true hD (pcₚ := 54) (lvₚ := [(0, .inr (.inr (some 86))), (1, .inl a1), (2, .inl v2_9), (3, .inr (.inl v3_9))]) (stₚ := [.inr (.inr (some 86)), .inl v2_9, .inr (.inr (some 97))]) (hₚ := gc_h sh I7 J8 A) (C := (True ∧ True)) rfl ⟨trivial, trivial⟩ ?_
    refine gv_get hD rfl rfl S_86 ⟨by decide, (gz_sh B_86)⟩ (gc_hA S_86 rfl A_86_13) ?_
    show gv_X _ _ (57, [(0, .inr (.inr (some 86))), (1, .inl a1), (2, .inl v2_9), (3, .inr (.inl v3_9))], [.inr (.inr (some 97)), .inl v2_9, .inr (.inr (some 97))], sh, gc_h sh I7 J8 A)
    refine gv_run 1 true hD (pcₚ := 58) (lvₚ := [(0, .inr (.inr (some 86))), (1, .inl a1), (2, .inl v2_9), (3, .inr (.inl v3_9))]) (stₚ := [.inl v2_9, .inr (.inr (some 97)), .inl v2_9, .inr (.inr (some 97))]) (hₚ := gc_h sh I7 J8 A) (C := (True ∧ True)) rfl ⟨trivial, trivial⟩ ?_
    have f77 := gz_hi ((gc_b_78 hI7 (gz_sh R_97) (Int.toNat v2_9)))
    refine gv_iald hD rfl S_97 rfl ⟨by decide, (gz_sh B_97)⟩ ⟨by (/-59-/first | (have o1 := gz_sh e0_9; omega) | (simp only [gz_hd] at *; omega)), by (/-60-/first | (have o1 := gz_sh e0_9; have o2 := gz_sh f3; omega) | (simp only [gz_hd] at *; omega))⟩ (gc_iI S_97 rfl) ?_
    show gv_X _ _ (59, [(0, .inr (.inr (some 86))), (1, .inl a1), (2, .inl v2_9), (3, .inr (.inl v3_9))], [.inl (I7 97 (Int.toNat v2_9)), .inl v2_9, .inr (.inr (some 97))], sh, gc_h sh I7 J8 A)
    have f78 := gz_hi (gw_andl (x := ((I7 97 (Int.toNat v2_9)))) (y := a1) ⟨by (/-61-/first | (have o1 := gz_sh f77; omega) | (simp only [gz_hd] at *; omega)), by (/-62-/first | (have o1 := gz_sh f77; omega) | (simp only [gz_hd] at *; omega))⟩)
    refine gv_run 3 true hD (pcₚ := 72) (lvₚ := [(0, .inr (.inr (some 86))), (1, .inl a1), (2, .inl v2_9), (3, .inr (.inl v3_9))]) (stₚ := [.inl ((Int32.ofInt ((I7 97 (Int.toNat v2_9))) &&& Int32.ofInt a1).toInt), .inl v2_9, .inr (.inr (some 97))]) (hₚ := gc_h sh I7 J8 A) (C := (((True ∧ True) ∧ True) ∧ True)) rfl ⟨⟨⟨trivial, trivial⟩, trivial⟩, trivial⟩ ?_
    refine gv_iast hD rfl S_97 ⟨by decide, (gz_sh B_97)⟩ ⟨by (/-63-/first | (have o1 := gz_sh e0_9; omega) | (simp only [gz_hd] at *; omega)), by (/-64-/first | (have o1 := gz_sh e0_9; have o2 := gz_sh f3; omega) | (simp only [gz_hd] at *; omega))⟩ ?_
    refine gc_st hI7 S_97 rfl (gz_sh R_97) (lo := 0) (hi := 1) rfl rfl (by (/-65-/first | (have o1 := gz_sh f78; omega) | (simp only [gz_hd] at *; omega))) (by (/-66-/first | (have o1 := gz_sh f77; have o2 := gz_sh f78; omega) | (simp only [gz_hd] at *; omega))) (fun I79 hI79 q80 p80 => ?_)
    have FI79 := gc_frs (W := fun q j => (q = 96 ∧ j = (Int.toNat (((I 86 9) - 1)))) ∨ q = 97 ∨ q = 99 ∨ (q = 86 ∧ j = 9) ∨ (q = 86 ∧ j = 16) ∨ (q = 86 ∧ j = 17)) FI7 (Or.inr (Or.inl rfl)) p80
    have t83 := gz_hi (p80 86 9 (fun h => absurd h.1 (by first | exact gz_ne rfl | decide)))
    have t86 := gz_hi (p80 6 1 (fun h => absurd h.1 (by first | exact gz_ne rfl | decide)))
    have t87 := gz_hi (p80 96 (Int.toNat v2_9) (fun h => absurd h.1 (by first | exact gz_ne rfl | decide)))
    show gv_X _ _ (73, [(0, .inr (.inr (some 86))), (1, .inl a1), (2, .inl v2_9), (3, .inr (.inl v3_9))], [], sh, gc_h sh I79 J8 A)
    refine gv_run 1 true hD (pcₚ := 74) (lvₚ := [(0, .inr (.inr (some 86))), (1, .inl a1), (2, .inl v2_9), (3, .inr (.inl v3_9))]) (stₚ := [.inr (.inr (some 86))]) (hₚ := gc_h sh I79 J8 A) (C := (True ∧ True)) rfl ⟨trivial, trivial⟩ ?_
    refine gv_get hD rfl rfl S_86 ⟨by decide, (gz_sh B_86)⟩ (gc_hA S_86 rfl A_86_12) ?_
    show gv_X _ _ (77, [(0, .inr (.inr (some 86))), (1, .inl a1), (2, .inl v2_9), (3, .inr (.inl v3_9))], [.inr (.inr (some 96))], sh, gc_h sh I79 J8 A)
    refine gv_run 1 true hD (pcₚ := 78) (lvₚ := [(0, .inr (.inr (some 86))), (1, .inl a1), (2, .inl v2_9), (3, .inr (.inl v3_9))]) (stₚ := [.inl v2_9, .inr (.inr (some 96))]) (hₚ := gc_h sh I79 J8 A) (C := (True ∧ True)) rfl ⟨trivial, trivial⟩ ?_
    have f88 := gz_hi ((gc_b_62 hI79 (gz_sh R_96) (Int.toNat v2_9)))
    refine gv_iald hD rfl S_96 rfl ⟨by decide, (gz_sh B_96)⟩ ⟨by (/-67-/first | (have o1 := gz_sh e0_9; omega) | (simp only [gz_hd] at *; omega)), by (/-68-/first | (have o1 := gz_sh e0_9; have o2 := gz_sh f3; omega) | (simp only [gz_hd] at *; omega))⟩ (gc_iI S_96 rfl) ?_
    show gv_X _ _ (79, [(0, .inr (.inr (some 86))), (1, .inl a1), (2, .inl v2_9), (3, .inr (.inl v3_9))], [.inl (I79 96 (Int.toNat v2_9))], sh, gc_h sh I79 J8 A)
    refine gv_run 1 true hD (pcₚ := 80) (lvₚ := [(0, .inr (.inr (some 86))), (1, .inl a1), (2, .inl v2_9), (3, .inr (.inl v3_9))]) (stₚ := [.inr (.inr (some 86)), .inl (I79 96 (Int.toNat v2_9))]) (hₚ := gc_h sh I79 J8 A) (C := (True ∧ True)) rfl ⟨trivial, trivial⟩ ?_
    refine gv_get hD rfl rfl S_86 ⟨by decide, (gz_sh B_86)⟩ (gc_hA S_86 rfl A_86_0) ?_
    show gv_X _ _ (83, [(0, .inr (.inr (some 86))), (1, .inl a1), (2, .inl v2_9), (3, .inr (.inl v3_9))], [.inr (.inr (some 1)), .inl (I79 96 (Int.toNat v2_9))], sh, gc_h sh I79 J8 A)
    refine gv_get hD rfl rfl S_1 ⟨by decide, (gz_sh B_1)⟩ (gc_hA S_1 rfl A_1_2) ?_
    show gv_X _ _ (86, [(0, .inr (.inr (some 86))), (1, .inl a1), (2, .inl v2_9), (3, .inr (.inl v3_9))], [.inr (.inr (some 6)), .inl (I79 96 (Int.toNat v2_9))], sh, gc_h sh I79 J8 A)
    refine gv_get hD rfl rfl S_6 ⟨by decide, (gz_sh B_6)⟩ (gc_hI S_6 rfl) ?_
    show gv_X _ _ (89, [(0, .inr (.inr (some 86))), (1, .inl a1), (2, .inl v2_9), (3, .inr (.inl v3_9))], [.inl (I79 6 1), .inl (I79 96 (Int.toNat v2_9))], sh, gc_h sh I79 J8 A)
    refine gv_icmp_ge (t := 131) hD rfl rfl ⟨⟨by (/-69-/first | (have o1 := gz_sh f88; omega) | (simp only [gz_hd] at *; omega)), by (/-70-/first | (have o1 := gz_sh f88; omega) | (simp only [gz_hd] at *; omega))⟩, ⟨by (/-71-/first | (have o1 := gz_sh f15; have o2 := gz_sh t86; omega) | (simp only [gz_hd] at *; omega)), by (/-72-/first | (have o1 := gz_sh f15; have o2 := gz_sh t86; omega) | (simp only [gz_hd] at *; omega))⟩⟩ (fun c90 => ?_) (fun c90 => ?_)
    · show gv_X _ _ (131, [(0, .inr (.inr (some 86))), (1, .inl a1), (2, .inl v2_9), (3, .inr (.inl v3_9))], [], sh, gc_h sh I79 J8 A)
      refine gv_run 2 true hD (pcₚ := 133) (lvₚ := [(0, .inr (.inr (some 86))), (1, .inl a1), (2, .inl v2_9), (3, .inr (.inl v3_9))]) (stₚ := [.inr (.inr (some 86)), .inr (.inr (some 86))]) (hₚ := gc_h sh I79 J8 A) (C := ((True ∧ True) ∧ True)) rfl ⟨⟨trivial, trivial⟩, trivial⟩ ?_
      refine gv_get hD rfl rfl S_86 ⟨by decide, (gz_sh B_86)⟩ (gc_hI S_86 rfl) ?_
      show gv_X _ _ (136, [(0, .inr (.inr (some 86))), (1, .inl a1), (2, .inl v2_9), (3, .inr (.inl v3_9))], [.inl (I79 86 9), .inr (.inr (some 86))], sh, gc_h sh I79 J8 A)
      refine gv_run 2 true hD (pcₚ := 138) (lvₚ := [(0, .inr (.inr (some 86))), (1, .inl a1), (2, .inl v2_9), (3, .inr (.inl v3_9))]) (stₚ := [.inl ((I79 86 9) - 1), .inr (.inr (some 86))]) (hₚ := gc_h sh I79 J8 A) (C := ((True ∧ True) ∧ True)) rfl ⟨⟨trivial, trivial⟩, trivial⟩ ?_
      refine gv_put hD rfl rfl S_86 ⟨by decide, (gz_sh B_86)⟩ rfl trivial ?_
      refine gc_st (k := 9) hI79 S_86 rfl (gz_sh R_86) (lo := 0) (hi := 300) rfl rfl (by (/-73-/first | (have o1 := gz_sh e1_9; have o2 := gz_sh t83; omega) | (simp only [gz_hd] at *; omega))) (by (/-74-/first | (have o1 := gz_sh e1_9; have o2 := gz_sh f3; have o3 := gz_sh t83; omega) | (simp only [gz_hd] at *; omega))) (fun I92 hI92 q93 p93 => ?_)
      have FI92 := gc_frs (W := fun q j => (q = 96 ∧ j = (Int.toNat (((I 86 9) - 1)))) ∨ q = 97 ∨ q = 99 ∨ (q = 86 ∧ j = 9) ∨ (q = 86 ∧ j = 16) ∨ (q = 86 ∧ j = 17)) FI79 (Or.inr (Or.inr (Or.inr (Or.inl ⟨rfl, rfl⟩)))) p93
      show gv_X _ _ (141, [(0, .inr (.inr (some 86))), (1, .inl a1), (2, .inl v2_9), (3, .inr (.inl v3_9))], [], sh, gc_h sh I92 J8 A)
      refine gv_run 1 true hD (pcₚ := 142) (lvₚ := [(0, .inr (.inr (some 86))), (1, .inl a1), (2, .inl v2_9), (3, .inr (.inl v3_9))]) (stₚ := [.inr (.inr (some 86))]) (hₚ := gc_h sh I92 J8 A) (C := (True ∧ True)) rfl ⟨trivial, trivial⟩ ?_
      refine gv_get hD rfl rfl S_86 ⟨by decide, (gz_sh B_86)⟩ (gc_hA S_86 rfl A_86_13) ?_
      show gv_X _ _ (145, [(0, .inr (.inr (some 86))), (1, .inl a1), (2, .inl v2_9), (3, .inr (.inl v3_9))], [.inr (.inr (some 97))], sh, gc_h sh I92 J8 A)
      refine gv_run 1 true hD (pcₚ := 146) (lvₚ := [(0, .inr (.inr (some 86))), (1, .inl a1), (2, .inl v2_9), (3, .inr (.inl v3_9))]) (stₚ := [.inl v2_9, .inr (.inr (some 97))]) (hₚ := gc_h sh I92 J8 A) (C := (True ∧ True)) rfl ⟨trivial, trivial⟩ ?_
      have f101 := gz_hi ((gc_b_78 hI92 (gz_sh R_97) (Int.toNat v2_9)))
      refine gv_iald hD rfl S_97 rfl ⟨by decide, (gz_sh B_97)⟩ ⟨by (/-75-/first | (have o1 := gz_sh e0_9; omega) | (simp only [gz_hd] at *; omega)), by (/-76-/first | (have o1 := gz_sh e0_9; have o2 := gz_sh f3; omega) | (simp only [gz_hd] at *; omega))⟩ (gc_iI S_97 rfl) ?_
      show gv_X _ _ (147, [(0, .inr (.inr (some 86))), (1, .inl a1), (2, .inl v2_9), (3, .inr (.inl v3_9))], [.inl (I92 97 (Int.toNat v2_9))], sh, gc_h sh I92 J8 A)
      exact gv_iret hD rfl ⟨I92, J8, rfl, hI92, FI92, FJ8, ⟨_, rfl, by (/-77-/first | (have o1 := gz_sh f101; omega) | (simp only [gz_hd] at *; omega)), by (/-78-/first | (have o1 := gz_sh f101; omega) | (simp only [gz_hd] at *; omega)), (by rw [show J8 = J from funext fun q => funext fun j => (FJ8 q j).resolve_left id]; exact gc_OP_fr (m := Int.toNat v2_9) x0 (by (/-79-/first | (have o1 := gz_sh e1_9; have o2 := gz_sh t83; omega) | (simp only [gz_hd] at *; omega))) (fun k => (FI92 95 k).resolve_left (by (/-80-/first | omega | (simp only [gz_hd] at *; omega)))) (fun k => (FI92 98 k).resolve_left (by (/-81-/first | omega | (simp only [gz_hd] at *; omega)))) (fun k hk => (FI92 96 k).resolve_left (by (/-82-/first | (have o1 := gz_sh e0_9; have o2 := gz_sh e1_9; have o3 := gz_sh f3; have o4 := gz_sh t83; omega) | (simp only [gz_hd] at *; omega)))) (fun h => by (/-83-/first | (have o1 := gz_sh e0_9; have o2 := gz_sh e1_9; have o3 := gz_sh f3; have o4 := gz_sh t83; omega) | (simp only [gz_hd] at *; omega)))), by (/-84-/first | (have o1 := gz_sh f101; omega) | (simp only [gz_hd] at *; omega)), by (/-85-/first | (have o1 := gz_sh e1_9; have o2 := gz_sh t83; omega) | (simp only [gz_hd] at *; omega))⟩⟩
    · show gv_X _ _ (92, [(0, .inr (.inr (some 86))), (1, .inl a1), (2, .inl v2_9), (3, .inr (.inl v3_9))], [], sh, gc_h sh I79 J8 A)
      refine gv_run 1 true hD (pcₚ := 93) (lvₚ := [(0, .inr (.inr (some 86))), (1, .inl a1), (2, .inl v2_9), (3, .inr (.inl v3_9))]) (stₚ := [.inr (.inr (some 86))]) (hₚ := gc_h sh I79 J8 A) (C := (True ∧ True)) rfl ⟨trivial, trivial⟩ ?_
      refine gv_get hD rfl rfl S_86 ⟨by decide, (gz_sh B_86)⟩ (gc_hA S_86 rfl A_86_15) ?_
      show gv_X _ _ (96, [(0, .inr (.inr (some 86))), (1, .inl a1), (2, .inl v2_9), (3, .inr (.inl v3_9))], [.inr (.inr (some 99))], sh, gc_h sh I79 J8 A)
      refine gv_run 1 true hD (pcₚ := 97) (lvₚ := [(0, .inr (.inr (some 86))), (1, .inl a1), (2, .inl v2_9), (3, .inr (.inl v3_9))]) (stₚ := [.inr (.inr (some 86)), .inr (.inr (some 99))]) (hₚ := gc_h sh I79 J8 A) (C := (True ∧ True)) rfl ⟨trivial, trivial⟩ ?_
      refine gv_get hD rfl rfl S_86 ⟨by decide, (gz_sh B_86)⟩ (gc_hA S_86 rfl A_86_14) ?_
      show gv_X _ _ (100, [(0, .inr (.inr (some 86))), (1, .inl a1), (2, .inl v2_9), (3, .inr (.inl v3_9))], [.inr (.inr (some 98)), .inr (.inr (some 99))], sh, gc_h sh I79 J8 A)
      refine gv_run 1 true hD (pcₚ := 101) (lvₚ := [(0, .inr (.inr (some 86))), (1, .inl a1), (2, .inl v2_9), (3, .inr (.inl v3_9))]) (stₚ := [.inl v2_9, .inr (.inr (some 98)), .inr (.inr (some 99))]) (hₚ := gc_h sh I79 J8 A) (C := (True ∧ True)) rfl ⟨trivial, trivial⟩ ?_
      have t102 := gz_hi ((FI79 98 (Int.toNat v2_9)).resolve_left (by (/-86-/first | omega | (simp only [gz_hd] at *; omega))))
      have f103 := gz_hi ((gc_b_63 hI79 (gz_sh R_98) (Int.toNat v2_9)))
      refine gv_iald hD rfl S_98 rfl ⟨by decide, (gz_sh B_98)⟩ ⟨by (/-87-/first | (have o1 := gz_sh e0_9; omega) | (simp only [gz_hd] at *; omega)), by (/-88-/first | (have o1 := gz_sh e0_9; have o2 := gz_sh f3; omega) | (simp only [gz_hd] at *; omega))⟩ (gc_iI S_98 rfl) ?_
      show gv_X _ _ (102, [(0, .inr (.inr (some 86))), (1, .inl a1), (2, .inl v2_9), (3, .inr (.inl v3_9))], [.inl (I79 98 (Int.toNat v2_9)), .inr (.inr (some 99))], sh, gc_h sh I79 J8 A)
      refine gv_run 1 true hD (pcₚ := 103) (lvₚ := [(0, .inr (.inr (some 86))), (1, .inl a1), (2, .inl v2_9), (3, .inr (.inl v3_9))]) (stₚ := [.inr (.inr (some 86)), .inl (I79 98 (Int.toNat v2_9)), .inr (.inr (some 99))]) (hₚ := gc_h sh I79 J8 A) (C := (True ∧ True)) rfl ⟨trivial, trivial⟩ ?_
      refine gv_get hD rfl rfl S_86 ⟨by decide, (gz_sh B_86)⟩ (gc_hA S_86 rfl A_86_12) ?_
      show gv_X _ _ (106, [(0, .inr (.inr (some 86))), (1, .inl a1), (2, .inl v2_9), (3, .inr (.inl v3_9))], [.inr (.inr (some 96)), .inl (I79 98 (Int.toNat v2_9)), .inr (.inr (some 99))], sh, gc_h sh I79 J8 A)
      refine gv_run 1 true hD (pcₚ := 107) (lvₚ := [(0, .inr (.inr (some 86))), (1, .inl a1), (2, .inl v2_9), (3, .inr (.inl v3_9))]) (stₚ := [.inl v2_9, .inr (.inr (some 96)), .inl (I79 98 (Int.toNat v2_9)), .inr (.inr (some 99))]) (hₚ := gc_h sh I79 J8 A) (C := (True ∧ True)) rfl ⟨trivial, trivial⟩ ?_
      refine gv_iald hD rfl S_96 rfl ⟨by decide, (gz_sh B_96)⟩ ⟨by (/-89-/first | (have o1 := gz_sh e0_9; omega) | (simp only [gz_hd] at *; omega)), by (/-90-/first | (have o1 := gz_sh e0_9; have o2 := gz_sh f3; omega) | (simp only [gz_hd] at *; omega))⟩ (gc_iI S_96 rfl) ?_
      show gv_X _ _ (108, [(0, .inr (.inr (some 86))), (1, .inl a1), (2, .inl v2_9), (3, .inr (.inl v3_9))], [.inl (I79 96 (Int.toNat v2_9)), .inl (I79 98 (Int.toNat v2_9)), .inr (.inr (some 99))], sh, gc_h sh I79 J8 A)
      refine gv_iast hD rfl S_99 ⟨by decide, (gz_sh B_99)⟩ ⟨by (/-91-/first | (have o1 := gz_sh f103; omega) | (simp only [gz_hd] at *; omega)), by (/-92-/first | (have o1 := gz_sh f103; omega) | (simp only [gz_hd] at *; omega))⟩ ?_
      refine gc_st hI79 S_99 rfl (gz_sh R_99) (lo := 0) (hi := 8) rfl rfl (by (/-93-/first | (have o1 := gz_sh f88; omega) | (simp only [gz_hd] at *; omega))) (by (/-94-/first | (have o1 := gz_sh e2_9; have o2 := gz_sh e3_9; have o3 := gz_sh t87; omega) | (simp only [gz_hd] at *; omega))) (fun I105 hI105 q106 p106 => ?_)
      have FI105 := gc_frs (W := fun q j => (q = 96 ∧ j = (Int.toNat (((I 86 9) - 1)))) ∨ q = 97 ∨ q = 99 ∨ (q = 86 ∧ j = 9) ∨ (q = 86 ∧ j = 16) ∨ (q = 86 ∧ j = 17)) FI79 (Or.inr (Or.inr (Or.inl rfl))) p106
      have t109 := gz_hi (p106 86 9 (fun h => absurd h.1 (by first | exact gz_ne rfl | decide)))
      have t112 := gz_hi (p106 6 1 (fun h => absurd h.1 (by first | exact gz_ne rfl | decide)))
      have t113 := gz_hi (p106 96 (Int.toNat v2_9) (fun h => absurd h.1 (by first | exact gz_ne rfl | decide)))
      show gv_X _ _ (109, [(0, .inr (.inr (some 86))), (1, .inl a1), (2, .inl v2_9), (3, .inr (.inl v3_9))], [], sh, gc_h sh I105 J8 A)
      refine gv_run 2 true hD (pcₚ := 111) (lvₚ := [(0, .inr (.inr (some 86))), (1, .inl a1), (2, .inl v2_9), (3, .inr (.inl v3_9))]) (stₚ := [.inr (.inr (some 86)), .inr (.inr (some 86))]) (hₚ := gc_h sh I105 J8 A) (C := ((True ∧ True) ∧ True)) rfl ⟨⟨trivial, trivial⟩, trivial⟩ ?_
      refine gv_get hD rfl rfl S_86 ⟨by decide, (gz_sh B_86)⟩ (gc_hA S_86 rfl A_86_14) ?_
      show gv_X _ _ (114, [(0, .inr (.inr (some 86))), (1, .inl a1), (2, .inl v2_9), (3, .inr (.inl v3_9))], [.inr (.inr (some 98)), .inr (.inr (some 86))], sh, gc_h sh I105 J8 A)
      refine gv_run 1 true hD (pcₚ := 115) (lvₚ := [(0, .inr (.inr (some 86))), (1, .inl a1), (2, .inl v2_9), (3, .inr (.inl v3_9))]) (stₚ := [.inl v2_9, .inr (.inr (some 98)), .inr (.inr (some 86))]) (hₚ := gc_h sh I105 J8 A) (C := (True ∧ True)) rfl ⟨trivial, trivial⟩ ?_
      have t114 := gz_hi ((FI105 98 (Int.toNat v2_9)).resolve_left (by (/-95-/first | omega | (simp only [gz_hd] at *; omega))))
      refine gv_iald hD rfl S_98 rfl ⟨by decide, (gz_sh B_98)⟩ ⟨by (/-96-/first | (have o1 := gz_sh e0_9; omega) | (simp only [gz_hd] at *; omega)), by (/-97-/first | (have o1 := gz_sh e0_9; have o2 := gz_sh f3; omega) | (simp only [gz_hd] at *; omega))⟩ (gc_iI S_98 rfl) ?_
      show gv_X _ _ (116, [(0, .inr (.inr (some 86))), (1, .inl a1), (2, .inl v2_9), (3, .inr (.inl v3_9))], [.inl (I105 98 (Int.toNat v2_9)), .inr (.inr (some 86))], sh, gc_h sh I105 J8 A)
      refine gv_put hD rfl rfl S_86 ⟨by decide, (gz_sh B_86)⟩ rfl trivial ?_
      refine gc_st (k := 17) hI105 S_86 rfl (gz_sh R_86) (lo := 0) (hi := 300) rfl rfl (by (/-98-/first | (have o1 := gz_sh f103; have o2 := gz_sh t102; have o3 := gz_sh t114; omega) | (simp only [gz_hd] at *; omega))) (by (/-99-/first | (have o1 := gz_sh f103; have o2 := gz_sh t102; have o3 := gz_sh t114; omega) | (simp only [gz_hd] at *; omega))) (fun I116 hI116 q117 p117 => ?_)
      have FI116 := gc_frs (W := fun q j => (q = 96 ∧ j = (Int.toNat (((I 86 9) - 1)))) ∨ q = 97 ∨ q = 99 ∨ (q = 86 ∧ j = 9) ∨ (q = 86 ∧ j = 16) ∨ (q = 86 ∧ j = 17)) FI105 (Or.inr (Or.inr (Or.inr (Or.inr (Or.inr ⟨rfl, rfl⟩))))) p117
      have t120 := gz_hi (p117 86 9 (fun h => absurd h.2 (by first | exact gz_ne rfl | decide)))
      have t122 := gz_hi (p117 6 1 (fun h => absurd h.2 (by first | exact gz_ne rfl | decide)))
      have t123 := gz_hi (p117 96 (Int.toNat v2_9) (fun h => absurd h.1 (by first | exact gz_ne rfl | decide)))
      show gv_X _ _ (119, [(0, .inr (.inr (some 86))), (1, .inl a1), (2, .inl v2_9), (3, .inr (.inl v3_9))], [], sh, gc_h sh I116 J8 A)
      refine gv_run 2 true hD (pcₚ := 121) (lvₚ := [(0, .inr (.inr (some 86))), (1, .inl a1), (2, .inl v2_9), (3, .inr (.inl v3_9))]) (stₚ := [.inr (.inr (some 86)), .inr (.inr (some 86))]) (hₚ := gc_h sh I116 J8 A) (C := ((True ∧ True) ∧ True)) rfl ⟨⟨trivial, trivial⟩, trivial⟩ ?_
      refine gv_get hD rfl rfl S_86 ⟨by decide, (gz_sh B_86)⟩ (gc_hA S_86 rfl A_86_11) ?_
      show gv_X _ _ (124, [(0, .inr (.inr (some 86))), (1, .inl a1), (2, .inl v2_9), (3, .inr (.inl v3_9))], [.inr (.inr (some 95)), .inr (.inr (some 86))], sh, gc_h sh I116 J8 A)
      refine gv_run 1 true hD (pcₚ := 125) (lvₚ := [(0, .inr (.inr (some 86))), (1, .inl a1), (2, .inl v2_9), (3, .inr (.inl v3_9))]) (stₚ := [.inl v2_9, .inr (.inr (some 95)), .inr (.inr (some 86))]) (hₚ := gc_h sh I116 J8 A) (C := (True ∧ True)) rfl ⟨trivial, trivial⟩ ?_
      have t125 := gz_hi ((FI116 95 (Int.toNat v2_9)).resolve_left (by (/-100-/first | omega | (simp only [gz_hd] at *; omega))))
      have f126 := gz_hi ((gc_b_61 hI116 (gz_sh R_95) (Int.toNat v2_9)))
      refine gv_iald hD rfl S_95 rfl ⟨by decide, (gz_sh B_95)⟩ ⟨by (/-101-/first | (have o1 := gz_sh e0_9; omega) | (simp only [gz_hd] at *; omega)), by (/-102-/first | (have o1 := gz_sh e0_9; have o2 := gz_sh f3; omega) | (simp only [gz_hd] at *; omega))⟩ (gc_iI S_95 rfl) ?_
      show gv_X _ _ (126, [(0, .inr (.inr (some 86))), (1, .inl a1), (2, .inl v2_9), (3, .inr (.inl v3_9))], [.inl (I116 95 (Int.toNat v2_9)), .inr (.inr (some 86))], sh, gc_h sh I116 J8 A)
      refine gv_put hD rfl rfl S_86 ⟨by decide, (gz_sh B_86)⟩ rfl trivial ?_
      refine gc_st (k := 16) hI116 S_86 rfl (gz_sh R_86) (lo := (-1)) (hi := 301) rfl rfl (by (/-103-/first | (have o1 := gz_sh f126; omega) | (simp only [gz_hd] at *; omega))) (by (/-104-/first | (have o1 := gz_sh f126; omega) | (simp only [gz_hd] at *; omega))) (fun I127 hI127 q128 p128 => ?_)
      have FI127 := gc_frs (W := fun q j => (q = 96 ∧ j = (Int.toNat (((I 86 9) - 1)))) ∨ q = 97 ∨ q = 99 ∨ (q = 86 ∧ j = 9) ∨ (q = 86 ∧ j = 16) ∨ (q = 86 ∧ j = 17)) FI116 (Or.inr (Or.inr (Or.inr (Or.inr (Or.inl ⟨rfl, rfl⟩))))) p128
      have t131 := gz_hi (p128 86 9 (fun h => absurd h.2 (by first | exact gz_ne rfl | decide)))
      have t132 := gz_hi (p128 86 17 (fun h => absurd h.2 (by first | exact gz_ne rfl | decide)))
      have t133 := gz_hi (p128 6 1 (fun h => absurd h.2 (by first | exact gz_ne rfl | decide)))
      have t134 := gz_hi (p128 96 (Int.toNat v2_9) (fun h => absurd h.1 (by first | exact gz_ne rfl | decide)))
      show gv_X _ _ (129, [(0, .inr (.inr (some 86))), (1, .inl a1), (2, .inl v2_9), (3, .inr (.inl v3_9))], [], sh, gc_h sh I127 J8 A)
      refine gv_run 1 true hD (pcₚ := 130) (lvₚ := [(0, .inr (.inr (some 86))), (1, .inl a1), (2, .inl v2_9), (3, .inr (.inl v3_9))]) (stₚ := [.inl (-1)]) (hₚ := gc_h sh I127 J8 A) (C := (True ∧ True)) rfl ⟨trivial, trivial⟩ ?_
      exact gv_iret hD rfl ⟨I127, J8, rfl, hI127, FI127, FJ8, ⟨_, rfl, by (/-105-/first | omega | (simp only [gz_hd] at *; omega)), by (/-106-/first | omega | (simp only [gz_hd] at *; omega)), (by rw [show J8 = J from funext fun q => funext fun j => (FJ8 q j).resolve_left id]; exact gc_OP_fr (m := Int.toNat v2_9) x0 (by (/-107-/first | (have o1 := gz_sh e1_9; have o2 := gz_sh t109; have o3 := gz_sh t120; have o4 := gz_sh t131; have o5 := gz_sh t83; omega) | (simp only [gz_hd] at *; omega))) (fun k => (FI127 95 k).resolve_left (by (/-108-/first | omega | (simp only [gz_hd] at *; omega)))) (fun k => (FI127 98 k).resolve_left (by (/-109-/first | omega | (simp only [gz_hd] at *; omega)))) (fun k hk => (FI127 96 k).resolve_left (by (/-110-/first | (have o1 := gz_sh e0_9; have o2 := gz_sh e1_9; have o3 := gz_sh f3; have o4 := gz_sh t109; have o5 := gz_sh t120; have o6 := gz_sh t131; have o7 := gz_sh t83; omega) | (simp only [gz_hd] at *; omega)))) (fun h => by (/-111-/first | (have o1 := gz_sh f15; have o2 := gz_sh t113; have o3 := gz_sh t123; have o4 := gz_sh t134; have o5 := gz_sh t86; omega) | (simp only [gz_hd] at *; omega)))), by (/-112-/first | (have o1 := gz_sh e0_9; have o2 := gz_sh e1_9; have o3 := gz_sh e4_9; have o4 := gz_sh t109; have o5 := gz_sh t114; have o6 := gz_sh t120; have o7 := gz_sh t125; have o8 := gz_sh t131; have o9 := gz_sh t132; have o10 := gz_sh t83; omega) | (simp only [gz_hd] at *; omega)), by (/-113-/first | (have o1 := gz_sh e1_9; have o2 := gz_sh t109; have o3 := gz_sh t120; have o4 := gz_sh t131; have o5 := gz_sh t83; omega) | (simp only [gz_hd] at *; omega))⟩⟩
set_option maxHeartbeats 8000000 in
set_option maxRecDepth 100000 in
theorem d_X10_goOn {ws0 : List Cond} {tb : String → gz_T} (hws : gc_Ws ws0) (htb : gc_tbs tb) (sh : gz_Sh) (ro : Nat → Nat) (I : gr_I) (J : gr_J) (A : gc_A) (hI : gc_Inv ro I) (a1 : Int) (hb : gc_Base sh ro A) (ha1 : 0 ≤ a1 ∧ a1 ≤ 1) (x0 : gc_OP J I) (x1 : 1 ≤ I 86 9) : ∃ r hₚ, gz_Ev ws0 tb 1 (yX10_goOn, cX10_goOn, 5, (some .int)) [.inr (.inr (some 86)), .inl a1] sh (gc_h sh I J A) r sh hₚ 0 0 ∧ (∃ (Iₚ : gr_I) (Jₚ : gr_J), hₚ = gc_h sh Iₚ Jₚ A ∧ gc_Inv ro Iₚ ∧ (∀ q j : Nat, ((q = 96 ∧ j = (Int.toNat (((I 86 9) - 1)))) ∨ q = 97 ∨ q = 99 ∨ (q = 86 ∧ j = 9) ∨ (q = 86 ∧ j = 16) ∨ (q = 86 ∧ j = 17)) ∨ Iₚ q j = I q j) ∧ (∀ q j : Nat, (False) ∨ Jₚ q j = J q j) ∧ (∃ z : Int, r = some (.inl z) ∧ (-1) ≤ z ∧ z ≤ 1 ∧ (gc_OP Jₚ Iₚ) ∧ (0 ≤ z ∨ (Iₚ 86 17 ≤ Iₚ 86 9 ∧ Iₚ 86 9 ≤ Iₚ 86 16)) ∧ (Iₚ 86 9 ≤ I 86 9))) := by
  have FI : ∀ q j : Nat, ((q = 96 ∧ j = (Int.toNat (((I 86 9) - 1)))) ∨ q = 97 ∨ q = 99 ∨ (q = 86 ∧ j = 9) ∨ (q = 86 ∧ j = 16) ∨ (q = 86 ∧ j = 17)) ∨ I q j = I q j := fun _ _ => Or.inr rfl
  have FJ : ∀ q j : Nat, (False) ∨ J q j = J q j := fun _ _ => Or.inr rfl
  have A_1_2 : A 1 2 = some 6 := gc_bA_1_2 hb
  have A_86_0 : A 86 0 = some 1 := gc_bA_86_0 hb
  have A_86_10 : A 86 10 = some 94 := gc_bA_86_10 hb
  have A_86_11 : A 86 11 = some 95 := gc_bA_86_11 hb
  have A_86_12 : A 86 12 = some 96 := gc_bA_86_12 hb
  have A_86_13 : A 86 13 = some 97 := gc_bA_86_13 hb
  have A_86_14 : A 86 14 = some 98 := gc_bA_86_14 hb
  have A_86_15 : A 86 15 = some 99 := gc_bA_86_15 hb
  have B_1 := gz_hi (show 1 < 1000000 from by decide)
  have B_6 := gz_hi (show 6 < 1000000 from by decide)
  have B_86 := gz_hi (show 86 < 1000000 from by decide)
  have B_94 := gz_hi (show 94 < 1000000 from by decide)
  have B_95 := gz_hi (show 95 < 1000000 from by decide)
  have B_96 := gz_hi (show 96 < 1000000 from by decide)
  have B_97 := gz_hi (show 97 < 1000000 from by decide)
  have B_98 := gz_hi (show 98 < 1000000 from by decide)
  have B_99 := gz_hi (show 99 < 1000000 from by decide)
  have R_6 := gz_hi (show ro 6 = 6 from gc_bR_6 hb)
  have R_86 := gz_hi (show ro 86 = 74 from gc_bR_86 hb)
  have R_95 := gz_hi (show ro 95 = 61 from gc_bR_95 hb)
  have R_96 := gz_hi (show ro 96 = 62 from gc_bR_96 hb)
  have R_97 := gz_hi (show ro 97 = 78 from gc_bR_97 hb)
  have R_98 := gz_hi (show ro 98 = 63 from gc_bR_98 hb)
  have R_99 := gz_hi (show ro 99 = 64 from gc_bR_99 hb)
  have S_1 : sh[1]? = some (false, 8, 21) := gc_bS_1 hb
  have S_6 : sh[6]? = some (false, 4, 2) := gc_bS_6 hb
  have S_86 : sh[86]? = some (false, 10, 19) := gc_bS_86 hb
  have S_94 : sh[94]? = some (true, 2, 300) := gc_bS_94 hb
  have S_95 : sh[95]? = some (true, 1, 300) := gc_bS_95 hb
  have S_96 : sh[96]? = some (true, 1, 300) := gc_bS_96 hb
  have S_97 : sh[97]? = some (true, 1, 300) := gc_bS_97 hb
  have S_98 : sh[98]? = some (true, 1, 300) := gc_bS_98 hb
  have S_99 : sh[99]? = some (true, 1, 301) := gc_bS_99 hb
  have hD : gv_D (gc_E10 ws0 tb 0 (yX10_goOn, cX10_goOn, 5, (some .int)) kX10_goOn) := gq_of oX10_goOn
  refine gc_ev10 (d := 0) (l := kX10_goOn) (Po := fun r hₚ => (∃ (Iₚ : gr_I) (Jₚ : gr_J), hₚ = gc_h sh Iₚ Jₚ A ∧ gc_Inv ro Iₚ ∧ (∀ q j : Nat, ((q = 96 ∧ j = (Int.toNat (((I 86 9) - 1)))) ∨ q = 97 ∨ q = 99 ∨ (q = 86 ∧ j = 9) ∨ (q = 86 ∧ j = 16) ∨ (q = 86 ∧ j = 17)) ∨ Iₚ q j = I q j) ∧ (∀ q j : Nat, (False) ∨ Jₚ q j = J q j) ∧ (∃ z : Int, r = some (.inl z) ∧ (-1) ≤ z ∧ z ≤ 1 ∧ (gc_OP Jₚ Iₚ) ∧ (0 ≤ z ∨ (Iₚ 86 17 ≤ Iₚ 86 9 ∧ Iₚ 86 9 ≤ Iₚ 86 16)) ∧ (Iₚ 86 9 ≤ I 86 9)))) htb rfl (Nat.le_of_ble_eq_true rfl) ?_
  have f3 := gz_hi ((gc_b_74_9 hI (gz_sh R_86)))
  have L40 : ∀ (I7 : gr_I) (J8 : gr_J) (v2_9 : Int) (v3_9 : Int64), gc_Inv ro I7 → (∀ q j : Nat, ((q = 96 ∧ j = (Int.toNat (((I 86 9) - 1)))) ∨ q = 97 ∨ q = 99 ∨ (q = 86 ∧ j = 9) ∨ (q = 86 ∧ j = 16) ∨ (q = 86 ∧ j = 17)) ∨ I7 q j = I q j) → (∀ q j : Nat, (False) ∨ J8 q j = J q j) → ((0 ≤ a1 ∧ a1 ≤ 1) ∧ ((-1) ≤ v2_9 ∧ v2_9 ≤ 299) ∧ (v2_9 = I 86 9 - 1) ∧ (I7 86 9 = I 86 9) ∧ (I7 96 (Int.toNat v2_9) = I 96 (Int.toNat v2_9) + 1) ∧ (I 96 (Int.toNat v2_9) ≤ 7) ∧ (I 98 (Int.toNat v2_9) ≤ v2_9 + 1)) → (v3_9 = J 94 (Int.toNat v2_9)) → (v2_9 + 1 ≤ I 95 (Int.toNat v2_9)) → gv_X (gc_E10 ws0 tb 0 (yX10_goOn, cX10_goOn, 5, (some .int)) kX10_goOn) (gv_Q cX10_goOn (some .int) sh (fun r hₚ => (∃ (Iₚ : gr_I) (Jₚ : gr_J), hₚ = gc_h sh Iₚ Jₚ A ∧ gc_Inv ro Iₚ ∧ (∀ q j : Nat, ((q = 96 ∧ j = (Int.toNat (((I 86 9) - 1)))) ∨ q = 97 ∨ q = 99 ∨ (q = 86 ∧ j = 9) ∨ (q = 86 ∧ j = 16) ∨ (q = 86 ∧ j = 17)) ∨ Iₚ q j = I q j) ∧ (∀ q j : Nat, (False) ∨ Jₚ q j = J q j) ∧ (∃ z : Int, r = some (.inl z) ∧ (-1) ≤ z ∧ z ≤ 1 ∧ (gc_OP Jₚ Iₚ) ∧ (0 ≤ z ∨ (Iₚ 86 17 ≤ Iₚ 86 9 ∧ Iₚ 86 9 ≤ Iₚ 86 16)) ∧ (Iₚ 86 9 ≤ I 86 9))))) (40, [(0, .inr (.inr (some 86))), (1, .inl a1), (2, .inl v2_9), (3, .inr (.inl v3_9))], [], sh, gc_h sh I7 J8 A) := d_X10_goOn_L40 (ws0 := ws0) (tb := tb) hws htb sh ro I J A hI a1 hb ha1 x0 x1
  have L195 : ∀ (I136 : gr_I) (J137 : gr_J) (v2_138 : Int) (v3_138 : Int64), gc_Inv ro I136 → (∀ q j : Nat, ((q = 96 ∧ j = (Int.toNat (((I 86 9) - 1)))) ∨ q = 97 ∨ q = 99 ∨ (q = 86 ∧ j = 9) ∨ (q = 86 ∧ j = 16) ∨ (q = 86 ∧ j = 17)) ∨ I136 q j = I q j) → (∀ q j : Nat, (False) ∨ J137 q j = J q j) → ((0 ≤ a1 ∧ a1 ≤ 1) ∧ ((-1) ≤ v2_138 ∧ v2_138 ≤ 299) ∧ (v2_138 = I 86 9 - 1) ∧ (I136 86 9 = I 86 9) ∧ (I136 96 (Int.toNat v2_138) = I 96 (Int.toNat v2_138) + 1) ∧ (I 96 (Int.toNat v2_138) ≤ 7) ∧ (I 98 (Int.toNat v2_138) ≤ v2_138 + 1)) → (v3_138 = J 94 (Int.toNat v2_138)) → gv_X (gc_E10 ws0 tb 0 (yX10_goOn, cX10_goOn, 5, (some .int)) kX10_goOn) (gv_Q cX10_goOn (some .int) sh (fun r hₚ => (∃ (Iₚ : gr_I) (Jₚ : gr_J), hₚ = gc_h sh Iₚ Jₚ A ∧ gc_Inv ro Iₚ ∧ (∀ q j : Nat, ((q = 96 ∧ j = (Int.toNat (((I 86 9) - 1)))) ∨ q = 97 ∨ q = 99 ∨ (q = 86 ∧ j = 9) ∨ (q = 86 ∧ j = 16) ∨ (q = 86 ∧ j = 17)) ∨ Iₚ q j = I q j) ∧ (∀ q j : Nat, (False) ∨ Jₚ q j = J q j) ∧ (∃ z : Int, r = some (.inl z) ∧ (-1) ≤ z ∧ z ≤ 1 ∧ (gc_OP Jₚ Iₚ) ∧ (0 ≤ z ∨ (Iₚ 86 17 ≤ Iₚ 86 9 ∧ Iₚ 86 9 ≤ Iₚ 86 16)) ∧ (Iₚ 86 9 ≤ I 86 9))))) (195, [(0, .inr (.inr (some 86))), (1, .inl a1), (2, .inl v2_138), (3, .inr (.inl v3_138))], [], sh, gc_h sh I136 J137 A) := by
    intro I136 J137 v2_138 v3_138 hI136 FI136 FJ137 m_138 e5_138
    obtain ⟨ha1_138, hv2_138, e0_138, e1_138, e2_138, e3_138, e4_138⟩ := gz_h7 m_138
    have L263 : ∀ (I145 : gr_I) (J146 : gr_J) (s0_147 : Int), gc_Inv ro I145 → (∀ q j : Nat, ((q = 96 ∧ j = (Int.toNat (((I 86 9) - 1)))) ∨ q = 97 ∨ q = 99 ∨ (q = 86 ∧ j = 9) ∨ (q = 86 ∧ j = 16) ∨ (q = 86 ∧ j = 17)) ∨ I145 q j = I q j) → (∀ q j : Nat, (False) ∨ J146 q j = J q j) → ((0 ≤ s0_147 ∧ s0_147 ≤ 1) ∧ (I145 86 9 = I 86 9 - 1)) → gv_X (gc_E10 ws0 tb 0 (yX10_goOn, cX10_goOn, 5, (some .int)) kX10_goOn) (gv_Q cX10_goOn (some .int) sh (fun r hₚ => (∃ (Iₚ : gr_I) (Jₚ : gr_J), hₚ = gc_h sh Iₚ Jₚ A ∧ gc_Inv ro Iₚ ∧ (∀ q j : Nat, ((q = 96 ∧ j = (Int.toNat (((I 86 9) - 1)))) ∨ q = 97 ∨ q = 99 ∨ (q = 86 ∧ j = 9) ∨ (q = 86 ∧ j = 16) ∨ (q = 86 ∧ j = 17)) ∨ Iₚ q j = I q j) ∧ (∀ q j : Nat, (False) ∨ Jₚ q j = J q j) ∧ (∃ z : Int, r = some (.inl z) ∧ (-1) ≤ z ∧ z ≤ 1 ∧ (gc_OP Jₚ Iₚ) ∧ (0 ≤ z ∨ (Iₚ 86 17 ≤ Iₚ 86 9 ∧ Iₚ 86 9 ≤ Iₚ 86 16)) ∧ (Iₚ 86 9 ≤ I 86 9))))) (263, [], [.inl s0_147], sh, gc_h sh I145 J146 A) := by
      intro I145 J146 s0_147 hI145 FI145 FJ146 m_147
      clear ha1_138 hv2_138 e0_138 e1_138 e2_138 e3_138 e4_138
      obtain ⟨hs0_147, e0_147⟩ := gz_h2 m_147
      exact gv_iret hD rfl ⟨I145, J146, rfl, hI145, FI145, FJ146, ⟨_, rfl, by (/-114-/first | (have o1 := gz_sh hs0_147; omega) | (simp only [gz_hd] at *; omega)), by (/-115-/first | (have o1 := gz_sh hs0_147; omega) | (simp only [gz_hd] at *; omega)), (by rw [show J146 = J from funext fun q => funext fun j => (FJ146 q j).resolve_left id]; exact gc_OP_fr (m := Int.toNat (I 86 9 - 1)) x0 (by (/-116-/first | (have o1 := gz_sh e0_147; omega) | (simp only [gz_hd] at *; omega))) (fun k => (FI145 95 k).resolve_left (by (/-117-/first | omega | (simp only [gz_hd] at *; omega)))) (fun k => (FI145 98 k).resolve_left (by (/-118-/first | omega | (simp only [gz_hd] at *; omega)))) (fun k hk => (FI145 96 k).resolve_left (by (/-119-/first | omega | (simp only [gz_hd] at *; omega)))) (fun h => by (/-120-/first | (have o1 := gz_sh e0_147; have o2 := gz_sh f3; omega) | (simp only [gz_hd] at *; omega)))), by (/-121-/first | (have o1 := gz_sh hs0_147; omega) | (simp only [gz_hd] at *; omega)), by (/-122-/first | (have o1 := gz_sh e0_147; omega) | (simp only [gz_hd] at *; omega))⟩⟩
    refine gv_run 2 true hD (pcₚ := 197) (lvₚ := [(0, .inr (.inr (some 86))), (1, .inl a1), (2, .inl v2_138), (3, .inr (.inl v3_138))]) (stₚ := [.inr (.inr (some 86)), .inr (.inr (some 86))]) (hₚ := gc_h sh I136 J137 A) (C := ((True ∧ True) ∧ True)) rfl ⟨⟨trivial, trivial⟩, trivial⟩ ?_
    refine gv_get hD rfl rfl S_86 ⟨by decide, (gz_sh B_86)⟩ (gc_hI S_86 rfl) ?_
    show gv_X _ _ (200, [(0, .inr (.inr (some 86))), (1, .inl a1), (2, .inl v2_138), (3, .inr (.inl v3_138))], [.inl (I136 86 9), .inr (.inr (some 86))], sh, gc_h sh I136 J137 A)
    refine gv_run 2 true hD (pcₚ := 202) (lvₚ := [(0, .inr (.inr (some 86))), (1, .inl a1), (2, .inl v2_138), (3, .inr (.inl v3_138))]) (stₚ := [.inl ((I136 86 9) - 1), .inr (.inr (some 86))]) (hₚ := gc_h sh I136 J137 A) (C := ((True ∧ True) ∧ True)) rfl ⟨⟨trivial, trivial⟩, trivial⟩ ?_
    refine gv_put hD rfl rfl S_86 ⟨by decide, (gz_sh B_86)⟩ rfl trivial ?_
    refine gc_st (k := 9) hI136 S_86 rfl (gz_sh R_86) (lo := 0) (hi := 300) rfl rfl (by (/-123-/first | (have o1 := gz_sh e1_138; omega) | (simp only [gz_hd] at *; omega))) (by (/-124-/first | (have o1 := gz_sh e1_138; have o2 := gz_sh f3; omega) | (simp only [gz_hd] at *; omega))) (fun I155 hI155 q156 p156 => ?_)
    have FI155 := gc_frs (W := fun q j => (q = 96 ∧ j = (Int.toNat (((I 86 9) - 1)))) ∨ q = 97 ∨ q = 99 ∨ (q = 86 ∧ j = 9) ∨ (q = 86 ∧ j = 16) ∨ (q = 86 ∧ j = 17)) FI136 (Or.inr (Or.inr (Or.inr (Or.inl ⟨rfl, rfl⟩)))) p156
    show gv_X _ _ (205, [(0, .inr (.inr (some 86))), (1, .inl a1), (2, .inl v2_138), (3, .inr (.inl v3_138))], [], sh, gc_h sh I155 J137 A)
    have f164 := gz_hi (gw_cmp (v3_138) ((7237492)))
    refine gv_run 3 true hD (pcₚ := 210) (lvₚ := [(0, .inr (.inr (some 86))), (1, .inl a1), (2, .inl v2_138), (3, .inr (.inl v3_138))]) (stₚ := [.inl ((lg_cmp (v3_138) ((7237492))).toInt)]) (hₚ := gc_h sh I155 J137 A) (C := (((True ∧ True) ∧ True) ∧ True)) rfl ⟨⟨⟨trivial, trivial⟩, trivial⟩, trivial⟩ ?_
    refine gv_if_ne (t := 217) hD rfl rfl ⟨by (/-125-/first | (have o1 := gz_sh f164; omega) | (simp only [gz_hd] at *; omega)), by (/-126-/first | (have o1 := gz_sh f164; omega) | (simp only [gz_hd] at *; omega))⟩ (fun c165 => ?_) (fun c165 => ?_)
    · show gv_X _ _ (217, [(0, .inr (.inr (some 86))), (1, .inl a1), (2, .inl v2_138), (3, .inr (.inl v3_138))], [], sh, gc_h sh I155 J137 A)
      have f166 := gz_hi (gw_cmp (v3_138) ((6385252)))
      refine gv_run 3 true hD (pcₚ := 222) (lvₚ := [(0, .inr (.inr (some 86))), (1, .inl a1), (2, .inl v2_138), (3, .inr (.inl v3_138))]) (stₚ := [.inl ((lg_cmp (v3_138) ((6385252))).toInt)]) (hₚ := gc_h sh I155 J137 A) (C := (((True ∧ True) ∧ True) ∧ True)) rfl ⟨⟨⟨trivial, trivial⟩, trivial⟩, trivial⟩ ?_
      refine gv_if_ne (t := 234) hD rfl rfl ⟨by (/-127-/first | (have o1 := gz_sh f166; omega) | (simp only [gz_hd] at *; omega)), by (/-128-/first | (have o1 := gz_sh f166; omega) | (simp only [gz_hd] at *; omega))⟩ (fun c167 => ?_) (fun c167 => ?_)
      · show gv_X _ _ (234, [(0, .inr (.inr (some 86))), (1, .inl a1), (2, .inl v2_138), (3, .inr (.inl v3_138))], [], sh, gc_h sh I155 J137 A)
        have f168 := gz_hi (gw_cmp (v3_138) ((28530)))
        refine gv_run 3 true hD (pcₚ := 239) (lvₚ := [(0, .inr (.inr (some 86))), (1, .inl a1), (2, .inl v2_138), (3, .inr (.inl v3_138))]) (stₚ := [.inl ((lg_cmp (v3_138) ((28530))).toInt)]) (hₚ := gc_h sh I155 J137 A) (C := (((True ∧ True) ∧ True) ∧ True)) rfl ⟨⟨⟨trivial, trivial⟩, trivial⟩, trivial⟩ ?_
        refine gv_if_ne (t := 253) hD rfl rfl ⟨by (/-129-/first | (have o1 := gz_sh f168; omega) | (simp only [gz_hd] at *; omega)), by (/-130-/first | (have o1 := gz_sh f168; omega) | (simp only [gz_hd] at *; omega))⟩ (fun c169 => ?_) (fun c169 => ?_)
        · show gv_X _ _ (253, [(0, .inr (.inr (some 86))), (1, .inl a1), (2, .inl v2_138), (3, .inr (.inl v3_138))], [], sh, gc_h sh I155 J137 A)
          refine gv_run 2 true hD (pcₚ := 255) (lvₚ := [(0, .inr (.inr (some 86))), (1, .inl a1), (2, .inl v2_138), (3, .inr (.inl v3_138))]) (stₚ := [.inr (.inr (some 86)), .inl 1]) (hₚ := gc_h sh I155 J137 A) (C := ((True ∧ True) ∧ True)) rfl ⟨⟨trivial, trivial⟩, trivial⟩ ?_
          refine gv_get hD rfl rfl S_86 ⟨by decide, (gz_sh B_86)⟩ (gc_hA S_86 rfl A_86_13) ?_
          show gv_X _ _ (258, [(0, .inr (.inr (some 86))), (1, .inl a1), (2, .inl v2_138), (3, .inr (.inl v3_138))], [.inr (.inr (some 97)), .inl 1], sh, gc_h sh I155 J137 A)
          refine gv_run 1 true hD (pcₚ := 259) (lvₚ := [(0, .inr (.inr (some 86))), (1, .inl a1), (2, .inl v2_138), (3, .inr (.inl v3_138))]) (stₚ := [.inl v2_138, .inr (.inr (some 97)), .inl 1]) (hₚ := gc_h sh I155 J137 A) (C := (True ∧ True)) rfl ⟨trivial, trivial⟩ ?_
          have f170 := gz_hi ((gc_b_78 hI155 (gz_sh R_97) (Int.toNat v2_138)))
          refine gv_iald hD rfl S_97 rfl ⟨by decide, (gz_sh B_97)⟩ ⟨by (/-131-/first | (have o1 := gz_sh e0_138; omega) | (simp only [gz_hd] at *; omega)), by (/-132-/first | (have o1 := gz_sh e0_138; have o2 := gz_sh f3; omega) | (simp only [gz_hd] at *; omega))⟩ (gc_iI S_97 rfl) ?_
          show gv_X _ _ (260, [(0, .inr (.inr (some 86))), (1, .inl a1), (2, .inl v2_138), (3, .inr (.inl v3_138))], [.inl (I155 97 (Int.toNat v2_138)), .inl 1], sh, gc_h sh I155 J137 A)
          have f171 := gz_hi (gc_or1 (x := ((1 - (I155 97 (Int.toNat v2_138))))) (y := a1) ⟨by (/-133-/first | (have o1 := gz_sh f170; omega) | (simp only [gz_hd] at *; omega)), by (/-134-/first | (have o1 := gz_sh f170; omega) | (simp only [gz_hd] at *; omega))⟩ ⟨by (/-135-/first | omega | (simp only [gz_hd] at *; omega)), by (/-136-/first | omega | (simp only [gz_hd] at *; omega))⟩)
          refine gv_run 3 true hD (pcₚ := 263) (lvₚ := [(0, .inr (.inr (some 86))), (1, .inl a1), (2, .inl v2_138), (3, .inr (.inl v3_138))]) (stₚ := [.inl ((Int32.ofInt ((1 - (I155 97 (Int.toNat v2_138)))) ||| Int32.ofInt a1).toInt)]) (hₚ := gc_h sh I155 J137 A) (C := (((True ∧ True) ∧ True) ∧ True)) rfl ⟨⟨⟨trivial, trivial⟩, trivial⟩, trivial⟩ ?_
          refine gv_pick [] rfl ?_
          exact L263 I155 J137 (((Int32.ofInt ((1 - (I155 97 (Int.toNat v2_138)))) ||| Int32.ofInt a1).toInt)) hI155 FI155 FJ137 (by (/-137-/first | (and_intros; (have o1 := gz_sh f171; omega); (have o1 := gz_sh f171; omega); (have o1 := gz_sh e1_138; omega)) | (simp only [gz_hd] at *; omega)))
        · show gv_X _ _ (242, [(0, .inr (.inr (some 86))), (1, .inl a1), (2, .inl v2_138), (3, .inr (.inl v3_138))], [], sh, gc_h sh I155 J137 A)
          refine gv_run 1 true hD (pcₚ := 243) (lvₚ := [(0, .inr (.inr (some 86))), (1, .inl a1), (2, .inl v2_138), (3, .inr (.inl v3_138))]) (stₚ := [.inr (.inr (some 86))]) (hₚ := gc_h sh I155 J137 A) (C := (True ∧ True)) rfl ⟨trivial, trivial⟩ ?_
          refine gv_get hD rfl rfl S_86 ⟨by decide, (gz_sh B_86)⟩ (gc_hA S_86 rfl A_86_13) ?_
          show gv_X _ _ (246, [(0, .inr (.inr (some 86))), (1, .inl a1), (2, .inl v2_138), (3, .inr (.inl v3_138))], [.inr (.inr (some 97))], sh, gc_h sh I155 J137 A)
          refine gv_run 1 true hD (pcₚ := 247) (lvₚ := [(0, .inr (.inr (some 86))), (1, .inl a1), (2, .inl v2_138), (3, .inr (.inl v3_138))]) (stₚ := [.inl v2_138, .inr (.inr (some 97))]) (hₚ := gc_h sh I155 J137 A) (C := (True ∧ True)) rfl ⟨trivial, trivial⟩ ?_
          have f172 := gz_hi ((gc_b_78 hI155 (gz_sh R_97) (Int.toNat v2_138)))
          refine gv_iald hD rfl S_97 rfl ⟨by decide, (gz_sh B_97)⟩ ⟨by (/-138-/first | (have o1 := gz_sh e0_138; omega) | (simp only [gz_hd] at *; omega)), by (/-139-/first | (have o1 := gz_sh e0_138; have o2 := gz_sh f3; omega) | (simp only [gz_hd] at *; omega))⟩ (gc_iI S_97 rfl) ?_
          show gv_X _ _ (248, [(0, .inr (.inr (some 86))), (1, .inl a1), (2, .inl v2_138), (3, .inr (.inl v3_138))], [.inl (I155 97 (Int.toNat v2_138))], sh, gc_h sh I155 J137 A)
          have f173 := gz_hi (gc_or1 (x := ((I155 97 (Int.toNat v2_138)))) (y := a1) ⟨by (/-140-/first | (have o1 := gz_sh f172; omega) | (simp only [gz_hd] at *; omega)), by (/-141-/first | (have o1 := gz_sh f172; omega) | (simp only [gz_hd] at *; omega))⟩ ⟨by (/-142-/first | omega | (simp only [gz_hd] at *; omega)), by (/-143-/first | omega | (simp only [gz_hd] at *; omega))⟩)
          refine gv_run 3 true hD (pcₚ := 263) (lvₚ := [(0, .inr (.inr (some 86))), (1, .inl a1), (2, .inl v2_138), (3, .inr (.inl v3_138))]) (stₚ := [.inl ((Int32.ofInt ((I155 97 (Int.toNat v2_138))) ||| Int32.ofInt a1).toInt)]) (hₚ := gc_h sh I155 J137 A) (C := (((True ∧ True) ∧ True) ∧ True)) rfl ⟨⟨⟨trivial, trivial⟩, trivial⟩, trivial⟩ ?_
          refine gv_pick [] rfl ?_
          exact L263 I155 J137 (((Int32.ofInt ((I155 97 (Int.toNat v2_138))) ||| Int32.ofInt a1).toInt)) hI155 FI155 FJ137 (by (/-144-/first | (and_intros; (have o1 := gz_sh f173; omega); (have o1 := gz_sh f173; omega); (have o1 := gz_sh e1_138; omega)) | (simp only [gz_hd] at *; omega)))
      · show gv_X _ _ (225, [(0, .inr (.inr (some 86))), (1, .inl a1), (2, .inl v2_138), (3, .inr (.inl v3_138))], [], sh, gc_h sh I155 J137 A)
        refine gv_run 1 true hD (pcₚ := 226) (lvₚ := [(0, .inr (.inr (some 86))), (1, .inl a1), (2, .inl v2_138), (3, .inr (.inl v3_138))]) (stₚ := [.inr (.inr (some 86))]) (hₚ := gc_h sh I155 J137 A) (C := (True ∧ True)) rfl ⟨trivial, trivial⟩ ?_
        refine gv_get hD rfl rfl S_86 ⟨by decide, (gz_sh B_86)⟩ (gc_hA S_86 rfl A_86_13) ?_
        show gv_X _ _ (229, [(0, .inr (.inr (some 86))), (1, .inl a1), (2, .inl v2_138), (3, .inr (.inl v3_138))], [.inr (.inr (some 97))], sh, gc_h sh I155 J137 A)
        refine gv_run 1 true hD (pcₚ := 230) (lvₚ := [(0, .inr (.inr (some 86))), (1, .inl a1), (2, .inl v2_138), (3, .inr (.inl v3_138))]) (stₚ := [.inl v2_138, .inr (.inr (some 97))]) (hₚ := gc_h sh I155 J137 A) (C := (True ∧ True)) rfl ⟨trivial, trivial⟩ ?_
        have f174 := gz_hi ((gc_b_78 hI155 (gz_sh R_97) (Int.toNat v2_138)))
        refine gv_iald hD rfl S_97 rfl ⟨by decide, (gz_sh B_97)⟩ ⟨by (/-145-/first | (have o1 := gz_sh e0_138; omega) | (simp only [gz_hd] at *; omega)), by (/-146-/first | (have o1 := gz_sh e0_138; have o2 := gz_sh f3; omega) | (simp only [gz_hd] at *; omega))⟩ (gc_iI S_97 rfl) ?_
        show gv_X _ _ (231, [(0, .inr (.inr (some 86))), (1, .inl a1), (2, .inl v2_138), (3, .inr (.inl v3_138))], [.inl (I155 97 (Int.toNat v2_138))], sh, gc_h sh I155 J137 A)
        have f175 := gz_hi (gw_andl (x := ((I155 97 (Int.toNat v2_138)))) (y := a1) ⟨by (/-147-/first | (have o1 := gz_sh f174; omega) | (simp only [gz_hd] at *; omega)), by (/-148-/first | (have o1 := gz_sh f174; omega) | (simp only [gz_hd] at *; omega))⟩)
        refine gv_run 2 true hD (pcₚ := 233) (lvₚ := [(0, .inr (.inr (some 86))), (1, .inl a1), (2, .inl v2_138), (3, .inr (.inl v3_138))]) (stₚ := [.inl ((Int32.ofInt ((I155 97 (Int.toNat v2_138))) &&& Int32.ofInt a1).toInt)]) (hₚ := gc_h sh I155 J137 A) (C := ((True ∧ True) ∧ True)) rfl ⟨⟨trivial, trivial⟩, trivial⟩ ?_
        exact gv_iret hD rfl ⟨I155, J137, rfl, hI155, FI155, FJ137, ⟨_, rfl, by (/-149-/first | (have o1 := gz_sh f175; omega) | (simp only [gz_hd] at *; omega)), by (/-150-/first | (have o1 := gz_sh f174; have o2 := gz_sh f175; omega) | (simp only [gz_hd] at *; omega)), (by rw [show J137 = J from funext fun q => funext fun j => (FJ137 q j).resolve_left id]; exact gc_OP_fr (m := Int.toNat v2_138) x0 (by (/-151-/first | (have o1 := gz_sh e1_138; omega) | (simp only [gz_hd] at *; omega))) (fun k => (FI155 95 k).resolve_left (by (/-152-/first | omega | (simp only [gz_hd] at *; omega)))) (fun k => (FI155 98 k).resolve_left (by (/-153-/first | omega | (simp only [gz_hd] at *; omega)))) (fun k hk => (FI155 96 k).resolve_left (by (/-154-/first | (have o1 := gz_sh e0_138; have o2 := gz_sh e1_138; have o3 := gz_sh f3; omega) | (simp only [gz_hd] at *; omega)))) (fun h => by (/-155-/first | (have o1 := gz_sh e0_138; have o2 := gz_sh e1_138; have o3 := gz_sh f3; omega) | (simp only [gz_hd] at *; omega)))), by (/-156-/first | (have o1 := gz_sh f175; omega) | (simp only [gz_hd] at *; omega)), by (/-157-/first | (have o1 := gz_sh e1_138; omega) | (simp only [gz_hd] at *; omega))⟩⟩
    · show gv_X _ _ (213, [(0, .inr (.inr (some 86))), (1, .inl a1), (2, .inl v2_138), (3, .inr (.inl v3_138))], [], sh, gc_h sh I155 J137 A)
      refine gv_run 3 true hD (pcₚ := 216) (lvₚ := [(0, .inr (.inr (some 86))), (1, .inl a1), (2, .inl v2_138), (3, .inr (.inl v3_138))]) (stₚ := [.inl (1 - a1)]) (hₚ := gc_h sh I155 J137 A) (C := (((True ∧ True) ∧ True) ∧ True)) rfl ⟨⟨⟨trivial, trivial⟩, trivial⟩, trivial⟩ ?_
      exact gv_iret hD rfl ⟨I155, J137, rfl, hI155, FI155, FJ137, ⟨_, rfl, by (/-158-/first | omega | (simp only [gz_hd] at *; omega)), by (/-159-/first | omega | (simp only [gz_hd] at *; omega)), (by rw [show J137 = J from funext fun q => funext fun j => (FJ137 q j).resolve_left id]; exact gc_OP_fr (m := Int.toNat v2_138) x0 (by (/-160-/first | (have o1 := gz_sh e1_138; omega) | (simp only [gz_hd] at *; omega))) (fun k => (FI155 95 k).resolve_left (by (/-161-/first | omega | (simp only [gz_hd] at *; omega)))) (fun k => (FI155 98 k).resolve_left (by (/-162-/first | omega | (simp only [gz_hd] at *; omega)))) (fun k hk => (FI155 96 k).resolve_left (by (/-163-/first | (have o1 := gz_sh e0_138; have o2 := gz_sh e1_138; have o3 := gz_sh f3; omega) | (simp only [gz_hd] at *; omega)))) (fun h => by (/-164-/first | (have o1 := gz_sh e0_138; have o2 := gz_sh e1_138; have o3 := gz_sh f3; omega) | (simp only [gz_hd] at *; omega)))), by (/-165-/first | omega | (simp only [gz_hd] at *; omega)), by (/-166-/first | (have o1 := gz_sh e1_138; omega) | (simp only [gz_hd] at *; omega))⟩⟩
  refine gv_run 1 true hD (pcₚ := 1) (lvₚ := [(0, .inr (.inr (some 86))), (1, .inl a1)]) (stₚ := [.inr (.inr (some 86))]) (hₚ := gc_h sh I J A) (C := (True ∧ True)) rfl ⟨trivial, trivial⟩ ?_
  refine gv_get hD rfl rfl S_86 ⟨by decide, (gz_sh B_86)⟩ (gc_hI S_86 rfl) ?_
  show gv_X _ _ (4, [(0, .inr (.inr (some 86))), (1, .inl a1)], [.inl (I 86 9)], sh, gc_h sh I J A)
  refine gv_run 4 true hD (pcₚ := 8) (lvₚ := [(2, .inl ((I 86 9) - 1)), (0, .inr (.inr (some 86))), (1, .inl a1)]) (stₚ := [.inr (.inr (some 86))]) (hₚ := gc_h sh I J A) (C := ((((True ∧ True) ∧ True) ∧ True) ∧ True)) rfl ⟨⟨⟨⟨trivial, trivial⟩, trivial⟩, trivial⟩, trivial⟩ ?_
  refine gv_get hD rfl rfl S_86 ⟨by decide, (gz_sh B_86)⟩ (gc_hA S_86 rfl A_86_10) ?_
  show gv_X _ _ (11, [(2, .inl ((I 86 9) - 1)), (0, .inr (.inr (some 86))), (1, .inl a1)], [.inr (.inr (some 94))], sh, gc_h sh I J A)
  refine gv_run 1 true hD (pcₚ := 12) (lvₚ := [(2, .inl ((I 86 9) - 1)), (0, .inr (.inr (some 86))), (1, .inl a1)]) (stₚ := [.inl ((I 86 9) - 1), .inr (.inr (some 94))]) (hₚ := gc_h sh I J A) (C := (True ∧ True)) rfl ⟨trivial, trivial⟩ ?_
  refine gv_lald hD rfl S_94 rfl ⟨by decide, (gz_sh B_94)⟩ ⟨by (/-167-/first | omega | (simp only [gz_hd] at *; omega)), by (/-168-/first | (have o1 := gz_sh f3; omega) | (simp only [gz_hd] at *; omega))⟩ (gc_jJ S_94 rfl) ?_
  show gv_X _ _ (13, [(2, .inl ((I 86 9) - 1)), (0, .inr (.inr (some 86))), (1, .inl a1)], [.inr (.inl (J 94 (Int.toNat (((I 86 9) - 1)))))], sh, gc_h sh I J A)
  refine gv_run 1 true hD (pcₚ := 14) (lvₚ := [(3, .inr (.inl (J 94 (Int.toNat (((I 86 9) - 1)))))), (2, .inl ((I 86 9) - 1)), (0, .inr (.inr (some 86))), (1, .inl a1)]) (stₚ := []) (hₚ := gc_h sh I J A) (C := (True ∧ True)) rfl ⟨trivial, trivial⟩ ?_
  have t177 := gz_hi (x0 (Int.toNat ((I 86 9) - 1)) (by (/-169-/first | omega | (simp only [gz_hd] at *; omega))))
  refine gv_run 1 true hD (pcₚ := 15) (lvₚ := [(3, .inr (.inl (J 94 (Int.toNat (((I 86 9) - 1)))))), (2, .inl ((I 86 9) - 1)), (0, .inr (.inr (some 86))), (1, .inl a1)]) (stₚ := [.inr (.inr (some 86))]) (hₚ := gc_h sh I J A) (C := (True ∧ True)) rfl ⟨trivial, trivial⟩ ?_
  refine gv_get hD rfl rfl S_86 ⟨by decide, (gz_sh B_86)⟩ (gc_hA S_86 rfl A_86_12) ?_
  show gv_X _ _ (18, [(3, .inr (.inl (J 94 (Int.toNat (((I 86 9) - 1)))))), (2, .inl ((I 86 9) - 1)), (0, .inr (.inr (some 86))), (1, .inl a1)], [.inr (.inr (some 96))], sh, gc_h sh I J A)
  refine gv_run 2 true hD (pcₚ := 20) (lvₚ := [(3, .inr (.inl (J 94 (Int.toNat (((I 86 9) - 1)))))), (2, .inl ((I 86 9) - 1)), (0, .inr (.inr (some 86))), (1, .inl a1)]) (stₚ := [.inl ((I 86 9) - 1), .inr (.inr (some 96)), .inl ((I 86 9) - 1), .inr (.inr (some 96))]) (hₚ := gc_h sh I J A) (C := ((True ∧ True) ∧ True)) rfl ⟨⟨trivial, trivial⟩, trivial⟩ ?_
  have f178 := gz_hi ((gc_b_62 hI (gz_sh R_96) (Int.toNat (((I 86 9) - 1)))))
  refine gv_iald hD rfl S_96 rfl ⟨by decide, (gz_sh B_96)⟩ ⟨by (/-170-/first | omega | (simp only [gz_hd] at *; omega)), by (/-171-/first | (have o1 := gz_sh f3; omega) | (simp only [gz_hd] at *; omega))⟩ (gc_iI S_96 rfl) ?_
  show gv_X _ _ (21, [(3, .inr (.inl (J 94 (Int.toNat (((I 86 9) - 1)))))), (2, .inl ((I 86 9) - 1)), (0, .inr (.inr (some 86))), (1, .inl a1)], [.inl (I 96 (Int.toNat (((I 86 9) - 1)))), .inl ((I 86 9) - 1), .inr (.inr (some 96))], sh, gc_h sh I J A)
  refine gv_run 2 true hD (pcₚ := 23) (lvₚ := [(3, .inr (.inl (J 94 (Int.toNat (((I 86 9) - 1)))))), (2, .inl ((I 86 9) - 1)), (0, .inr (.inr (some 86))), (1, .inl a1)]) (stₚ := [.inl ((I 96 (Int.toNat (((I 86 9) - 1)))) + 1), .inl ((I 86 9) - 1), .inr (.inr (some 96))]) (hₚ := gc_h sh I J A) (C := ((True ∧ True) ∧ True)) rfl ⟨⟨trivial, trivial⟩, trivial⟩ ?_
  refine gv_iast hD rfl S_96 ⟨by decide, (gz_sh B_96)⟩ ⟨by (/-172-/first | omega | (simp only [gz_hd] at *; omega)), by (/-173-/first | (have o1 := gz_sh f3; omega) | (simp only [gz_hd] at *; omega))⟩ ?_
  refine gc_st hI S_96 rfl (gz_sh R_96) (lo := 0) (hi := 9) rfl rfl (by (/-174-/first | (have o1 := gz_sh f178; omega) | (simp only [gz_hd] at *; omega))) (by (/-175-/first | (have o1 := gz_sh t177; omega) | (simp only [gz_hd] at *; omega))) (fun I179 hI179 q180 p180 => ?_)
  have FI179 := gc_frs (W := fun q j => (q = 96 ∧ j = (Int.toNat (((I 86 9) - 1)))) ∨ q = 97 ∨ q = 99 ∨ (q = 86 ∧ j = 9) ∨ (q = 86 ∧ j = 16) ∨ (q = 86 ∧ j = 17)) FI (Or.inl ⟨rfl, rfl⟩) p180
  have t183 := gz_hi (p180 86 9 (fun h => absurd h.1 (by first | exact gz_ne rfl | decide)))
  show gv_X _ _ (24, [(3, .inr (.inl (J 94 (Int.toNat (((I 86 9) - 1)))))), (2, .inl ((I 86 9) - 1)), (0, .inr (.inr (some 86))), (1, .inl a1)], [], sh, gc_h sh I179 J A)
  have f187 := gz_hi (gw_cmp ((J 94 (Int.toNat (((I 86 9) - 1))))) ((6384748)))
  refine gv_run 3 true hD (pcₚ := 29) (lvₚ := [(3, .inr (.inl (J 94 (Int.toNat (((I 86 9) - 1)))))), (2, .inl ((I 86 9) - 1)), (0, .inr (.inr (some 86))), (1, .inl a1)]) (stₚ := [.inl ((lg_cmp ((J 94 (Int.toNat (((I 86 9) - 1))))) ((6384748))).toInt)]) (hₚ := gc_h sh I179 J A) (C := (((True ∧ True) ∧ True) ∧ True)) rfl ⟨⟨⟨trivial, trivial⟩, trivial⟩, trivial⟩ ?_
  refine gv_if_eq (t := 40) hD rfl rfl ⟨by (/-176-/first | (have o1 := gz_sh f187; omega) | (simp only [gz_hd] at *; omega)), by (/-177-/first | (have o1 := gz_sh f187; omega) | (simp only [gz_hd] at *; omega))⟩ (fun c188 => ?_) (fun c188 => ?_)
  · show gv_X _ _ (40, [(3, .inr (.inl (J 94 (Int.toNat (((I 86 9) - 1)))))), (2, .inl ((I 86 9) - 1)), (0, .inr (.inr (some 86))), (1, .inl a1)], [], sh, gc_h sh I179 J A)
    refine gv_pick [2, 3, 1, 0] rfl ?_
    exact L40 I179 J (((I 86 9) - 1)) ((J 94 (Int.toNat (((I 86 9) - 1))))) hI179 FI179 FJ (by (/-178-/first | (and_intros; (omega); (omega); (omega); (have o1 := gz_sh f3; omega); (omega); (have o1 := gz_sh t183; omega); (omega); (have o1 := gz_sh t177; omega); (have o1 := gz_sh t177; omega)) | (simp only [gz_hd] at *; omega))) rfl (by have h9 := ((x0 (Int.toNat (((I 86 9) - 1))) (by (/-179-/first | omega | (simp only [gz_hd] at *; omega)))).1.resolve_left (fun h9 => absurd (h9.symm.trans (gc_cmp0 (x := J 94 (Int.toNat (((I 86 9) - 1)))) (y := 6384748) (by (/-180-/first | omega | (simp only [gz_hd] at *; omega))))) (by decide))); (/-181-/first | omega | (simp only [gz_hd] at *; omega)))
  · show gv_X _ _ (32, [(3, .inr (.inl (J 94 (Int.toNat (((I 86 9) - 1)))))), (2, .inl ((I 86 9) - 1)), (0, .inr (.inr (some 86))), (1, .inl a1)], [], sh, gc_h sh I179 J A)
    have f189 := gz_hi (gw_cmp ((J 94 (Int.toNat (((I 86 9) - 1))))) ((1936682341)))
    refine gv_run 3 true hD (pcₚ := 37) (lvₚ := [(3, .inr (.inl (J 94 (Int.toNat (((I 86 9) - 1)))))), (2, .inl ((I 86 9) - 1)), (0, .inr (.inr (some 86))), (1, .inl a1)]) (stₚ := [.inl ((lg_cmp ((J 94 (Int.toNat (((I 86 9) - 1))))) ((1936682341))).toInt)]) (hₚ := gc_h sh I179 J A) (C := (((True ∧ True) ∧ True) ∧ True)) rfl ⟨⟨⟨trivial, trivial⟩, trivial⟩, trivial⟩ ?_
    refine gv_if_ne (t := 148) hD rfl rfl ⟨by (/-182-/first | (have o1 := gz_sh f189; omega) | (simp only [gz_hd] at *; omega)), by (/-183-/first | (have o1 := gz_sh f189; omega) | (simp only [gz_hd] at *; omega))⟩ (fun c190 => ?_) (fun c190 => ?_)
    · show gv_X _ _ (148, [(3, .inr (.inl (J 94 (Int.toNat (((I 86 9) - 1)))))), (2, .inl ((I 86 9) - 1)), (0, .inr (.inr (some 86))), (1, .inl a1)], [], sh, gc_h sh I179 J A)
      have f191 := gz_hi (gw_cmp ((J 94 (Int.toNat (((I 86 9) - 1))))) ((7237492)))
      refine gv_run 3 true hD (pcₚ := 153) (lvₚ := [(3, .inr (.inl (J 94 (Int.toNat (((I 86 9) - 1)))))), (2, .inl ((I 86 9) - 1)), (0, .inr (.inr (some 86))), (1, .inl a1)]) (stₚ := [.inl ((lg_cmp ((J 94 (Int.toNat (((I 86 9) - 1))))) ((7237492))).toInt)]) (hₚ := gc_h sh I179 J A) (C := (((True ∧ True) ∧ True) ∧ True)) rfl ⟨⟨⟨trivial, trivial⟩, trivial⟩, trivial⟩ ?_
      refine gv_if_eq (t := 195) hD rfl rfl ⟨by (/-184-/first | (have o1 := gz_sh f191; omega) | (simp only [gz_hd] at *; omega)), by (/-185-/first | (have o1 := gz_sh f191; omega) | (simp only [gz_hd] at *; omega))⟩ (fun c192 => ?_) (fun c192 => ?_)
      · show gv_X _ _ (195, [(3, .inr (.inl (J 94 (Int.toNat (((I 86 9) - 1)))))), (2, .inl ((I 86 9) - 1)), (0, .inr (.inr (some 86))), (1, .inl a1)], [], sh, gc_h sh I179 J A)
        refine gv_pick [2, 3, 1, 0] rfl ?_
        exact L195 I179 J (((I 86 9) - 1)) ((J 94 (Int.toNat (((I 86 9) - 1))))) hI179 FI179 FJ (by (/-186-/first | (and_intros; (omega); (omega); (omega); (have o1 := gz_sh f3; omega); (omega); (have o1 := gz_sh t183; omega); (omega); (have o1 := gz_sh t177; omega); (have o1 := gz_sh t177; omega)) | (simp only [gz_hd] at *; omega))) rfl
      · show gv_X _ _ (156, [(3, .inr (.inl (J 94 (Int.toNat (((I 86 9) - 1)))))), (2, .inl ((I 86 9) - 1)), (0, .inr (.inr (some 86))), (1, .inl a1)], [], sh, gc_h sh I179 J A)
        refine gv_run 1 true hD (pcₚ := 157) (lvₚ := [(3, .inr (.inl (J 94 (Int.toNat (((I 86 9) - 1)))))), (2, .inl ((I 86 9) - 1)), (0, .inr (.inr (some 86))), (1, .inl a1)]) (stₚ := [.inr (.inr (some 86))]) (hₚ := gc_h sh I179 J A) (C := (True ∧ True)) rfl ⟨trivial, trivial⟩ ?_
        refine gv_get hD rfl rfl S_86 ⟨by decide, (gz_sh B_86)⟩ (gc_hA S_86 rfl A_86_12) ?_
        show gv_X _ _ (160, [(3, .inr (.inl (J 94 (Int.toNat (((I 86 9) - 1)))))), (2, .inl ((I 86 9) - 1)), (0, .inr (.inr (some 86))), (1, .inl a1)], [.inr (.inr (some 96))], sh, gc_h sh I179 J A)
        refine gv_run 1 true hD (pcₚ := 161) (lvₚ := [(3, .inr (.inl (J 94 (Int.toNat (((I 86 9) - 1)))))), (2, .inl ((I 86 9) - 1)), (0, .inr (.inr (some 86))), (1, .inl a1)]) (stₚ := [.inl ((I 86 9) - 1), .inr (.inr (some 96))]) (hₚ := gc_h sh I179 J A) (C := (True ∧ True)) rfl ⟨trivial, trivial⟩ ?_
        refine gv_iald hD rfl S_96 rfl ⟨by decide, (gz_sh B_96)⟩ ⟨by (/-187-/first | omega | (simp only [gz_hd] at *; omega)), by (/-188-/first | (have o1 := gz_sh f3; omega) | (simp only [gz_hd] at *; omega))⟩ (gc_iI S_96 rfl) ?_
        show gv_X _ _ (162, [(3, .inr (.inl (J 94 (Int.toNat (((I 86 9) - 1)))))), (2, .inl ((I 86 9) - 1)), (0, .inr (.inr (some 86))), (1, .inl a1)], [.inl (I179 96 (Int.toNat (((I 86 9) - 1))))], sh, gc_h sh I179 J A)
        refine gv_run 1 true hD (pcₚ := 163) (lvₚ := [(3, .inr (.inl (J 94 (Int.toNat (((I 86 9) - 1)))))), (2, .inl ((I 86 9) - 1)), (0, .inr (.inr (some 86))), (1, .inl a1)]) (stₚ := [.inl 1, .inl (I179 96 (Int.toNat (((I 86 9) - 1))))]) (hₚ := gc_h sh I179 J A) (C := (True ∧ True)) rfl ⟨trivial, trivial⟩ ?_
        refine gv_icmp_ne (t := 195) hD rfl rfl ⟨⟨by (/-189-/first | (have o1 := gz_sh f178; omega) | (simp only [gz_hd] at *; omega)), by (/-190-/first | (have o1 := gz_sh t177; omega) | (simp only [gz_hd] at *; omega))⟩, ⟨by (/-191-/first | omega | (simp only [gz_hd] at *; omega)), by (/-192-/first | omega | (simp only [gz_hd] at *; omega))⟩⟩ (fun c194 => ?_) (fun c194 => ?_)
        · show gv_X _ _ (195, [(3, .inr (.inl (J 94 (Int.toNat (((I 86 9) - 1)))))), (2, .inl ((I 86 9) - 1)), (0, .inr (.inr (some 86))), (1, .inl a1)], [], sh, gc_h sh I179 J A)
          refine gv_pick [2, 3, 1, 0] rfl ?_
          exact L195 I179 J (((I 86 9) - 1)) ((J 94 (Int.toNat (((I 86 9) - 1))))) hI179 FI179 FJ (by (/-193-/first | (and_intros; (omega); (omega); (omega); (have o1 := gz_sh f3; omega); (omega); (have o1 := gz_sh t183; omega); (omega); (have o1 := gz_sh t177; omega); (have o1 := gz_sh t177; omega)) | (simp only [gz_hd] at *; omega))) rfl
        · show gv_X _ _ (166, [(3, .inr (.inl (J 94 (Int.toNat (((I 86 9) - 1)))))), (2, .inl ((I 86 9) - 1)), (0, .inr (.inr (some 86))), (1, .inl a1)], [], sh, gc_h sh I179 J A)
          have t195 := gz_hi (((x0 (Int.toNat (((I 86 9) - 1))) (by (/-194-/first | omega | (simp only [gz_hd] at *; omega)))).1.resolve_left (gc_cmpn (y := 7237492) (by (/-195-/first | omega | (simp only [gz_hd] at *; omega))))))
          refine gv_run 1 true hD (pcₚ := 167) (lvₚ := [(3, .inr (.inl (J 94 (Int.toNat (((I 86 9) - 1)))))), (2, .inl ((I 86 9) - 1)), (0, .inr (.inr (some 86))), (1, .inl a1)]) (stₚ := [.inr (.inr (some 86))]) (hₚ := gc_h sh I179 J A) (C := (True ∧ True)) rfl ⟨trivial, trivial⟩ ?_
          refine gv_get hD rfl rfl S_86 ⟨by decide, (gz_sh B_86)⟩ (gc_hA S_86 rfl A_86_13) ?_
          show gv_X _ _ (170, [(3, .inr (.inl (J 94 (Int.toNat (((I 86 9) - 1)))))), (2, .inl ((I 86 9) - 1)), (0, .inr (.inr (some 86))), (1, .inl a1)], [.inr (.inr (some 97))], sh, gc_h sh I179 J A)
          refine gv_run 2 true hD (pcₚ := 172) (lvₚ := [(3, .inr (.inl (J 94 (Int.toNat (((I 86 9) - 1)))))), (2, .inl ((I 86 9) - 1)), (0, .inr (.inr (some 86))), (1, .inl a1)]) (stₚ := [.inl a1, .inl ((I 86 9) - 1), .inr (.inr (some 97))]) (hₚ := gc_h sh I179 J A) (C := ((True ∧ True) ∧ True)) rfl ⟨⟨trivial, trivial⟩, trivial⟩ ?_
          refine gv_iast hD rfl S_97 ⟨by decide, (gz_sh B_97)⟩ ⟨by (/-196-/first | omega | (simp only [gz_hd] at *; omega)), by (/-197-/first | (have o1 := gz_sh f3; omega) | (simp only [gz_hd] at *; omega))⟩ ?_
          refine gc_st hI179 S_97 rfl (gz_sh R_97) (lo := 0) (hi := 1) rfl rfl (by (/-198-/first | omega | (simp only [gz_hd] at *; omega))) (by (/-199-/first | omega | (simp only [gz_hd] at *; omega))) (fun I196 hI196 q197 p197 => ?_)
          have FI196 := gc_frs (W := fun q j => (q = 96 ∧ j = (Int.toNat (((I 86 9) - 1)))) ∨ q = 97 ∨ q = 99 ∨ (q = 86 ∧ j = 9) ∨ (q = 86 ∧ j = 16) ∨ (q = 86 ∧ j = 17)) FI179 (Or.inr (Or.inl rfl)) p197
          have t200 := gz_hi (p197 86 9 (fun h => absurd h.1 (by first | exact gz_ne rfl | decide)))
          have t204 := gz_hi (p197 96 (Int.toNat (((I 86 9) - 1))) (fun h => absurd h.1 (by first | exact gz_ne rfl | decide)))
          show gv_X _ _ (173, [(3, .inr (.inl (J 94 (Int.toNat (((I 86 9) - 1)))))), (2, .inl ((I 86 9) - 1)), (0, .inr (.inr (some 86))), (1, .inl a1)], [], sh, gc_h sh I196 J A)
          refine gv_run 2 true hD (pcₚ := 175) (lvₚ := [(3, .inr (.inl (J 94 (Int.toNat (((I 86 9) - 1)))))), (2, .inl ((I 86 9) - 1)), (0, .inr (.inr (some 86))), (1, .inl a1)]) (stₚ := [.inr (.inr (some 86)), .inr (.inr (some 86))]) (hₚ := gc_h sh I196 J A) (C := ((True ∧ True) ∧ True)) rfl ⟨⟨trivial, trivial⟩, trivial⟩ ?_
          refine gv_get hD rfl rfl S_86 ⟨by decide, (gz_sh B_86)⟩ (gc_hA S_86 rfl A_86_14) ?_
          show gv_X _ _ (178, [(3, .inr (.inl (J 94 (Int.toNat (((I 86 9) - 1)))))), (2, .inl ((I 86 9) - 1)), (0, .inr (.inr (some 86))), (1, .inl a1)], [.inr (.inr (some 98)), .inr (.inr (some 86))], sh, gc_h sh I196 J A)
          refine gv_run 1 true hD (pcₚ := 179) (lvₚ := [(3, .inr (.inl (J 94 (Int.toNat (((I 86 9) - 1)))))), (2, .inl ((I 86 9) - 1)), (0, .inr (.inr (some 86))), (1, .inl a1)]) (stₚ := [.inl ((I 86 9) - 1), .inr (.inr (some 98)), .inr (.inr (some 86))]) (hₚ := gc_h sh I196 J A) (C := (True ∧ True)) rfl ⟨trivial, trivial⟩ ?_
          have t205 := gz_hi ((FI196 98 (Int.toNat (((I 86 9) - 1)))).resolve_left (by (/-200-/first | omega | (simp only [gz_hd] at *; omega))))
          have f206 := gz_hi ((gc_b_63 hI196 (gz_sh R_98) (Int.toNat (((I 86 9) - 1)))))
          refine gv_iald hD rfl S_98 rfl ⟨by decide, (gz_sh B_98)⟩ ⟨by (/-201-/first | omega | (simp only [gz_hd] at *; omega)), by (/-202-/first | (have o1 := gz_sh f3; omega) | (simp only [gz_hd] at *; omega))⟩ (gc_iI S_98 rfl) ?_
          show gv_X _ _ (180, [(3, .inr (.inl (J 94 (Int.toNat (((I 86 9) - 1)))))), (2, .inl ((I 86 9) - 1)), (0, .inr (.inr (some 86))), (1, .inl a1)], [.inl (I196 98 (Int.toNat (((I 86 9) - 1)))), .inr (.inr (some 86))], sh, gc_h sh I196 J A)
          refine gv_put hD rfl rfl S_86 ⟨by decide, (gz_sh B_86)⟩ rfl trivial ?_
          refine gc_st (k := 17) hI196 S_86 rfl (gz_sh R_86) (lo := 0) (hi := 300) rfl rfl (by (/-203-/first | (have o1 := gz_sh f206; omega) | (simp only [gz_hd] at *; omega))) (by (/-204-/first | (have o1 := gz_sh f206; omega) | (simp only [gz_hd] at *; omega))) (fun I207 hI207 q208 p208 => ?_)
          have FI207 := gc_frs (W := fun q j => (q = 96 ∧ j = (Int.toNat (((I 86 9) - 1)))) ∨ q = 97 ∨ q = 99 ∨ (q = 86 ∧ j = 9) ∨ (q = 86 ∧ j = 16) ∨ (q = 86 ∧ j = 17)) FI196 (Or.inr (Or.inr (Or.inr (Or.inr (Or.inr ⟨rfl, rfl⟩))))) p208
          have t211 := gz_hi (p208 86 9 (fun h => absurd h.2 (by first | exact gz_ne rfl | decide)))
          have t214 := gz_hi (p208 96 (Int.toNat (((I 86 9) - 1))) (fun h => absurd h.1 (by first | exact gz_ne rfl | decide)))
          show gv_X _ _ (183, [(3, .inr (.inl (J 94 (Int.toNat (((I 86 9) - 1)))))), (2, .inl ((I 86 9) - 1)), (0, .inr (.inr (some 86))), (1, .inl a1)], [], sh, gc_h sh I207 J A)
          refine gv_run 2 true hD (pcₚ := 185) (lvₚ := [(3, .inr (.inl (J 94 (Int.toNat (((I 86 9) - 1)))))), (2, .inl ((I 86 9) - 1)), (0, .inr (.inr (some 86))), (1, .inl a1)]) (stₚ := [.inr (.inr (some 86)), .inr (.inr (some 86))]) (hₚ := gc_h sh I207 J A) (C := ((True ∧ True) ∧ True)) rfl ⟨⟨trivial, trivial⟩, trivial⟩ ?_
          refine gv_get hD rfl rfl S_86 ⟨by decide, (gz_sh B_86)⟩ (gc_hA S_86 rfl A_86_11) ?_
          show gv_X _ _ (188, [(3, .inr (.inl (J 94 (Int.toNat (((I 86 9) - 1)))))), (2, .inl ((I 86 9) - 1)), (0, .inr (.inr (some 86))), (1, .inl a1)], [.inr (.inr (some 95)), .inr (.inr (some 86))], sh, gc_h sh I207 J A)
          refine gv_run 1 true hD (pcₚ := 189) (lvₚ := [(3, .inr (.inl (J 94 (Int.toNat (((I 86 9) - 1)))))), (2, .inl ((I 86 9) - 1)), (0, .inr (.inr (some 86))), (1, .inl a1)]) (stₚ := [.inl ((I 86 9) - 1), .inr (.inr (some 95)), .inr (.inr (some 86))]) (hₚ := gc_h sh I207 J A) (C := (True ∧ True)) rfl ⟨trivial, trivial⟩ ?_
          have t216 := gz_hi ((FI207 95 (Int.toNat (((I 86 9) - 1)))).resolve_left (by (/-205-/first | omega | (simp only [gz_hd] at *; omega))))
          have f217 := gz_hi ((gc_b_61 hI207 (gz_sh R_95) (Int.toNat (((I 86 9) - 1)))))
          refine gv_iald hD rfl S_95 rfl ⟨by decide, (gz_sh B_95)⟩ ⟨by (/-206-/first | omega | (simp only [gz_hd] at *; omega)), by (/-207-/first | (have o1 := gz_sh f3; omega) | (simp only [gz_hd] at *; omega))⟩ (gc_iI S_95 rfl) ?_
          show gv_X _ _ (190, [(3, .inr (.inl (J 94 (Int.toNat (((I 86 9) - 1)))))), (2, .inl ((I 86 9) - 1)), (0, .inr (.inr (some 86))), (1, .inl a1)], [.inl (I207 95 (Int.toNat (((I 86 9) - 1)))), .inr (.inr (some 86))], sh, gc_h sh I207 J A)
          refine gv_put hD rfl rfl S_86 ⟨by decide, (gz_sh B_86)⟩ rfl trivial ?_
          refine gc_st (k := 16) hI207 S_86 rfl (gz_sh R_86) (lo := (-1)) (hi := 301) rfl rfl (by (/-208-/first | (have o1 := gz_sh f217; omega) | (simp only [gz_hd] at *; omega))) (by (/-209-/first | (have o1 := gz_sh f217; omega) | (simp only [gz_hd] at *; omega))) (fun I218 hI218 q219 p219 => ?_)
          have FI218 := gc_frs (W := fun q j => (q = 96 ∧ j = (Int.toNat (((I 86 9) - 1)))) ∨ q = 97 ∨ q = 99 ∨ (q = 86 ∧ j = 9) ∨ (q = 86 ∧ j = 16) ∨ (q = 86 ∧ j = 17)) FI207 (Or.inr (Or.inr (Or.inr (Or.inr (Or.inl ⟨rfl, rfl⟩))))) p219
          have t222 := gz_hi (p219 86 9 (fun h => absurd h.2 (by first | exact gz_ne rfl | decide)))
          have t223 := gz_hi (p219 86 17 (fun h => absurd h.2 (by first | exact gz_ne rfl | decide)))
          have t225 := gz_hi (p219 96 (Int.toNat (((I 86 9) - 1))) (fun h => absurd h.1 (by first | exact gz_ne rfl | decide)))
          show gv_X _ _ (193, [(3, .inr (.inl (J 94 (Int.toNat (((I 86 9) - 1)))))), (2, .inl ((I 86 9) - 1)), (0, .inr (.inr (some 86))), (1, .inl a1)], [], sh, gc_h sh I218 J A)
          refine gv_run 1 true hD (pcₚ := 194) (lvₚ := [(3, .inr (.inl (J 94 (Int.toNat (((I 86 9) - 1)))))), (2, .inl ((I 86 9) - 1)), (0, .inr (.inr (some 86))), (1, .inl a1)]) (stₚ := [.inl (-1)]) (hₚ := gc_h sh I218 J A) (C := (True ∧ True)) rfl ⟨trivial, trivial⟩ ?_
          exact gv_iret hD rfl ⟨I218, J, rfl, hI218, FI218, FJ, ⟨_, rfl, by (/-210-/first | omega | (simp only [gz_hd] at *; omega)), by (/-211-/first | omega | (simp only [gz_hd] at *; omega)), (gc_OP_fr (m := Int.toNat (((I 86 9) - 1))) x0 (by (/-212-/first | (have o1 := gz_sh t183; have o2 := gz_sh t200; have o3 := gz_sh t211; have o4 := gz_sh t222; omega) | (simp only [gz_hd] at *; omega))) (fun k => (FI218 95 k).resolve_left (by (/-213-/first | omega | (simp only [gz_hd] at *; omega)))) (fun k => (FI218 98 k).resolve_left (by (/-214-/first | omega | (simp only [gz_hd] at *; omega)))) (fun k hk => (FI218 96 k).resolve_left (by (/-215-/first | omega | (simp only [gz_hd] at *; omega)))) (fun h => by (/-216-/first | (have o1 := gz_sh t204; have o2 := gz_sh t214; have o3 := gz_sh t225; omega) | (simp only [gz_hd] at *; omega)))), by (/-217-/first | (have o1 := gz_sh t177; have o2 := gz_sh t183; have o3 := gz_sh t195; have o4 := gz_sh t200; have o5 := gz_sh t205; have o6 := gz_sh t211; have o7 := gz_sh t216; have o8 := gz_sh t222; have o9 := gz_sh t223; omega) | (simp only [gz_hd] at *; omega)), by (/-218-/first | (have o1 := gz_sh t183; have o2 := gz_sh t200; have o3 := gz_sh t211; have o4 := gz_sh t222; omega) | (simp only [gz_hd] at *; omega))⟩⟩
    · show gv_X _ _ (40, [(3, .inr (.inl (J 94 (Int.toNat (((I 86 9) - 1)))))), (2, .inl ((I 86 9) - 1)), (0, .inr (.inr (some 86))), (1, .inl a1)], [], sh, gc_h sh I179 J A)
      refine gv_pick [2, 3, 1, 0] rfl ?_
      exact L40 I179 J (((I 86 9) - 1)) ((J 94 (Int.toNat (((I 86 9) - 1))))) hI179 FI179 FJ (by (/-219-/first | (and_intros; (omega); (omega); (omega); (have o1 := gz_sh f3; omega); (omega); (have o1 := gz_sh t183; omega); (omega); (have o1 := gz_sh t177; omega); (have o1 := gz_sh t177; omega)) | (simp only [gz_hd] at *; omega))) rfl (by have h9 := ((x0 (Int.toNat (((I 86 9) - 1))) (by (/-220-/first | omega | (simp only [gz_hd] at *; omega)))).1.resolve_left (fun h9 => absurd (h9.symm.trans (gc_cmp0 (x := J 94 (Int.toNat (((I 86 9) - 1)))) (y := 1936682341) (by (/-221-/first | omega | (simp only [gz_hd] at *; omega))))) (by decide))); (/-222-/first | omega | (simp only [gz_hd] at *; omega)))
