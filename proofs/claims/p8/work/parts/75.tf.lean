def gc_OP (J : gr_J) (I : gr_I) : Prop := ∀ k : Nat, (k : Int) < I 86 9 → (J 94 k = 7237492 ∨ (k : Int) + 1 ≤ I 95 k) ∧ I 96 k ≤ 7 ∧ I 98 k ≤ (k : Int) + 1
theorem gc_OP_fr {J : gr_J} {I I' : gr_I} {m : Nat} (h : gc_OP J I) (e9 : I' 86 9 ≤ I 86 9) (h5 : ∀ k, I' 95 k = I 95 k) (h8 : ∀ k, I' 98 k = I 98 k) (h6 : ∀ k, ¬ k = m → I' 96 k = I 96 k) (hz : (m : Int) < I' 86 9 → I' 96 m ≤ 7) : gc_OP J I' := fun k hk => by
  have h9 := h k (by omega)
  rw [h5, h8]
  refine ⟨h9.1, ?_, h9.2.2⟩
  by_cases e : k = m
  · rw [e]; exact hz (by omega)
  · rw [h6 k e]; exact h9.2.1
set_option maxHeartbeats 8000000 in
theorem gc_OP_push {J J' : gr_J} {I I' : gr_I} (h : gc_OP J I) (h0 : 0 ≤ I 86 9) (e9 : I' 86 9 = I 86 9 + 1) (hJ : ∀ k, ¬ k = Int.toNat (I 86 9) → J' 94 k = J 94 k) (h5 : ∀ k, ¬ k = Int.toNat (I 86 9) → I' 95 k = I 95 k) (h6 : ∀ k, ¬ k = Int.toNat (I 86 9) → I' 96 k = I 96 k) (h8 : ∀ k, ¬ k = Int.toNat (I 86 9) → I' 98 k = I 98 k) (z1 : J' 94 (Int.toNat (I 86 9)) = 7237492 ∨ I 86 9 + 1 ≤ I' 95 (Int.toNat (I 86 9))) (z2 : I' 96 (Int.toNat (I 86 9)) ≤ 7) (z3 : I' 98 (Int.toNat (I 86 9)) ≤ I 86 9 + 1) : gc_OP J' I' := fun k hk => by
  by_cases e : k = Int.toNat (I 86 9)
  · rw [e]
    refine ⟨z1.imp id (fun h9 => by exact gz_m 0 (by omega)), z2, by exact gz_m 1 (by omega)⟩
  · rw [hJ k e, h5 k e, h6 k e, h8 k e]
    exact h k (by exact gz_m 2 (by omega))
theorem gc_N_n2 {f : Nat → Int} {a v : Int} (h : 0 ≤ a + v) : gc_N f (Int.toNat (a + (v + 1))) = gc_N f (Int.toNat (a + v)) + gc_nw (f (Int.toNat (a + v))) := by
  rw [← Int.add_assoc]
  exact gc_N_nx h
set_option maxHeartbeats 8000000 in
set_option maxRecDepth 100000 in
theorem d_X10_openUp {ws0 : List Cond} {tb : String → gz_T} (hws : gc_Ws ws0) (htb : gc_tbs tb) (sh : gz_Sh) (ro : Nat → Nat) (I : gr_I) (J : gr_J) (A : gc_A) (hI : gc_Inv ro I) (a1 : Int64) (a2 : Int) (a3 : Int) (hb : gc_Base sh ro A) (ha2 : 0 ≤ a2 ∧ a2 ≤ 301) (ha3 : (-1) ≤ a3 ∧ a3 ≤ 300) (x0 : gc_OP J I) (x1 : a1 = 7237492 ∨ I 86 9 + 1 ≤ a3) (x2 : I 86 9 ≤ 299) (x3 : I 86 17 ≤ I 86 9 + 1) : ∃ r h', gz_Ev ws0 tb 1 (yX10_openUp, cX10_openUp, 5, (some .int)) [.inr (.inr (some 86)), .inr (.inl a1), .inl a2, .inl a3] sh (gc_h sh I J A) r sh h' 0 0 ∧ (∃ (I' : gr_I) (J' : gr_J), h' = gc_h sh I' J' A ∧ gc_Inv ro I' ∧ (∀ q j : Nat, (q = 95 ∨ q = 96 ∨ q = 98 ∨ (q = 86 ∧ j = 9) ∨ (q = 86 ∧ j = 16)) ∨ I' q j = I q j) ∧ (∀ q j : Nat, (q = 94) ∨ J' q j = J q j) ∧ (∃ z : Int, r = some (.inl z) ∧ (-1) ≤ z ∧ z ≤ (-1) ∧ (gc_OP J' I') ∧ (I' 86 9 = I 86 9 + 1) ∧ (I' 86 16 = a2))) := by
  have FI : ∀ q j : Nat, (q = 95 ∨ q = 96 ∨ q = 98 ∨ (q = 86 ∧ j = 9) ∨ (q = 86 ∧ j = 16)) ∨ I q j = I q j := fun _ _ => Or.inr rfl
  have FJ : ∀ q j : Nat, (q = 94) ∨ J q j = J q j := fun _ _ => Or.inr rfl
  have A_86_10 : A 86 10 = some 94 := gc_bA hb rfl
  have A_86_11 : A 86 11 = some 95 := gc_bA hb rfl
  have A_86_12 : A 86 12 = some 96 := gc_bA hb rfl
  have A_86_14 : A 86 14 = some 98 := gc_bA hb rfl
  have B_86 : 86 < 1000000 := by decide
  have B_94 : 94 < 1000000 := by decide
  have B_95 : 95 < 1000000 := by decide
  have B_96 : 96 < 1000000 := by decide
  have B_98 : 98 < 1000000 := by decide
  have R_86 : ro 86 = 74 := gc_bR hb (by decide) rfl
  have R_95 : ro 95 = 61 := gc_bR hb (by decide) rfl
  have R_96 : ro 96 = 62 := gc_bR hb (by decide) rfl
  have R_98 : ro 98 = 63 := gc_bR hb (by decide) rfl
  have S_86 : sh[86]? = some (false, 10, 19) := gc_bS hb rfl
  have S_94 : sh[94]? = some (true, 2, 300) := gc_bS hb rfl
  have S_95 : sh[95]? = some (true, 1, 300) := gc_bS hb rfl
  have S_96 : sh[96]? = some (true, 1, 300) := gc_bS hb rfl
  have S_98 : sh[98]? = some (true, 1, 300) := gc_bS hb rfl
  have hD : gv_D (gc_E10 ws0 tb 0 (yX10_openUp, cX10_openUp, 5, (some .int)) kX10_openUp) := gq_of oX10_openUp
  refine gc_ev10 (d := 0) (l := kX10_openUp) (Po := fun r h' => (∃ (I' : gr_I) (J' : gr_J), h' = gc_h sh I' J' A ∧ gc_Inv ro I' ∧ (∀ q j : Nat, (q = 95 ∨ q = 96 ∨ q = 98 ∨ (q = 86 ∧ j = 9) ∨ (q = 86 ∧ j = 16)) ∨ I' q j = I q j) ∧ (∀ q j : Nat, (q = 94) ∨ J' q j = J q j) ∧ (∃ z : Int, r = some (.inl z) ∧ (-1) ≤ z ∧ z ≤ (-1) ∧ (gc_OP J' I') ∧ (I' 86 9 = I 86 9 + 1) ∧ (I' 86 16 = a2)))) htb rfl (Nat.le_of_ble_eq_true rfl) ?_
  have f1 := (show 0 ≤ I 86 1 ∧ I 86 1 ≤ 300 from gc_in hI R_86 rfl rfl)
  have f2 := (show 0 ≤ I 86 2 ∧ I 86 2 ≤ 1 from gc_in hI R_86 rfl rfl)
  have f3 := (show 0 ≤ I 86 9 ∧ I 86 9 ≤ 300 from gc_in hI R_86 rfl rfl)
  have f4 := (show (-1) ≤ I 86 16 ∧ I 86 16 ≤ 301 from gc_in hI R_86 rfl rfl)
  have f5 := (show 0 ≤ I 86 17 ∧ I 86 17 ≤ 300 from gc_in hI R_86 rfl rfl)
  refine gv_run 1 true hD (pc' := 1) (lv' := [(0, .inr (.inr (some 86))), (1, .inr (.inl a1)), (3, .inl a2), (4, .inl a3)]) (st' := [.inr (.inr (some 86))]) (h' := gc_h sh I J A) (C := (True ∧ True)) rfl ⟨trivial, trivial⟩ ?_
  refine gv_get hD rfl rfl S_86 ⟨by decide, B_86⟩ (gc_hA S_86 rfl A_86_10) ?_
  show gv_X _ _ (4, [(0, .inr (.inr (some 86))), (1, .inr (.inl a1)), (3, .inl a2), (4, .inl a3)], [.inr (.inr (some 94))], sh, gc_h sh I J A)
  refine gv_run 1 true hD (pc' := 5) (lv' := [(0, .inr (.inr (some 86))), (1, .inr (.inl a1)), (3, .inl a2), (4, .inl a3)]) (st' := [.inr (.inr (some 86)), .inr (.inr (some 94))]) (h' := gc_h sh I J A) (C := (True ∧ True)) rfl ⟨trivial, trivial⟩ ?_
  have f6 := (show 0 ≤ I 86 9 ∧ I 86 9 ≤ 300 from gc_in hI R_86 rfl rfl)
  refine gv_get hD rfl rfl S_86 ⟨by decide, B_86⟩ (gc_hI S_86 rfl) ?_
  show gv_X _ _ (8, [(0, .inr (.inr (some 86))), (1, .inr (.inl a1)), (3, .inl a2), (4, .inl a3)], [.inl (I 86 9), .inr (.inr (some 94))], sh, gc_h sh I J A)
  refine gv_run 1 true hD (pc' := 9) (lv' := [(0, .inr (.inr (some 86))), (1, .inr (.inl a1)), (3, .inl a2), (4, .inl a3)]) (st' := [.inr (.inl a1), .inl (I 86 9), .inr (.inr (some 94))]) (h' := gc_h sh I J A) (C := (True ∧ True)) rfl ⟨trivial, trivial⟩ ?_
  refine gv_last hD rfl S_94 ⟨by decide, B_94⟩ ⟨by exact gz_m 0 (by omega), by exact gz_m 1 (by omega)⟩ ?_
  refine gc_stJ S_94 rfl (fun J7 q8 p8 => ?_)
  have FJ7 := gc_frs (W := fun q j => q = 94) FJ rfl p8
  show gv_X _ _ (10, [(0, .inr (.inr (some 86))), (1, .inr (.inl a1)), (3, .inl a2), (4, .inl a3)], [], sh, gc_h sh I J7 A)
  refine gv_run 1 true hD (pc' := 11) (lv' := [(0, .inr (.inr (some 86))), (1, .inr (.inl a1)), (3, .inl a2), (4, .inl a3)]) (st' := [.inr (.inr (some 86))]) (h' := gc_h sh I J7 A) (C := (True ∧ True)) rfl ⟨trivial, trivial⟩ ?_
  refine gv_get hD rfl rfl S_86 ⟨by decide, B_86⟩ (gc_hA S_86 rfl A_86_11) ?_
  show gv_X _ _ (14, [(0, .inr (.inr (some 86))), (1, .inr (.inl a1)), (3, .inl a2), (4, .inl a3)], [.inr (.inr (some 95))], sh, gc_h sh I J7 A)
  refine gv_run 1 true hD (pc' := 15) (lv' := [(0, .inr (.inr (some 86))), (1, .inr (.inl a1)), (3, .inl a2), (4, .inl a3)]) (st' := [.inr (.inr (some 86)), .inr (.inr (some 95))]) (h' := gc_h sh I J7 A) (C := (True ∧ True)) rfl ⟨trivial, trivial⟩ ?_
  have f9 := (show 0 ≤ I 86 9 ∧ I 86 9 ≤ 300 from gc_in hI R_86 rfl rfl)
  refine gv_get hD rfl rfl S_86 ⟨by decide, B_86⟩ (gc_hI S_86 rfl) ?_
  show gv_X _ _ (18, [(0, .inr (.inr (some 86))), (1, .inr (.inl a1)), (3, .inl a2), (4, .inl a3)], [.inl (I 86 9), .inr (.inr (some 95))], sh, gc_h sh I J7 A)
  refine gv_run 1 true hD (pc' := 20) (lv' := [(0, .inr (.inr (some 86))), (1, .inr (.inl a1)), (3, .inl a2), (4, .inl a3)]) (st' := [.inl a3, .inl (I 86 9), .inr (.inr (some 95))]) (h' := gc_h sh I J7 A) (C := (True ∧ True)) rfl ⟨trivial, trivial⟩ ?_
  refine gv_iast hD rfl S_95 ⟨by decide, B_95⟩ ⟨by exact gz_m 2 (by omega), by exact gz_m 3 (by omega)⟩ ?_
  refine gc_st hI S_95 rfl R_95 (lo := (-1)) (hi := 300) rfl rfl (by exact gz_m 4 (by omega)) (by exact gz_m 5 (by omega)) (fun I10 hI10 q11 p11 => ?_)
  have FI10 := gc_frs (W := fun q j => q = 95 ∨ q = 96 ∨ q = 98 ∨ (q = 86 ∧ j = 9) ∨ (q = 86 ∧ j = 16)) FI (Or.inl rfl) p11
  have t12 := p11 86 1 (fun h => absurd h.1 (by decide))
  have t13 := p11 86 2 (fun h => absurd h.1 (by decide))
  have t14 := p11 86 9 (fun h => absurd h.1 (by decide))
  have t15 := p11 86 16 (fun h => absurd h.1 (by decide))
  have t16 := p11 86 17 (fun h => absurd h.1 (by decide))
  show gv_X _ _ (21, [(0, .inr (.inr (some 86))), (1, .inr (.inl a1)), (3, .inl a2), (4, .inl a3)], [], sh, gc_h sh I10 J7 A)
  refine gv_run 1 true hD (pc' := 22) (lv' := [(0, .inr (.inr (some 86))), (1, .inr (.inl a1)), (3, .inl a2), (4, .inl a3)]) (st' := [.inr (.inr (some 86))]) (h' := gc_h sh I10 J7 A) (C := (True ∧ True)) rfl ⟨trivial, trivial⟩ ?_
  refine gv_get hD rfl rfl S_86 ⟨by decide, B_86⟩ (gc_hA S_86 rfl A_86_12) ?_
  show gv_X _ _ (25, [(0, .inr (.inr (some 86))), (1, .inr (.inl a1)), (3, .inl a2), (4, .inl a3)], [.inr (.inr (some 96))], sh, gc_h sh I10 J7 A)
  refine gv_run 1 true hD (pc' := 26) (lv' := [(0, .inr (.inr (some 86))), (1, .inr (.inl a1)), (3, .inl a2), (4, .inl a3)]) (st' := [.inr (.inr (some 86)), .inr (.inr (some 96))]) (h' := gc_h sh I10 J7 A) (C := (True ∧ True)) rfl ⟨trivial, trivial⟩ ?_
  have f17 := (show 0 ≤ I10 86 9 ∧ I10 86 9 ≤ 300 from gc_in hI10 R_86 rfl rfl)
  refine gv_get hD rfl rfl S_86 ⟨by decide, B_86⟩ (gc_hI S_86 rfl) ?_
  show gv_X _ _ (29, [(0, .inr (.inr (some 86))), (1, .inr (.inl a1)), (3, .inl a2), (4, .inl a3)], [.inl (I10 86 9), .inr (.inr (some 96))], sh, gc_h sh I10 J7 A)
  refine gv_run 1 true hD (pc' := 30) (lv' := [(0, .inr (.inr (some 86))), (1, .inr (.inl a1)), (3, .inl a2), (4, .inl a3)]) (st' := [.inl 0, .inl (I10 86 9), .inr (.inr (some 96))]) (h' := gc_h sh I10 J7 A) (C := (True ∧ True)) rfl ⟨trivial, trivial⟩ ?_
  refine gv_iast hD rfl S_96 ⟨by decide, B_96⟩ ⟨by exact gz_m 6 (by omega), by exact gz_m 7 (by omega)⟩ ?_
  refine gc_st hI10 S_96 rfl R_96 (lo := 0) (hi := 9) rfl rfl (by exact gz_m 8 (by omega)) (by exact gz_m 9 (by omega)) (fun I18 hI18 q19 p19 => ?_)
  have FI18 := gc_frs (W := fun q j => q = 95 ∨ q = 96 ∨ q = 98 ∨ (q = 86 ∧ j = 9) ∨ (q = 86 ∧ j = 16)) FI10 (Or.inr (Or.inl rfl)) p19
  have t20 := p19 86 1 (fun h => absurd h.1 (by decide))
  have t21 := p19 86 2 (fun h => absurd h.1 (by decide))
  have t22 := p19 86 9 (fun h => absurd h.1 (by decide))
  have t23 := p19 86 16 (fun h => absurd h.1 (by decide))
  have t24 := p19 86 17 (fun h => absurd h.1 (by decide))
  show gv_X _ _ (31, [(0, .inr (.inr (some 86))), (1, .inr (.inl a1)), (3, .inl a2), (4, .inl a3)], [], sh, gc_h sh I18 J7 A)
  refine gv_run 1 true hD (pc' := 32) (lv' := [(0, .inr (.inr (some 86))), (1, .inr (.inl a1)), (3, .inl a2), (4, .inl a3)]) (st' := [.inr (.inr (some 86))]) (h' := gc_h sh I18 J7 A) (C := (True ∧ True)) rfl ⟨trivial, trivial⟩ ?_
  refine gv_get hD rfl rfl S_86 ⟨by decide, B_86⟩ (gc_hA S_86 rfl A_86_14) ?_
  show gv_X _ _ (35, [(0, .inr (.inr (some 86))), (1, .inr (.inl a1)), (3, .inl a2), (4, .inl a3)], [.inr (.inr (some 98))], sh, gc_h sh I18 J7 A)
  refine gv_run 1 true hD (pc' := 36) (lv' := [(0, .inr (.inr (some 86))), (1, .inr (.inl a1)), (3, .inl a2), (4, .inl a3)]) (st' := [.inr (.inr (some 86)), .inr (.inr (some 98))]) (h' := gc_h sh I18 J7 A) (C := (True ∧ True)) rfl ⟨trivial, trivial⟩ ?_
  have f25 := (show 0 ≤ I18 86 9 ∧ I18 86 9 ≤ 300 from gc_in hI18 R_86 rfl rfl)
  refine gv_get hD rfl rfl S_86 ⟨by decide, B_86⟩ (gc_hI S_86 rfl) ?_
  show gv_X _ _ (39, [(0, .inr (.inr (some 86))), (1, .inr (.inl a1)), (3, .inl a2), (4, .inl a3)], [.inl (I18 86 9), .inr (.inr (some 98))], sh, gc_h sh I18 J7 A)
  refine gv_run 1 true hD (pc' := 40) (lv' := [(0, .inr (.inr (some 86))), (1, .inr (.inl a1)), (3, .inl a2), (4, .inl a3)]) (st' := [.inr (.inr (some 86)), .inl (I18 86 9), .inr (.inr (some 98))]) (h' := gc_h sh I18 J7 A) (C := (True ∧ True)) rfl ⟨trivial, trivial⟩ ?_
  have f26 := (show 0 ≤ I18 86 17 ∧ I18 86 17 ≤ 300 from gc_in hI18 R_86 rfl rfl)
  refine gv_get hD rfl rfl S_86 ⟨by decide, B_86⟩ (gc_hI S_86 rfl) ?_
  show gv_X _ _ (43, [(0, .inr (.inr (some 86))), (1, .inr (.inl a1)), (3, .inl a2), (4, .inl a3)], [.inl (I18 86 17), .inl (I18 86 9), .inr (.inr (some 98))], sh, gc_h sh I18 J7 A)
  refine gv_iast hD rfl S_98 ⟨by decide, B_98⟩ ⟨by exact gz_m 10 (by omega), by exact gz_m 11 (by omega)⟩ ?_
  refine gc_st hI18 S_98 rfl R_98 (lo := 0) (hi := 300) rfl rfl (by exact gz_m 12 (by omega)) (by exact gz_m 13 (by omega)) (fun I27 hI27 q28 p28 => ?_)
  have FI27 := gc_frs (W := fun q j => q = 95 ∨ q = 96 ∨ q = 98 ∨ (q = 86 ∧ j = 9) ∨ (q = 86 ∧ j = 16)) FI18 (Or.inr (Or.inr (Or.inl rfl))) p28
  have t29 := p28 86 1 (fun h => absurd h.1 (by decide))
  have t30 := p28 86 2 (fun h => absurd h.1 (by decide))
  have t31 := p28 86 9 (fun h => absurd h.1 (by decide))
  have t32 := p28 86 16 (fun h => absurd h.1 (by decide))
  have t33 := p28 86 17 (fun h => absurd h.1 (by decide))
  show gv_X _ _ (44, [(0, .inr (.inr (some 86))), (1, .inr (.inl a1)), (3, .inl a2), (4, .inl a3)], [], sh, gc_h sh I27 J7 A)
  refine gv_run 2 true hD (pc' := 46) (lv' := [(0, .inr (.inr (some 86))), (1, .inr (.inl a1)), (3, .inl a2), (4, .inl a3)]) (st' := [.inr (.inr (some 86)), .inr (.inr (some 86))]) (h' := gc_h sh I27 J7 A) (C := ((True ∧ True) ∧ True)) rfl ⟨⟨trivial, trivial⟩, trivial⟩ ?_
  have f34 := (show 0 ≤ I27 86 9 ∧ I27 86 9 ≤ 300 from gc_in hI27 R_86 rfl rfl)
  refine gv_get hD rfl rfl S_86 ⟨by decide, B_86⟩ (gc_hI S_86 rfl) ?_
  show gv_X _ _ (49, [(0, .inr (.inr (some 86))), (1, .inr (.inl a1)), (3, .inl a2), (4, .inl a3)], [.inl (I27 86 9), .inr (.inr (some 86))], sh, gc_h sh I27 J7 A)
  refine gv_run 2 true hD (pc' := 51) (lv' := [(0, .inr (.inr (some 86))), (1, .inr (.inl a1)), (3, .inl a2), (4, .inl a3)]) (st' := [.inl ((I27 86 9) + 1), .inr (.inr (some 86))]) (h' := gc_h sh I27 J7 A) (C := ((True ∧ True) ∧ True)) rfl ⟨⟨trivial, trivial⟩, trivial⟩ ?_
  refine gv_put hD rfl rfl S_86 ⟨by decide, B_86⟩ rfl trivial ?_
  refine gc_st (k := 9) hI27 S_86 rfl R_86 (lo := 0) (hi := 300) rfl rfl (by exact gz_m 14 (by omega)) (by exact gz_m 15 (by omega)) (fun I35 hI35 q36 p36 => ?_)
  have FI35 := gc_frs (W := fun q j => q = 95 ∨ q = 96 ∨ q = 98 ∨ (q = 86 ∧ j = 9) ∨ (q = 86 ∧ j = 16)) FI27 (Or.inr (Or.inr (Or.inr (Or.inl ⟨rfl, rfl⟩)))) p36
  have t37 := p36 86 1 (fun h => absurd h.2 (by decide))
  have t38 := p36 86 2 (fun h => absurd h.2 (by decide))
  have t39 := p36 86 16 (fun h => absurd h.2 (by decide))
  have t40 := p36 86 17 (fun h => absurd h.2 (by decide))
  have f41 := (show 0 ≤ I35 86 9 ∧ I35 86 9 ≤ 300 from gc_in hI35 R_86 rfl rfl)
  show gv_X _ _ (54, [(0, .inr (.inr (some 86))), (1, .inr (.inl a1)), (3, .inl a2), (4, .inl a3)], [], sh, gc_h sh I35 J7 A)
  refine gv_run 2 true hD (pc' := 56) (lv' := [(0, .inr (.inr (some 86))), (1, .inr (.inl a1)), (3, .inl a2), (4, .inl a3)]) (st' := [.inl a2, .inr (.inr (some 86))]) (h' := gc_h sh I35 J7 A) (C := ((True ∧ True) ∧ True)) rfl ⟨⟨trivial, trivial⟩, trivial⟩ ?_
  refine gv_put hD rfl rfl S_86 ⟨by decide, B_86⟩ rfl trivial ?_
  refine gc_st (k := 16) hI35 S_86 rfl R_86 (lo := (-1)) (hi := 301) rfl rfl (by exact gz_m 16 (by omega)) (by exact gz_m 17 (by omega)) (fun I42 hI42 q43 p43 => ?_)
  have FI42 := gc_frs (W := fun q j => q = 95 ∨ q = 96 ∨ q = 98 ∨ (q = 86 ∧ j = 9) ∨ (q = 86 ∧ j = 16)) FI35 (Or.inr (Or.inr (Or.inr (Or.inr ⟨rfl, rfl⟩)))) p43
  have t44 := p43 86 1 (fun h => absurd h.2 (by decide))
  have t45 := p43 86 2 (fun h => absurd h.2 (by decide))
  have t46 := p43 86 9 (fun h => absurd h.2 (by decide))
  have t47 := p43 86 17 (fun h => absurd h.2 (by decide))
  have f48 := (show (-1) ≤ I42 86 16 ∧ I42 86 16 ≤ 301 from gc_in hI42 R_86 rfl rfl)
  show gv_X _ _ (59, [(0, .inr (.inr (some 86))), (1, .inr (.inl a1)), (3, .inl a2), (4, .inl a3)], [], sh, gc_h sh I42 J7 A)
  refine gv_run 1 true hD (pc' := 60) (lv' := [(0, .inr (.inr (some 86))), (1, .inr (.inl a1)), (3, .inl a2), (4, .inl a3)]) (st' := [.inl (-1)]) (h' := gc_h sh I42 J7 A) (C := (True ∧ True)) rfl ⟨trivial, trivial⟩ ?_
  exact gv_iret hD rfl ⟨I42, J7, rfl, hI42, FI42, FJ7, ⟨_, rfl, by exact gz_m 18 (by omega), by exact gz_m 19 (by omega), (gc_OP_push x0 (by exact gz_m 20 (by omega)) (by exact gz_m 21 (by omega)) (fun k hk => p8 94 k (fun h => hk h.2)) (fun k hk => (((((p43 95 k (fun h => absurd h.1 (by exact gz_m 22 (by omega)))).trans (p36 95 k (fun h => absurd h.1 (by exact gz_m 23 (by omega))))).trans (p28 95 k (fun h => absurd h.1 (by exact gz_m 24 (by omega))))).trans (p19 95 k (fun h => absurd h.1 (by exact gz_m 25 (by omega))))).trans (p11 95 k (fun h => by have := h.2; exact gz_m 26 (by omega))))) (fun k hk => (((((p43 96 k (fun h => absurd h.1 (by exact gz_m 27 (by omega)))).trans (p36 96 k (fun h => absurd h.1 (by exact gz_m 28 (by omega))))).trans (p28 96 k (fun h => absurd h.1 (by exact gz_m 29 (by omega))))).trans (p19 96 k (fun h => by have := h.2; exact gz_m 30 (by omega)))).trans (p11 96 k (fun h => absurd h.1 (by exact gz_m 31 (by omega)))))) (fun k hk => (((((p43 98 k (fun h => absurd h.1 (by exact gz_m 32 (by omega)))).trans (p36 98 k (fun h => absurd h.1 (by exact gz_m 33 (by omega))))).trans (p28 98 k (fun h => by have := h.2; exact gz_m 34 (by omega)))).trans (p19 98 k (fun h => absurd h.1 (by exact gz_m 35 (by omega))))).trans (p11 98 k (fun h => absurd h.1 (by exact gz_m 36 (by omega)))))) (x1.imp (fun h => (q8).trans h) (fun h => by have h9 := (((((p43 95 (Int.toNat (I 86 9)) (fun h => absurd h.1 (by exact gz_m 37 (by omega)))).trans (p36 95 (Int.toNat (I 86 9)) (fun h => absurd h.1 (by exact gz_m 38 (by omega))))).trans (p28 95 (Int.toNat (I 86 9)) (fun h => absurd h.1 (by exact gz_m 39 (by omega))))).trans (p19 95 (Int.toNat (I 86 9)) (fun h => absurd h.1 (by exact gz_m 40 (by omega)))))).trans q11; exact gz_m 41 (by omega))) (by have h9 := ((((p43 96 (Int.toNat (I10 86 9)) (fun h => absurd h.1 (by exact gz_m 42 (by omega)))).trans (p36 96 (Int.toNat (I10 86 9)) (fun h => absurd h.1 (by exact gz_m 43 (by omega))))).trans (p28 96 (Int.toNat (I10 86 9)) (fun h => absurd h.1 (by exact gz_m 44 (by omega)))))).trans q19; rw [show (Int.toNat (I10 86 9)) = (Int.toNat (I 86 9)) from by exact gz_m 45 (by omega)] at h9; exact gz_m 46 (by omega)) (by have h9 := (((p43 98 (Int.toNat (I18 86 9)) (fun h => absurd h.1 (by exact gz_m 47 (by omega)))).trans (p36 98 (Int.toNat (I18 86 9)) (fun h => absurd h.1 (by exact gz_m 48 (by omega)))))).trans q28; rw [show (Int.toNat (I18 86 9)) = (Int.toNat (I 86 9)) from by exact gz_m 49 (by omega)] at h9; exact gz_m 50 (by omega))), by exact gz_m 51 (by omega), by exact gz_m 52 (by omega)⟩⟩
set_option maxHeartbeats 8000000 in
set_option maxRecDepth 100000 in
theorem d_X10_stray {ws0 : List Cond} {tb : String → gz_T} (hws : gc_Ws ws0) (htb : gc_tbs tb) (sh : gz_Sh) (ro : Nat → Nat) (I : gr_I) (J : gr_J) (A : gc_A) (hI : gc_Inv ro I)  (hb : gc_Base sh ro A)   : ∃ r h', gz_Ev ws0 tb 1 (yX10_stray, cX10_stray, 1, (some .int)) [.inr (.inr (some 86))] sh (gc_h sh I J A) r sh h' 0 0 ∧ (∃ (I' : gr_I) (J' : gr_J), h' = gc_h sh I' J' A ∧ gc_Inv ro I' ∧ (∀ q j : Nat, ((q = 86 ∧ j = 18)) ∨ I' q j = I q j) ∧ (∀ q j : Nat, (False) ∨ J' q j = J q j) ∧ (∃ z : Int, r = some (.inl z) ∧ 0 ≤ z ∧ z ≤ 0)) := by
  have FI : ∀ q j : Nat, ((q = 86 ∧ j = 18)) ∨ I q j = I q j := fun _ _ => Or.inr rfl
  have FJ : ∀ q j : Nat, (False) ∨ J q j = J q j := fun _ _ => Or.inr rfl
  have B_86 : 86 < 1000000 := by decide
  have R_86 : ro 86 = 74 := gc_bR hb (by decide) rfl
  have S_86 : sh[86]? = some (false, 10, 19) := gc_bS hb rfl
  have hD : gv_D (gc_E10 ws0 tb 0 (yX10_stray, cX10_stray, 1, (some .int)) kX10_stray) := gq_of oX10_stray
  refine gc_ev10 (d := 0) (l := kX10_stray) (Po := fun r h' => (∃ (I' : gr_I) (J' : gr_J), h' = gc_h sh I' J' A ∧ gc_Inv ro I' ∧ (∀ q j : Nat, ((q = 86 ∧ j = 18)) ∨ I' q j = I q j) ∧ (∀ q j : Nat, (False) ∨ J' q j = J q j) ∧ (∃ z : Int, r = some (.inl z) ∧ 0 ≤ z ∧ z ≤ 0))) htb rfl (Nat.le_of_ble_eq_true rfl) ?_
  refine gv_run 2 true hD (pc' := 2) (lv' := [(0, .inr (.inr (some 86)))]) (st' := [.inl 1, .inr (.inr (some 86))]) (h' := gc_h sh I J A) (C := ((True ∧ True) ∧ True)) rfl ⟨⟨trivial, trivial⟩, trivial⟩ ?_
  refine gv_put hD rfl rfl S_86 ⟨by decide, B_86⟩ rfl (by exact gz_m 0 (by omega)) ?_
  refine gc_st (k := 18) hI S_86 rfl R_86 (lo := 0) (hi := 1) rfl rfl (by exact gz_m 1 (by omega)) (by exact gz_m 2 (by omega)) (fun I1 hI1 q2 p2 => ?_)
  have FI1 := gc_frs (W := fun q j => (q = 86 ∧ j = 18)) FI ⟨rfl, rfl⟩ p2
  show gv_X _ _ (5, [(0, .inr (.inr (some 86)))], [], sh, gc_h sh I1 J A)
  refine gv_run 1 true hD (pc' := 6) (lv' := [(0, .inr (.inr (some 86)))]) (st' := [.inl 0]) (h' := gc_h sh I1 J A) (C := (True ∧ True)) rfl ⟨trivial, trivial⟩ ?_
  exact gv_iret hD rfl ⟨I1, J, rfl, hI1, FI1, FJ, ⟨_, rfl, by exact gz_m 3 (by omega)⟩⟩
set_option maxHeartbeats 8000000 in
set_option maxRecDepth 100000 in
theorem d_X10_thingAt {ws0 : List Cond} {tb : String → gz_T} (hws : gc_Ws ws0) (htb : gc_tbs tb) (sh : gz_Sh) (ro : Nat → Nat) (I : gr_I) (J : gr_J) (A : gc_A) (hI : gc_Inv ro I) (o : Nat) (a1 : Int) (hb : gc_Base sh ro A) (ha1 : (-1) ≤ a1 ∧ a1 ≤ 300) (x0 : 86 + 1 + 2 * Int.toNat (I 86 2) = o) (x1 : o = 87 ∨ o = 89) : ∃ r h', gz_Ev ws0 tb 2 (yX10_thingAt, cX10_thingAt, 2, (some .int)) [.inr (.inr (some 86)), .inl a1] sh (gc_h sh I J A) r sh h' 0 0 ∧ (h' = gc_h sh I J A ∧ (∃ z : Int, r = some (.inl z) ∧ (-1) ≤ z ∧ z ≤ 399)) := by
  have A_1_2 : A 1 2 = some 6 := gc_bA hb rfl
  have A_86_0 : A 86 0 = some 1 := gc_bA hb rfl
  have A_86_15 : A 86 15 = some 99 := gc_bA hb rfl
  have B_1 : 1 < 1000000 := by decide
  have B_6 : 6 < 1000000 := by decide
  have B_86 : 86 < 1000000 := by decide
  have B_88 : 88 < 1000000 := by decide
  have B_90 : 90 < 1000000 := by decide
  have B_99 : 99 < 1000000 := by decide
  have R_86 : ro 86 = 74 := gc_bR hb (by decide) rfl
  have R_88 : ro 88 = 0 := gc_bR hb (by decide) rfl
  have R_90 : ro 90 = 0 := gc_bR hb (by decide) rfl
  have R_99 : ro 99 = 64 := gc_bR hb (by decide) rfl
  have S_1 : sh[1]? = some (false, 8, 21) := gc_bS hb rfl
  have S_6 : sh[6]? = some (false, 4, 2) := gc_bS hb rfl
  have S_86 : sh[86]? = some (false, 10, 19) := gc_bS hb rfl
  have S_88 : sh[88]? = some (true, 2, 300) := gc_bS hb rfl
  have S_90 : sh[90]? = some (true, 2, 300) := gc_bS hb rfl
  have S_99 : sh[99]? = some (true, 1, 301) := gc_bS hb rfl
  have S_o : sh[o]? = some (true, 1, 300) := by
    rcases (show o = 87 ∨ o = 89 from by exact gz_m 0 (by omega)) with h9 | h9 <;> rw [h9] <;> exact gc_bS hb rfl
  have R_o : ro o = 77 := by
    rcases (show o = 87 ∨ o = 89 from by exact gz_m 1 (by omega)) with h9 | h9 <;> rw [h9] <;> exact gc_bR hb (by decide) rfl
  have B_o : o < 1000000 := by exact gz_m 2 (by omega)
  have hD : gv_D (gc_E10 ws0 tb 1 (yX10_thingAt, cX10_thingAt, 2, (some .int)) kX10_thingAt) := gq_of oX10_thingAt
  refine gc_ev10 (d := 1) (l := kX10_thingAt) (Po := fun r h' => (h' = gc_h sh I J A ∧ (∃ z : Int, r = some (.inl z) ∧ (-1) ≤ z ∧ z ≤ 399))) htb rfl (Nat.le_of_ble_eq_true rfl) ?_
  have f1 := (show 0 ≤ I 86 1 ∧ I 86 1 ≤ 300 from gc_in hI R_86 rfl rfl)
  have f2 := (show 0 ≤ I 86 2 ∧ I 86 2 ≤ 1 from gc_in hI R_86 rfl rfl)
  have f3 := (show 0 ≤ I 86 17 ∧ I 86 17 ≤ 300 from gc_in hI R_86 rfl rfl)
  have L12 : gv_X (gc_E10 ws0 tb 1 (yX10_thingAt, cX10_thingAt, 2, (some .int)) kX10_thingAt) (gv_Q cX10_thingAt (some .int) sh (fun r h' => (h' = gc_h sh I J A ∧ (∃ z : Int, r = some (.inl z) ∧ (-1) ≤ z ∧ z ≤ 399)))) (12, [], [], sh, gc_h sh I J A) := by
    have f5 := (show 0 ≤ I 86 1 ∧ I 86 1 ≤ 300 from gc_in hI R_86 rfl rfl)
    have f6 := (show 0 ≤ I 86 2 ∧ I 86 2 ≤ 1 from gc_in hI R_86 rfl rfl)
    have f7 := (show 0 ≤ I 86 17 ∧ I 86 17 ≤ 300 from gc_in hI R_86 rfl rfl)
    refine gv_run 1 true hD (pc' := 13) (lv' := []) (st' := [.inl (-1)]) (h' := gc_h sh I J A) (C := (True ∧ True)) rfl ⟨trivial, trivial⟩ ?_
    exact gv_iret hD rfl ⟨rfl, ⟨_, rfl, by exact gz_m 3 (by omega)⟩⟩
  have L84 : ∀ (s0_8 : Int), (((-1) ≤ s0_8 ∧ s0_8 ≤ 8)) → gv_X (gc_E10 ws0 tb 1 (yX10_thingAt, cX10_thingAt, 2, (some .int)) kX10_thingAt) (gv_Q cX10_thingAt (some .int) sh (fun r h' => (h' = gc_h sh I J A ∧ (∃ z : Int, r = some (.inl z) ∧ (-1) ≤ z ∧ z ≤ 399)))) (84, [], [.inl s0_8], sh, gc_h sh I J A) := by
    intro s0_8 m_8
    have hs0_8 := m_8
    have f9 := (show 0 ≤ I 86 1 ∧ I 86 1 ≤ 300 from gc_in hI R_86 rfl rfl)
    have f10 := (show 0 ≤ I 86 2 ∧ I 86 2 ≤ 1 from gc_in hI R_86 rfl rfl)
    have f11 := (show 0 ≤ I 86 17 ∧ I 86 17 ≤ 300 from gc_in hI R_86 rfl rfl)
    exact gv_iret hD rfl ⟨rfl, ⟨_, rfl, by exact gz_m 4 (by omega)⟩⟩
  have L83 : gv_X (gc_E10 ws0 tb 1 (yX10_thingAt, cX10_thingAt, 2, (some .int)) kX10_thingAt) (gv_Q cX10_thingAt (some .int) sh (fun r h' => (h' = gc_h sh I J A ∧ (∃ z : Int, r = some (.inl z) ∧ (-1) ≤ z ∧ z ≤ 399)))) (83, [], [], sh, gc_h sh I J A) := by
    have f13 := (show 0 ≤ I 86 1 ∧ I 86 1 ≤ 300 from gc_in hI R_86 rfl rfl)
    have f14 := (show 0 ≤ I 86 2 ∧ I 86 2 ≤ 1 from gc_in hI R_86 rfl rfl)
    have f15 := (show 0 ≤ I 86 17 ∧ I 86 17 ≤ 300 from gc_in hI R_86 rfl rfl)
    refine gv_run 1 true hD (pc' := 84) (lv' := []) (st' := [.inl (-1)]) (h' := gc_h sh I J A) (C := (True ∧ True)) rfl ⟨trivial, trivial⟩ ?_
    exact L84 (-1) (by exact gz_m 5 (by omega))
  refine gv_run 1 true hD (pc' := 1) (lv' := [(0, .inr (.inr (some 86))), (1, .inl a1)]) (st' := [.inl a1]) (h' := gc_h sh I J A) (C := (True ∧ True)) rfl ⟨trivial, trivial⟩ ?_
  refine gv_if_lt (t := 12) hD rfl rfl ⟨by exact gz_m 6 (by omega), by exact gz_m 7 (by omega)⟩ (fun c16 => ?_) (fun c16 => ?_)
  · show gv_X _ _ (12, [(0, .inr (.inr (some 86))), (1, .inl a1)], [], sh, gc_h sh I J A)
    refine gv_pick [] rfl ?_
    exact L12 
  · show gv_X _ _ (4, [(0, .inr (.inr (some 86))), (1, .inl a1)], [], sh, gc_h sh I J A)
    refine gv_run 2 true hD (pc' := 6) (lv' := [(0, .inr (.inr (some 86))), (1, .inl a1)]) (st' := [.inr (.inr (some 86)), .inl a1]) (h' := gc_h sh I J A) (C := ((True ∧ True) ∧ True)) rfl ⟨⟨trivial, trivial⟩, trivial⟩ ?_
    have f17 := (show 0 ≤ I 86 1 ∧ I 86 1 ≤ 300 from gc_in hI R_86 rfl rfl)
    refine gv_get hD rfl rfl S_86 ⟨by decide, B_86⟩ (gc_hI S_86 rfl) ?_
    show gv_X _ _ (9, [(0, .inr (.inr (some 86))), (1, .inl a1)], [.inl (I 86 1), .inl a1], sh, gc_h sh I J A)
    refine gv_icmp_lt (t := 14) hD rfl rfl ⟨⟨by exact gz_m 8 (by omega), by exact gz_m 9 (by omega)⟩, ⟨by exact gz_m 10 (by omega), by exact gz_m 11 (by omega)⟩⟩ (fun c18 => ?_) (fun c18 => ?_)
    · show gv_X _ _ (14, [(0, .inr (.inr (some 86))), (1, .inl a1)], [], sh, gc_h sh I J A)
      refine gv_run 1 true hD (pc' := 15) (lv' := [(0, .inr (.inr (some 86))), (1, .inl a1)]) (st' := [.inr (.inr (some 86))]) (h' := gc_h sh I J A) (C := (True ∧ True)) rfl ⟨trivial, trivial⟩ ?_
      refine gv_get hD rfl rfl S_86 ⟨by decide, B_86⟩ (gc_hS (n := 1001) (q := o) S_86 rfl (by exact gz_m 12 (by omega))) ?_
      show gv_X _ _ (18, [(0, .inr (.inr (some 86))), (1, .inl a1)], [.inr (.inr (some o))], sh, gc_h sh I J A)
      refine gv_run 1 true hD (pc' := 19) (lv' := [(0, .inr (.inr (some 86))), (1, .inl a1)]) (st' := [.inl a1, .inr (.inr (some o))]) (h' := gc_h sh I J A) (C := (True ∧ True)) rfl ⟨trivial, trivial⟩ ?_
      have f19 := (show (-3) ≤ I o (Int.toNat a1) ∧ I o (Int.toNat a1) ≤ 1000000 from gc_in hI R_o rfl rfl)
      refine gv_iald hD rfl S_o rfl ⟨by decide, B_o⟩ ⟨by exact gz_m 13 (by omega), by exact gz_m 14 (by omega)⟩ (gc_iI S_o rfl) ?_
      show gv_X _ _ (20, [(0, .inr (.inr (some 86))), (1, .inl a1)], [.inl (I o (Int.toNat a1))], sh, gc_h sh I J A)
      refine gv_run 1 true hD (pc' := 22) (lv' := [(0, .inr (.inr (some 86))), (1, .inl a1)]) (st' := [.inl (-3), .inl (I o (Int.toNat a1))]) (h' := gc_h sh I J A) (C := (True ∧ True)) rfl ⟨trivial, trivial⟩ ?_
      refine gv_icmp_ne (t := 42) hD rfl rfl ⟨⟨by exact gz_m 15 (by omega), by exact gz_m 16 (by omega)⟩, ⟨by exact gz_m 17 (by omega), by exact gz_m 18 (by omega)⟩⟩ (fun c20 => ?_) (fun c20 => ?_)
      · show gv_X _ _ (42, [(0, .inr (.inr (some 86))), (1, .inl a1)], [], sh, gc_h sh I J A)
        refine gv_run 1 true hD (pc' := 43) (lv' := [(0, .inr (.inr (some 86))), (1, .inl a1)]) (st' := [.inr (.inr (some 86))]) (h' := gc_h sh I J A) (C := (True ∧ True)) rfl ⟨trivial, trivial⟩ ?_
        refine gv_get hD rfl rfl S_86 ⟨by decide, B_86⟩ (gc_hS (n := 1001) (q := o) S_86 rfl (by exact gz_m 19 (by omega))) ?_
        show gv_X _ _ (46, [(0, .inr (.inr (some 86))), (1, .inl a1)], [.inr (.inr (some o))], sh, gc_h sh I J A)
        refine gv_run 1 true hD (pc' := 47) (lv' := [(0, .inr (.inr (some 86))), (1, .inl a1)]) (st' := [.inl a1, .inr (.inr (some o))]) (h' := gc_h sh I J A) (C := (True ∧ True)) rfl ⟨trivial, trivial⟩ ?_
        have f21 := (show (-3) ≤ I o (Int.toNat a1) ∧ I o (Int.toNat a1) ≤ 1000000 from gc_in hI R_o rfl rfl)
        refine gv_iald hD rfl S_o rfl ⟨by decide, B_o⟩ ⟨by exact gz_m 20 (by omega), by exact gz_m 21 (by omega)⟩ (gc_iI S_o rfl) ?_
        show gv_X _ _ (48, [(0, .inr (.inr (some 86))), (1, .inl a1)], [.inl (I o (Int.toNat a1))], sh, gc_h sh I J A)
        refine gv_if_lt (t := 83) hD rfl rfl ⟨by exact gz_m 22 (by omega), by exact gz_m 23 (by omega)⟩ (fun c22 => ?_) (fun c22 => ?_)
        · show gv_X _ _ (83, [(0, .inr (.inr (some 86))), (1, .inl a1)], [], sh, gc_h sh I J A)
          refine gv_pick [] rfl ?_
          exact L83 
        · show gv_X _ _ (51, [(0, .inr (.inr (some 86))), (1, .inl a1)], [], sh, gc_h sh I J A)
          refine gv_run 1 true hD (pc' := 52) (lv' := [(0, .inr (.inr (some 86))), (1, .inl a1)]) (st' := [.inr (.inr (some 86))]) (h' := gc_h sh I J A) (C := (True ∧ True)) rfl ⟨trivial, trivial⟩ ?_
          refine gv_get hD rfl rfl S_86 ⟨by decide, B_86⟩ (gc_hS (n := 1001) (q := o) S_86 rfl (by exact gz_m 24 (by omega))) ?_
          show gv_X _ _ (55, [(0, .inr (.inr (some 86))), (1, .inl a1)], [.inr (.inr (some o))], sh, gc_h sh I J A)
          refine gv_run 1 true hD (pc' := 56) (lv' := [(0, .inr (.inr (some 86))), (1, .inl a1)]) (st' := [.inl a1, .inr (.inr (some o))]) (h' := gc_h sh I J A) (C := (True ∧ True)) rfl ⟨trivial, trivial⟩ ?_
          have f23 := (show (-3) ≤ I o (Int.toNat a1) ∧ I o (Int.toNat a1) ≤ 1000000 from gc_in hI R_o rfl rfl)
          refine gv_iald hD rfl S_o rfl ⟨by decide, B_o⟩ ⟨by exact gz_m 25 (by omega), by exact gz_m 26 (by omega)⟩ (gc_iI S_o rfl) ?_
          show gv_X _ _ (57, [(0, .inr (.inr (some 86))), (1, .inl a1)], [.inl (I o (Int.toNat a1))], sh, gc_h sh I J A)
          refine gv_run 1 true hD (pc' := 58) (lv' := [(0, .inr (.inr (some 86))), (1, .inl a1)]) (st' := [.inr (.inr (some 86)), .inl (I o (Int.toNat a1))]) (h' := gc_h sh I J A) (C := (True ∧ True)) rfl ⟨trivial, trivial⟩ ?_
          have f24 := (show 0 ≤ I 86 17 ∧ I 86 17 ≤ 300 from gc_in hI R_86 rfl rfl)
          refine gv_get hD rfl rfl S_86 ⟨by decide, B_86⟩ (gc_hI S_86 rfl) ?_
          show gv_X _ _ (61, [(0, .inr (.inr (some 86))), (1, .inl a1)], [.inl (I 86 17), .inl (I o (Int.toNat a1))], sh, gc_h sh I J A)
          refine gv_icmp_ge (t := 83) hD rfl rfl ⟨⟨by exact gz_m 27 (by omega), by exact gz_m 28 (by omega)⟩, ⟨by exact gz_m 29 (by omega), by exact gz_m 30 (by omega)⟩⟩ (fun c25 => ?_) (fun c25 => ?_)
          · show gv_X _ _ (83, [(0, .inr (.inr (some 86))), (1, .inl a1)], [], sh, gc_h sh I J A)
            refine gv_pick [] rfl ?_
            exact L83 
          · show gv_X _ _ (64, [(0, .inr (.inr (some 86))), (1, .inl a1)], [], sh, gc_h sh I J A)
            refine gv_run 1 true hD (pc' := 65) (lv' := [(0, .inr (.inr (some 86))), (1, .inl a1)]) (st' := [.inr (.inr (some 86))]) (h' := gc_h sh I J A) (C := (True ∧ True)) rfl ⟨trivial, trivial⟩ ?_
            refine gv_get hD rfl rfl S_86 ⟨by decide, B_86⟩ (gc_hA S_86 rfl A_86_15) ?_
            show gv_X _ _ (68, [(0, .inr (.inr (some 86))), (1, .inl a1)], [.inr (.inr (some 99))], sh, gc_h sh I J A)
            refine gv_run 1 true hD (pc' := 69) (lv' := [(0, .inr (.inr (some 86))), (1, .inl a1)]) (st' := [.inr (.inr (some 86)), .inr (.inr (some 99))]) (h' := gc_h sh I J A) (C := (True ∧ True)) rfl ⟨trivial, trivial⟩ ?_
            have f26 := (show 0 ≤ I 86 17 ∧ I 86 17 ≤ 300 from gc_in hI R_86 rfl rfl)
            refine gv_get hD rfl rfl S_86 ⟨by decide, B_86⟩ (gc_hI S_86 rfl) ?_
            show gv_X _ _ (72, [(0, .inr (.inr (some 86))), (1, .inl a1)], [.inl (I 86 17), .inr (.inr (some 99))], sh, gc_h sh I J A)
            refine gv_run 1 true hD (pc' := 73) (lv' := [(0, .inr (.inr (some 86))), (1, .inl a1)]) (st' := [.inr (.inr (some 86)), .inl (I 86 17), .inr (.inr (some 99))]) (h' := gc_h sh I J A) (C := (True ∧ True)) rfl ⟨trivial, trivial⟩ ?_
            refine gv_get hD rfl rfl S_86 ⟨by decide, B_86⟩ (gc_hS (n := 1001) (q := o) S_86 rfl (by exact gz_m 31 (by omega))) ?_
            show gv_X _ _ (76, [(0, .inr (.inr (some 86))), (1, .inl a1)], [.inr (.inr (some o)), .inl (I 86 17), .inr (.inr (some 99))], sh, gc_h sh I J A)
            refine gv_run 1 true hD (pc' := 77) (lv' := [(0, .inr (.inr (some 86))), (1, .inl a1)]) (st' := [.inl a1, .inr (.inr (some o)), .inl (I 86 17), .inr (.inr (some 99))]) (h' := gc_h sh I J A) (C := (True ∧ True)) rfl ⟨trivial, trivial⟩ ?_
            have f27 := (show (-3) ≤ I o (Int.toNat a1) ∧ I o (Int.toNat a1) ≤ 1000000 from gc_in hI R_o rfl rfl)
            refine gv_iald hD rfl S_o rfl ⟨by decide, B_o⟩ ⟨by exact gz_m 32 (by omega), by exact gz_m 33 (by omega)⟩ (gc_iI S_o rfl) ?_
            show gv_X _ _ (78, [(0, .inr (.inr (some 86))), (1, .inl a1)], [.inl (I o (Int.toNat a1)), .inl (I 86 17), .inr (.inr (some 99))], sh, gc_h sh I J A)
            refine gv_run 1 true hD (pc' := 79) (lv' := [(0, .inr (.inr (some 86))), (1, .inl a1)]) (st' := [.inl ((I 86 17) - (I o (Int.toNat a1))), .inr (.inr (some 99))]) (h' := gc_h sh I J A) (C := (True ∧ True)) rfl ⟨trivial, trivial⟩ ?_
            have f28 := (show 0 ≤ I 99 (Int.toNat (((I 86 17) - (I o (Int.toNat a1))))) ∧ I 99 (Int.toNat (((I 86 17) - (I o (Int.toNat a1))))) ≤ 8 from gc_in hI R_99 rfl rfl)
            refine gv_iald hD rfl S_99 rfl ⟨by decide, B_99⟩ ⟨by exact gz_m 34 (by omega), by exact gz_m 35 (by omega)⟩ (gc_iI S_99 rfl) ?_
            show gv_X _ _ (80, [(0, .inr (.inr (some 86))), (1, .inl a1)], [.inl (I 99 (Int.toNat (((I 86 17) - (I o (Int.toNat a1))))))], sh, gc_h sh I J A)
            refine gv_run 1 true hD (pc' := 84) (lv' := [(0, .inr (.inr (some 86))), (1, .inl a1)]) (st' := [.inl (I 99 (Int.toNat (((I 86 17) - (I o (Int.toNat a1))))))]) (h' := gc_h sh I J A) (C := (True ∧ True)) rfl ⟨trivial, trivial⟩ ?_
            refine gv_pick [] rfl ?_
            exact L84 ((I 99 (Int.toNat (((I 86 17) - (I o (Int.toNat a1))))))) (by exact gz_m 36 (by omega))
      · show gv_X _ _ (25, [(0, .inr (.inr (some 86))), (1, .inl a1)], [], sh, gc_h sh I J A)
        refine gv_run 1 true hD (pc' := 26) (lv' := [(0, .inr (.inr (some 86))), (1, .inl a1)]) (st' := [.inr (.inr (some 86))]) (h' := gc_h sh I J A) (C := (True ∧ True)) rfl ⟨trivial, trivial⟩ ?_
        refine gv_get hD rfl rfl S_86 ⟨by decide, B_86⟩ (gc_hA S_86 rfl A_86_0) ?_
        show gv_X _ _ (29, [(0, .inr (.inr (some 86))), (1, .inl a1)], [.inr (.inr (some 1))], sh, gc_h sh I J A)
        refine gv_get hD rfl rfl S_1 ⟨by decide, B_1⟩ (gc_hA S_1 rfl A_1_2) ?_
        show gv_X _ _ (32, [(0, .inr (.inr (some 86))), (1, .inl a1)], [.inr (.inr (some 6))], sh, gc_h sh I J A)
        refine gv_run 1 true hD (pc' := 33) (lv' := [(0, .inr (.inr (some 86))), (1, .inl a1)]) (st' := [.inr (.inr (some 86)), .inr (.inr (some 6))]) (h' := gc_h sh I J A) (C := (True ∧ True)) rfl ⟨trivial, trivial⟩ ?_
        have f30 := (show 0 ≤ I 86 3 ∧ I 86 3 ≤ 1 from gc_in hI R_86 rfl rfl)
        obtain ⟨f29_, hq_f29_, S_f29, R_f29, B_f29, D_f29⟩ := gc_sw (p := 86) (d := 2) (s := 2) (z := I 86 3) (show 0 ≤ I 86 3 ∧ I 86 3 ≤ 1 from gc_in hI R_86 rfl rfl) S_88 R_88 B_88 S_90 R_90 B_90
        refine gv_get hD rfl rfl S_86 ⟨by decide, B_86⟩ (gc_hS (n := 1002) S_86 rfl hq_f29_) ?_
        show gv_X _ _ (36, [(0, .inr (.inr (some 86))), (1, .inl a1)], [.inr (.inr (some f29_)), .inr (.inr (some 6))], sh, gc_h sh I J A)
        refine gv_run 1 true hD (pc' := 37) (lv' := [(0, .inr (.inr (some 86))), (1, .inl a1)]) (st' := [.inl a1, .inr (.inr (some f29_)), .inr (.inr (some 6))]) (h' := gc_h sh I J A) (C := (True ∧ True)) rfl ⟨trivial, trivial⟩ ?_
        refine gv_lald hD rfl S_f29 rfl ⟨by decide, B_f29⟩ ⟨by exact gz_m 37 (by omega), by exact gz_m 38 (by omega)⟩ (gc_jJ S_f29 rfl) ?_
        show gv_X _ _ (38, [(0, .inr (.inr (some 86))), (1, .inl a1)], [.inr (.inl (J f29_ (Int.toNat a1))), .inr (.inr (some 6))], sh, gc_h sh I J A)
        obtain ⟨r31, h31, E31, P31⟩ := d_X4_find (ws0 := ws0) (tb := tb) hws htb sh ro I J A hI 6 8 6 ((J f29_ (Int.toNat a1))) (gc_b6 hb)     
        obtain ⟨rfl, ⟨z31, rfl, q31⟩⟩ := P31
        refine gv_callV hD rfl (As := [.inr (.inl (J f29_ (Int.toNat a1)))]) (st := []) rfl B_6 S_6 rfl (gc_lV10 hws rfl) (Nat.le_of_ble_eq_true rfl) (gz_Ev_mono (d := 1) (by decide) E31) ?_
        show gv_X _ _ (41, [(0, .inr (.inr (some 86))), (1, .inl a1)], [.inl z31], sh, gc_h sh I J A)
        exact gv_iret hD rfl ⟨rfl, ⟨_, rfl, by exact gz_m 39 (by omega)⟩⟩
    · show gv_X _ _ (12, [(0, .inr (.inr (some 86))), (1, .inl a1)], [], sh, gc_h sh I J A)
      refine gv_pick [] rfl ?_
      exact L12 
set_option maxHeartbeats 8000000 in
set_option maxRecDepth 100000 in
theorem d_X10_openAll {ws0 : List Cond} {tb : String → gz_T} (hws : gc_Ws ws0) (htb : gc_tbs tb) (sh : gz_Sh) (ro : Nat → Nat) (I : gr_I) (J : gr_J) (A : gc_A) (hI : gc_Inv ro I) (a1 : Int64) (a2 : Int) (hb : gc_Base sh ro A) (ha2 : 0 ≤ a2 ∧ a2 ≤ 300) (x0 : gc_OP J I) (x1 : I 86 9 + 2 ≤ a2) (x2 : I 86 17 ≤ I 86 9) : ∃ r h', gz_Ev ws0 tb 2 (yX10_openAll, cX10_openAll, 5, (some .int)) [.inr (.inr (some 86)), .inr (.inl a1), .inl a2] sh (gc_h sh I J A) r sh h' 0 0 ∧ (∃ (I' : gr_I) (J' : gr_J), h' = gc_h sh I' J' A ∧ gc_Inv ro I' ∧ (∀ q j : Nat, (q = 95 ∨ q = 96 ∨ q = 98 ∨ (q = 86 ∧ j = 9) ∨ (q = 86 ∧ j = 16) ∨ (q = 86 ∧ j = 17) ∨ q = 97 ∨ q = 99) ∨ I' q j = I q j) ∧ (∀ q j : Nat, (q = 94) ∨ J' q j = J q j) ∧ (∃ z : Int, r = some (.inl z) ∧ (-1) ≤ z ∧ z ≤ 1 ∧ (gc_OP J' I') ∧ (0 ≤ z ∨ (I' 86 17 ≤ I' 86 9 ∧ I' 86 9 ≤ I' 86 16)))) := by
  have FI : ∀ q j : Nat, (q = 95 ∨ q = 96 ∨ q = 98 ∨ (q = 86 ∧ j = 9) ∨ (q = 86 ∧ j = 16) ∨ (q = 86 ∧ j = 17) ∨ q = 97 ∨ q = 99) ∨ I q j = I q j := fun _ _ => Or.inr rfl
  have FJ : ∀ q j : Nat, (q = 94) ∨ J q j = J q j := fun _ _ => Or.inr rfl
  have A_1_2 : A 1 2 = some 6 := gc_bA hb rfl
  have A_86_0 : A 86 0 = some 1 := gc_bA hb rfl
  have A_86_13 : A 86 13 = some 97 := gc_bA hb rfl
  have A_86_15 : A 86 15 = some 99 := gc_bA hb rfl
  have B_1 : 1 < 1000000 := by decide
  have B_6 : 6 < 1000000 := by decide
  have B_86 : 86 < 1000000 := by decide
  have B_97 : 97 < 1000000 := by decide
  have B_99 : 99 < 1000000 := by decide
  have R_6 : ro 6 = 6 := gc_bR hb (by decide) rfl
  have R_86 : ro 86 = 74 := gc_bR hb (by decide) rfl
  have R_97 : ro 97 = 78 := gc_bR hb (by decide) rfl
  have R_99 : ro 99 = 64 := gc_bR hb (by decide) rfl
  have S_1 : sh[1]? = some (false, 8, 21) := gc_bS hb rfl
  have S_6 : sh[6]? = some (false, 4, 2) := gc_bS hb rfl
  have S_86 : sh[86]? = some (false, 10, 19) := gc_bS hb rfl
  have S_97 : sh[97]? = some (true, 1, 300) := gc_bS hb rfl
  have S_99 : sh[99]? = some (true, 1, 301) := gc_bS hb rfl
  have hD : gv_D (gc_E10 ws0 tb 1 (yX10_openAll, cX10_openAll, 5, (some .int)) kX10_openAll) := gq_of oX10_openAll
  refine gc_ev10 (d := 1) (l := kX10_openAll) (Po := fun r h' => (∃ (I' : gr_I) (J' : gr_J), h' = gc_h sh I' J' A ∧ gc_Inv ro I' ∧ (∀ q j : Nat, (q = 95 ∨ q = 96 ∨ q = 98 ∨ (q = 86 ∧ j = 9) ∨ (q = 86 ∧ j = 16) ∨ (q = 86 ∧ j = 17) ∨ q = 97 ∨ q = 99) ∨ I' q j = I q j) ∧ (∀ q j : Nat, (q = 94) ∨ J' q j = J q j) ∧ (∃ z : Int, r = some (.inl z) ∧ (-1) ≤ z ∧ z ≤ 1 ∧ (gc_OP J' I') ∧ (0 ≤ z ∨ (I' 86 17 ≤ I' 86 9 ∧ I' 86 9 ≤ I' 86 16))))) htb rfl (Nat.le_of_ble_eq_true rfl) ?_
  have f1 := (show 0 ≤ I 86 1 ∧ I 86 1 ≤ 300 from gc_in hI R_86 rfl rfl)
  have f2 := (show 0 ≤ I 86 2 ∧ I 86 2 ≤ 1 from gc_in hI R_86 rfl rfl)
  have f3 := (show 0 ≤ I 86 9 ∧ I 86 9 ≤ 300 from gc_in hI R_86 rfl rfl)
  have f4 := (show (-1) ≤ I 86 16 ∧ I 86 16 ≤ 301 from gc_in hI R_86 rfl rfl)
  have f5 := (show 0 ≤ I 86 17 ∧ I 86 17 ≤ 300 from gc_in hI R_86 rfl rfl)
  have L13 : ∀ (s0_6 : Int), ((0 ≤ a2 ∧ a2 ≤ 300) ∧ (0 ≤ s0_6 ∧ s0_6 ≤ 1)) → gv_X (gc_E10 ws0 tb 1 (yX10_openAll, cX10_openAll, 5, (some .int)) kX10_openAll) (gv_Q cX10_openAll (some .int) sh (fun r h' => (∃ (I' : gr_I) (J' : gr_J), h' = gc_h sh I' J' A ∧ gc_Inv ro I' ∧ (∀ q j : Nat, (q = 95 ∨ q = 96 ∨ q = 98 ∨ (q = 86 ∧ j = 9) ∨ (q = 86 ∧ j = 16) ∨ (q = 86 ∧ j = 17) ∨ q = 97 ∨ q = 99) ∨ I' q j = I q j) ∧ (∀ q j : Nat, (q = 94) ∨ J' q j = J q j) ∧ (∃ z : Int, r = some (.inl z) ∧ (-1) ≤ z ∧ z ≤ 1 ∧ (gc_OP J' I') ∧ (0 ≤ z ∨ (I' 86 17 ≤ I' 86 9 ∧ I' 86 9 ≤ I' 86 16)))))) (13, [(0, .inr (.inr (some 86))), (1, .inr (.inl a1)), (3, .inl a2)], [.inl s0_6], sh, gc_h sh I J A) := by
    intro s0_6 m_6
    obtain ⟨ha2_6, hs0_6⟩ := m_6
    have f7 := (show 0 ≤ I 86 1 ∧ I 86 1 ≤ 300 from gc_in hI R_86 rfl rfl)
    have f8 := (show 0 ≤ I 86 2 ∧ I 86 2 ≤ 1 from gc_in hI R_86 rfl rfl)
    have f9 := (show 0 ≤ I 86 9 ∧ I 86 9 ≤ 300 from gc_in hI R_86 rfl rfl)
    have f10 := (show (-1) ≤ I 86 16 ∧ I 86 16 ≤ 301 from gc_in hI R_86 rfl rfl)
    have f11 := (show 0 ≤ I 86 17 ∧ I 86 17 ≤ 300 from gc_in hI R_86 rfl rfl)
    refine gv_run 2 true hD (pc' := 16) (lv' := [(4, .inl s0_6), (0, .inr (.inr (some 86))), (1, .inr (.inl a1)), (3, .inl a2)]) (st' := [.inr (.inr (some 86))]) (h' := gc_h sh I J A) (C := ((True ∧ True) ∧ True)) rfl ⟨⟨trivial, trivial⟩, trivial⟩ ?_
    refine gv_get hD rfl rfl S_86 ⟨by decide, B_86⟩ (gc_hA S_86 rfl A_86_0) ?_
    show gv_X _ _ (19, [(4, .inl s0_6), (0, .inr (.inr (some 86))), (1, .inr (.inl a1)), (3, .inl a2)], [.inr (.inr (some 1))], sh, gc_h sh I J A)
    refine gv_get hD rfl rfl S_1 ⟨by decide, B_1⟩ (gc_hA S_1 rfl A_1_2) ?_
    show gv_X _ _ (22, [(4, .inl s0_6), (0, .inr (.inr (some 86))), (1, .inr (.inl a1)), (3, .inl a2)], [.inr (.inr (some 6))], sh, gc_h sh I J A)
    have f12 := (show 0 ≤ I 6 1 ∧ I 6 1 ≤ 8 from gc_in hI R_6 rfl rfl)
    refine gv_get hD rfl rfl S_6 ⟨by decide, B_6⟩ (gc_hI S_6 rfl) ?_
    show gv_X _ _ (25, [(4, .inl s0_6), (0, .inr (.inr (some 86))), (1, .inr (.inl a1)), (3, .inl a2)], [.inl (I 6 1)], sh, gc_h sh I J A)
    refine gv_if_ne (t := 31) hD rfl rfl ⟨by exact gz_m 0 (by omega), by exact gz_m 1 (by omega)⟩ (fun c13 => ?_) (fun c13 => ?_)
    · show gv_X _ _ (31, [(4, .inl s0_6), (0, .inr (.inr (some 86))), (1, .inr (.inl a1)), (3, .inl a2)], [], sh, gc_h sh I J A)
      refine gv_run 2 true hD (pc' := 33) (lv' := [(4, .inl s0_6), (0, .inr (.inr (some 86))), (1, .inr (.inl a1)), (3, .inl a2)]) (st' := [.inr (.inr (some 86)), .inr (.inr (some 86))]) (h' := gc_h sh I J A) (C := ((True ∧ True) ∧ True)) rfl ⟨⟨trivial, trivial⟩, trivial⟩ ?_
      have f14 := (show 0 ≤ I 86 17 ∧ I 86 17 ≤ 300 from gc_in hI R_86 rfl rfl)
      refine gv_get hD rfl rfl S_86 ⟨by decide, B_86⟩ (gc_hI S_86 rfl) ?_
      show gv_X _ _ (36, [(4, .inl s0_6), (0, .inr (.inr (some 86))), (1, .inr (.inl a1)), (3, .inl a2)], [.inl (I 86 17), .inr (.inr (some 86))], sh, gc_h sh I J A)
      refine gv_run 2 true hD (pc' := 38) (lv' := [(4, .inl s0_6), (0, .inr (.inr (some 86))), (1, .inr (.inl a1)), (3, .inl a2)]) (st' := [.inl ((I 86 17) + 1), .inr (.inr (some 86))]) (h' := gc_h sh I J A) (C := ((True ∧ True) ∧ True)) rfl ⟨⟨trivial, trivial⟩, trivial⟩ ?_
      refine gv_put hD rfl rfl S_86 ⟨by decide, B_86⟩ rfl trivial ?_
      refine gc_st (k := 17) hI S_86 rfl R_86 (lo := 0) (hi := 300) rfl rfl (by exact gz_m 2 (by omega)) (by exact gz_m 3 (by omega)) (fun I15 hI15 q16 p16 => ?_)
      have FI15 := gc_frs (W := fun q j => q = 95 ∨ q = 96 ∨ q = 98 ∨ (q = 86 ∧ j = 9) ∨ (q = 86 ∧ j = 16) ∨ (q = 86 ∧ j = 17) ∨ q = 97 ∨ q = 99) FI (Or.inr (Or.inr (Or.inr (Or.inr (Or.inr (Or.inl ⟨rfl, rfl⟩)))))) p16
      have t17 := p16 86 1 (fun h => absurd h.2 (by decide))
      have t18 := p16 86 2 (fun h => absurd h.2 (by decide))
      have t19 := p16 86 9 (fun h => absurd h.2 (by decide))
      have t20 := p16 86 16 (fun h => absurd h.2 (by decide))
      have f21 := (show 0 ≤ I15 86 17 ∧ I15 86 17 ≤ 300 from gc_in hI15 R_86 rfl rfl)
      show gv_X _ _ (41, [(4, .inl s0_6), (0, .inr (.inr (some 86))), (1, .inr (.inl a1)), (3, .inl a2)], [], sh, gc_h sh I15 J A)
      refine gv_run 1 true hD (pc' := 42) (lv' := [(4, .inl s0_6), (0, .inr (.inr (some 86))), (1, .inr (.inl a1)), (3, .inl a2)]) (st' := [.inr (.inr (some 86))]) (h' := gc_h sh I15 J A) (C := (True ∧ True)) rfl ⟨trivial, trivial⟩ ?_
      refine gv_get hD rfl rfl S_86 ⟨by decide, B_86⟩ (gc_hA S_86 rfl A_86_15) ?_
      show gv_X _ _ (45, [(4, .inl s0_6), (0, .inr (.inr (some 86))), (1, .inr (.inl a1)), (3, .inl a2)], [.inr (.inr (some 99))], sh, gc_h sh I15 J A)
      refine gv_run 1 true hD (pc' := 46) (lv' := [(4, .inl s0_6), (0, .inr (.inr (some 86))), (1, .inr (.inl a1)), (3, .inl a2)]) (st' := [.inr (.inr (some 86)), .inr (.inr (some 99))]) (h' := gc_h sh I15 J A) (C := (True ∧ True)) rfl ⟨trivial, trivial⟩ ?_
      have f22 := (show 0 ≤ I15 86 17 ∧ I15 86 17 ≤ 300 from gc_in hI15 R_86 rfl rfl)
      refine gv_get hD rfl rfl S_86 ⟨by decide, B_86⟩ (gc_hI S_86 rfl) ?_
      show gv_X _ _ (49, [(4, .inl s0_6), (0, .inr (.inr (some 86))), (1, .inr (.inl a1)), (3, .inl a2)], [.inl (I15 86 17), .inr (.inr (some 99))], sh, gc_h sh I15 J A)
      refine gv_run 1 true hD (pc' := 50) (lv' := [(4, .inl s0_6), (0, .inr (.inr (some 86))), (1, .inr (.inl a1)), (3, .inl a2)]) (st' := [.inl 0, .inl (I15 86 17), .inr (.inr (some 99))]) (h' := gc_h sh I15 J A) (C := (True ∧ True)) rfl ⟨trivial, trivial⟩ ?_
      refine gv_iast hD rfl S_99 ⟨by decide, B_99⟩ ⟨by exact gz_m 4 (by omega), by exact gz_m 5 (by omega)⟩ ?_
      refine gc_st hI15 S_99 rfl R_99 (lo := 0) (hi := 8) rfl rfl (by exact gz_m 6 (by omega)) (by exact gz_m 7 (by omega)) (fun I23 hI23 q24 p24 => ?_)
      have FI23 := gc_frs (W := fun q j => q = 95 ∨ q = 96 ∨ q = 98 ∨ (q = 86 ∧ j = 9) ∨ (q = 86 ∧ j = 16) ∨ (q = 86 ∧ j = 17) ∨ q = 97 ∨ q = 99) FI15 (Or.inr (Or.inr (Or.inr (Or.inr (Or.inr (Or.inr (Or.inr rfl))))))) p24
      have t25 := p24 86 1 (fun h => absurd h.1 (by decide))
      have t26 := p24 86 2 (fun h => absurd h.1 (by decide))
      have t27 := p24 86 9 (fun h => absurd h.1 (by decide))
      have t28 := p24 86 16 (fun h => absurd h.1 (by decide))
      have t29 := p24 86 17 (fun h => absurd h.1 (by decide))
      show gv_X _ _ (51, [(4, .inl s0_6), (0, .inr (.inr (some 86))), (1, .inr (.inl a1)), (3, .inl a2)], [], sh, gc_h sh I23 J A)
      refine gv_run 4 true hD (pc' := 55) (lv' := [(4, .inl s0_6), (0, .inr (.inr (some 86))), (1, .inr (.inl a1)), (3, .inl a2)]) (st' := [.inl a2, .inl a2, .inr (.inl a1), .inr (.inr (some 86))]) (h' := gc_h sh I23 J A) (C := ((((True ∧ True) ∧ True) ∧ True) ∧ True)) rfl ⟨⟨⟨⟨trivial, trivial⟩, trivial⟩, trivial⟩, trivial⟩ ?_
      obtain ⟨r30, h30, E30, P30⟩ := d_X10_openUp (ws0 := ws0) (tb := tb) hws htb sh ro I23 J A hI23  a1 a2 a2 hb   ⟨by exact gz_m 8 (by omega), by exact gz_m 9 (by omega)⟩ ⟨by exact gz_m 10 (by omega), by exact gz_m 11 (by omega)⟩ (gc_OP_fr (m := 301) x0 (by exact gz_m 12 (by omega)) (fun k => ((p24 95 k (fun h => absurd h.1 (by exact gz_m 13 (by omega)))).trans (p16 95 k (fun h => absurd h.1 (by exact gz_m 14 (by omega)))))) (fun k => ((p24 98 k (fun h => absurd h.1 (by exact gz_m 15 (by omega)))).trans (p16 98 k (fun h => absurd h.1 (by exact gz_m 16 (by omega)))))) (fun k _ => ((p24 96 k (fun h => absurd h.1 (by exact gz_m 17 (by omega)))).trans (p16 96 k (fun h => absurd h.1 (by exact gz_m 18 (by omega)))))) (fun h => by exact gz_m 19 (by omega))) (Or.inr (by exact gz_m 20 (by omega))) (by exact gz_m 21 (by omega)) (by exact gz_m 22 (by omega)) 
      obtain ⟨I31, J32, rfl, hI31, g30, k30, ⟨z30, rfl, q30⟩⟩ := P30
      have FI31 := gc_frc (W := fun q j => q = 95 ∨ q = 96 ∨ q = 98 ∨ (q = 86 ∧ j = 9) ∨ (q = 86 ∧ j = 16) ∨ (q = 86 ∧ j = 17) ∨ q = 97 ∨ q = 99) (V := fun q j => q = 95 ∨ q = 96 ∨ q = 98 ∨ (q = 86 ∧ j = 9) ∨ (q = 86 ∧ j = 16)) FI23 (fun q j h => (h.elim (fun h => (Or.inl h)) (fun h => (h.elim (fun h => (Or.inr (Or.inl h))) (fun h => (h.elim (fun h => (Or.inr (Or.inr (Or.inl h)))) (fun h => (h.elim (fun h => (Or.inr (Or.inr (Or.inr (Or.inl h))))) (fun h => (Or.inr (Or.inr (Or.inr (Or.inr (Or.inl h)))))))))))))) g30
      have FJ32 := gc_frc (W := fun q j => q = 94) (V := fun q j => q = 94) FJ (fun q j h => h) k30
      have t33 := (g30 86 1).resolve_left (fun h => h.elim (fun h => absurd h (by decide)) (fun h => h.elim (fun h => absurd h (by decide)) (fun h => h.elim (fun h => absurd h (by decide)) (fun h => h.elim (fun h => absurd h.2 (by decide)) (fun h => absurd h.2 (by decide))))))
      have t34 := (g30 86 2).resolve_left (fun h => h.elim (fun h => absurd h (by decide)) (fun h => h.elim (fun h => absurd h (by decide)) (fun h => h.elim (fun h => absurd h (by decide)) (fun h => h.elim (fun h => absurd h.2 (by decide)) (fun h => absurd h.2 (by decide))))))
      have t35 := (g30 86 17).resolve_left (fun h => h.elim (fun h => absurd h (by decide)) (fun h => h.elim (fun h => absurd h (by decide)) (fun h => h.elim (fun h => absurd h (by decide)) (fun h => h.elim (fun h => absurd h.2 (by decide)) (fun h => absurd h.2 (by decide))))))
      have f36 := (show 0 ≤ I31 86 9 ∧ I31 86 9 ≤ 300 from gc_in hI31 R_86 rfl rfl)
      have f37 := (show (-1) ≤ I31 86 16 ∧ I31 86 16 ≤ 301 from gc_in hI31 R_86 rfl rfl)
      refine gv_callV hD rfl (As := [.inr (.inl a1), .inl a2, .inl a2]) (st := []) rfl B_86 S_86 rfl (gc_lV10 hws rfl) (Nat.le_of_ble_eq_true rfl) (gz_Ev_mono (d := 1) (by decide) E30) ?_
      show gv_X _ _ (58, [(4, .inl s0_6), (0, .inr (.inr (some 86))), (1, .inr (.inl a1)), (3, .inl a2)], [.inl z30], sh, gc_h sh I31 J32 A)
      refine gv_run 2 true hD (pc' := 60) (lv' := [(4, .inl s0_6), (0, .inr (.inr (some 86))), (1, .inr (.inl a1)), (3, .inl a2)]) (st' := [.inr (.inr (some 86))]) (h' := gc_h sh I31 J32 A) (C := ((True ∧ True) ∧ True)) rfl ⟨⟨trivial, trivial⟩, trivial⟩ ?_
      refine gv_get hD rfl rfl S_86 ⟨by decide, B_86⟩ (gc_hA S_86 rfl A_86_13) ?_
      show gv_X _ _ (63, [(4, .inl s0_6), (0, .inr (.inr (some 86))), (1, .inr (.inl a1)), (3, .inl a2)], [.inr (.inr (some 97))], sh, gc_h sh I31 J32 A)
      refine gv_run 1 true hD (pc' := 64) (lv' := [(4, .inl s0_6), (0, .inr (.inr (some 86))), (1, .inr (.inl a1)), (3, .inl a2)]) (st' := [.inr (.inr (some 86)), .inr (.inr (some 97))]) (h' := gc_h sh I31 J32 A) (C := (True ∧ True)) rfl ⟨trivial, trivial⟩ ?_
      have f38 := (show 0 ≤ I31 86 9 ∧ I31 86 9 ≤ 300 from gc_in hI31 R_86 rfl rfl)
      refine gv_get hD rfl rfl S_86 ⟨by decide, B_86⟩ (gc_hI S_86 rfl) ?_
      show gv_X _ _ (67, [(4, .inl s0_6), (0, .inr (.inr (some 86))), (1, .inr (.inl a1)), (3, .inl a2)], [.inl (I31 86 9), .inr (.inr (some 97))], sh, gc_h sh I31 J32 A)
      refine gv_run 3 true hD (pc' := 71) (lv' := [(4, .inl s0_6), (0, .inr (.inr (some 86))), (1, .inr (.inl a1)), (3, .inl a2)]) (st' := [.inl s0_6, .inl ((I31 86 9) - 1), .inr (.inr (some 97))]) (h' := gc_h sh I31 J32 A) (C := (((True ∧ True) ∧ True) ∧ True)) rfl ⟨⟨⟨trivial, trivial⟩, trivial⟩, trivial⟩ ?_
      refine gv_iast hD rfl S_97 ⟨by decide, B_97⟩ ⟨by exact gz_m 23 (by omega), by exact gz_m 24 (by omega)⟩ ?_
      refine gc_st hI31 S_97 rfl R_97 (lo := 0) (hi := 1) rfl rfl (by exact gz_m 25 (by omega)) (by exact gz_m 26 (by omega)) (fun I39 hI39 q40 p40 => ?_)
      have FI39 := gc_frs (W := fun q j => q = 95 ∨ q = 96 ∨ q = 98 ∨ (q = 86 ∧ j = 9) ∨ (q = 86 ∧ j = 16) ∨ (q = 86 ∧ j = 17) ∨ q = 97 ∨ q = 99) FI31 (Or.inr (Or.inr (Or.inr (Or.inr (Or.inr (Or.inr (Or.inl rfl))))))) p40
      have t41 := p40 86 1 (fun h => absurd h.1 (by decide))
      have t42 := p40 86 2 (fun h => absurd h.1 (by decide))
      have t43 := p40 86 9 (fun h => absurd h.1 (by decide))
      have t44 := p40 86 16 (fun h => absurd h.1 (by decide))
      have t45 := p40 86 17 (fun h => absurd h.1 (by decide))
      show gv_X _ _ (72, [(4, .inl s0_6), (0, .inr (.inr (some 86))), (1, .inr (.inl a1)), (3, .inl a2)], [], sh, gc_h sh I39 J32 A)
      refine gv_run 1 true hD (pc' := 73) (lv' := [(4, .inl s0_6), (0, .inr (.inr (some 86))), (1, .inr (.inl a1)), (3, .inl a2)]) (st' := [.inl (-1)]) (h' := gc_h sh I39 J32 A) (C := (True ∧ True)) rfl ⟨trivial, trivial⟩ ?_
      exact gv_iret hD rfl ⟨I39, J32, rfl, hI39, FI39, FJ32, ⟨_, rfl, by exact gz_m 27 (by omega), by exact gz_m 28 (by omega), (gc_OP_fr (m := 301) q30.2.2.1 (by exact gz_m 29 (by omega)) (fun k => (p40 95 k (fun h => absurd h.1 (by exact gz_m 30 (by omega))))) (fun k => (p40 98 k (fun h => absurd h.1 (by exact gz_m 31 (by omega))))) (fun k _ => (p40 96 k (fun h => absurd h.1 (by exact gz_m 32 (by omega))))) (fun h => by exact gz_m 33 (by omega))), by exact gz_m 34 (by omega)⟩⟩
    · show gv_X _ _ (28, [(4, .inl s0_6), (0, .inr (.inr (some 86))), (1, .inr (.inl a1)), (3, .inl a2)], [], sh, gc_h sh I J A)
      refine gv_run 1 true hD (pc' := 30) (lv' := [(4, .inl s0_6), (0, .inr (.inr (some 86))), (1, .inr (.inl a1)), (3, .inl a2)]) (st' := [.inl s0_6]) (h' := gc_h sh I J A) (C := (True ∧ True)) rfl ⟨trivial, trivial⟩ ?_
      exact gv_iret hD rfl ⟨I, J, rfl, hI, FI, FJ, ⟨_, rfl, by exact gz_m 35 (by omega), by exact gz_m 36 (by omega), x0, by exact gz_m 37 (by omega)⟩⟩
  have f46 := gw_cmp (a1) ((6384748))
  refine gv_run 3 true hD (pc' := 5) (lv' := [(0, .inr (.inr (some 86))), (1, .inr (.inl a1)), (3, .inl a2)]) (st' := [.inl ((lg_cmp (a1) ((6384748))).toInt)]) (h' := gc_h sh I J A) (C := (((True ∧ True) ∧ True) ∧ True)) rfl ⟨⟨⟨trivial, trivial⟩, trivial⟩, trivial⟩ ?_
  refine gv_if_ne (t := 12) hD rfl rfl ⟨by exact gz_m 38 (by omega), by exact gz_m 39 (by omega)⟩ (fun c47 => ?_) (fun c47 => ?_)
  · show gv_X _ _ (12, [(0, .inr (.inr (some 86))), (1, .inr (.inl a1)), (3, .inl a2)], [], sh, gc_h sh I J A)
    refine gv_run 1 true hD (pc' := 13) (lv' := [(0, .inr (.inr (some 86))), (1, .inr (.inl a1)), (3, .inl a2)]) (st' := [.inl 0]) (h' := gc_h sh I J A) (C := (True ∧ True)) rfl ⟨trivial, trivial⟩ ?_
    exact L13 0 (by exact gz_m 40 (by omega))
  · show gv_X _ _ (8, [(0, .inr (.inr (some 86))), (1, .inr (.inl a1)), (3, .inl a2)], [], sh, gc_h sh I J A)
    refine gv_run 2 true hD (pc' := 13) (lv' := [(0, .inr (.inr (some 86))), (1, .inr (.inl a1)), (3, .inl a2)]) (st' := [.inl 1]) (h' := gc_h sh I J A) (C := ((True ∧ True) ∧ True)) rfl ⟨⟨trivial, trivial⟩, trivial⟩ ?_
    exact L13 1 (by exact gz_m 41 (by omega))
set_option maxHeartbeats 8000000 in
set_option maxRecDepth 100000 in
theorem d_X10_goOn {ws0 : List Cond} {tb : String → gz_T} (hws : gc_Ws ws0) (htb : gc_tbs tb) (sh : gz_Sh) (ro : Nat → Nat) (I : gr_I) (J : gr_J) (A : gc_A) (hI : gc_Inv ro I) (a1 : Int) (hb : gc_Base sh ro A) (ha1 : 0 ≤ a1 ∧ a1 ≤ 1) (x0 : gc_OP J I) (x1 : 1 ≤ I 86 9) : ∃ r h', gz_Ev ws0 tb 1 (yX10_goOn, cX10_goOn, 5, (some .int)) [.inr (.inr (some 86)), .inl a1] sh (gc_h sh I J A) r sh h' 0 0 ∧ (∃ (I' : gr_I) (J' : gr_J), h' = gc_h sh I' J' A ∧ gc_Inv ro I' ∧ (∀ q j : Nat, ((q = 96 ∧ j = (Int.toNat (((I 86 9) - 1)))) ∨ q = 97 ∨ q = 99 ∨ (q = 86 ∧ j = 9) ∨ (q = 86 ∧ j = 16) ∨ (q = 86 ∧ j = 17)) ∨ I' q j = I q j) ∧ (∀ q j : Nat, (False) ∨ J' q j = J q j) ∧ (∃ z : Int, r = some (.inl z) ∧ (-1) ≤ z ∧ z ≤ 1 ∧ (gc_OP J' I') ∧ (0 ≤ z ∨ (I' 86 17 ≤ I' 86 9 ∧ I' 86 9 ≤ I' 86 16)) ∧ (I' 86 9 ≤ I 86 9))) := by
  have FI : ∀ q j : Nat, ((q = 96 ∧ j = (Int.toNat (((I 86 9) - 1)))) ∨ q = 97 ∨ q = 99 ∨ (q = 86 ∧ j = 9) ∨ (q = 86 ∧ j = 16) ∨ (q = 86 ∧ j = 17)) ∨ I q j = I q j := fun _ _ => Or.inr rfl
  have FJ : ∀ q j : Nat, (False) ∨ J q j = J q j := fun _ _ => Or.inr rfl
  have A_1_2 : A 1 2 = some 6 := gc_bA hb rfl
  have A_86_0 : A 86 0 = some 1 := gc_bA hb rfl
  have A_86_10 : A 86 10 = some 94 := gc_bA hb rfl
  have A_86_11 : A 86 11 = some 95 := gc_bA hb rfl
  have A_86_12 : A 86 12 = some 96 := gc_bA hb rfl
  have A_86_13 : A 86 13 = some 97 := gc_bA hb rfl
  have A_86_14 : A 86 14 = some 98 := gc_bA hb rfl
  have A_86_15 : A 86 15 = some 99 := gc_bA hb rfl
  have B_1 : 1 < 1000000 := by decide
  have B_6 : 6 < 1000000 := by decide
  have B_86 : 86 < 1000000 := by decide
  have B_94 : 94 < 1000000 := by decide
  have B_95 : 95 < 1000000 := by decide
  have B_96 : 96 < 1000000 := by decide
  have B_97 : 97 < 1000000 := by decide
  have B_98 : 98 < 1000000 := by decide
  have B_99 : 99 < 1000000 := by decide
  have R_6 : ro 6 = 6 := gc_bR hb (by decide) rfl
  have R_86 : ro 86 = 74 := gc_bR hb (by decide) rfl
  have R_95 : ro 95 = 61 := gc_bR hb (by decide) rfl
  have R_96 : ro 96 = 62 := gc_bR hb (by decide) rfl
  have R_97 : ro 97 = 78 := gc_bR hb (by decide) rfl
  have R_98 : ro 98 = 63 := gc_bR hb (by decide) rfl
  have R_99 : ro 99 = 64 := gc_bR hb (by decide) rfl
  have S_1 : sh[1]? = some (false, 8, 21) := gc_bS hb rfl
  have S_6 : sh[6]? = some (false, 4, 2) := gc_bS hb rfl
  have S_86 : sh[86]? = some (false, 10, 19) := gc_bS hb rfl
  have S_94 : sh[94]? = some (true, 2, 300) := gc_bS hb rfl
  have S_95 : sh[95]? = some (true, 1, 300) := gc_bS hb rfl
  have S_96 : sh[96]? = some (true, 1, 300) := gc_bS hb rfl
  have S_97 : sh[97]? = some (true, 1, 300) := gc_bS hb rfl
  have S_98 : sh[98]? = some (true, 1, 300) := gc_bS hb rfl
  have S_99 : sh[99]? = some (true, 1, 301) := gc_bS hb rfl
  have hD : gv_D (gc_E10 ws0 tb 0 (yX10_goOn, cX10_goOn, 5, (some .int)) kX10_goOn) := gq_of oX10_goOn
  refine gc_ev10 (d := 0) (l := kX10_goOn) (Po := fun r h' => (∃ (I' : gr_I) (J' : gr_J), h' = gc_h sh I' J' A ∧ gc_Inv ro I' ∧ (∀ q j : Nat, ((q = 96 ∧ j = (Int.toNat (((I 86 9) - 1)))) ∨ q = 97 ∨ q = 99 ∨ (q = 86 ∧ j = 9) ∨ (q = 86 ∧ j = 16) ∨ (q = 86 ∧ j = 17)) ∨ I' q j = I q j) ∧ (∀ q j : Nat, (False) ∨ J' q j = J q j) ∧ (∃ z : Int, r = some (.inl z) ∧ (-1) ≤ z ∧ z ≤ 1 ∧ (gc_OP J' I') ∧ (0 ≤ z ∨ (I' 86 17 ≤ I' 86 9 ∧ I' 86 9 ≤ I' 86 16)) ∧ (I' 86 9 ≤ I 86 9)))) htb rfl (Nat.le_of_ble_eq_true rfl) ?_
  have f1 := (show 0 ≤ I 86 1 ∧ I 86 1 ≤ 300 from gc_in hI R_86 rfl rfl)
  have f2 := (show 0 ≤ I 86 2 ∧ I 86 2 ≤ 1 from gc_in hI R_86 rfl rfl)
  have f3 := (show 0 ≤ I 86 9 ∧ I 86 9 ≤ 300 from gc_in hI R_86 rfl rfl)
  have f4 := (show (-1) ≤ I 86 16 ∧ I 86 16 ≤ 301 from gc_in hI R_86 rfl rfl)
  have f5 := (show 0 ≤ I 86 17 ∧ I 86 17 ≤ 300 from gc_in hI R_86 rfl rfl)
  have f6 := (show 0 ≤ I 6 1 ∧ I 6 1 ≤ 8 from gc_in hI R_6 rfl rfl)
  have L40 : ∀ (I7 : gr_I) (J8 : gr_J) (v2_9 : Int) (v3_9 : Int64), gc_Inv ro I7 → (∀ q j : Nat, ((q = 96 ∧ j = (Int.toNat (((I 86 9) - 1)))) ∨ q = 97 ∨ q = 99 ∨ (q = 86 ∧ j = 9) ∨ (q = 86 ∧ j = 16) ∨ (q = 86 ∧ j = 17)) ∨ I7 q j = I q j) → (∀ q j : Nat, (False) ∨ J8 q j = J q j) → ((0 ≤ a1 ∧ a1 ≤ 1) ∧ ((-1) ≤ v2_9 ∧ v2_9 ≤ 299) ∧ (v2_9 = I 86 9 - 1) ∧ (I7 86 9 = I 86 9) ∧ (I7 96 (Int.toNat v2_9) = I 96 (Int.toNat v2_9) + 1) ∧ (I 96 (Int.toNat v2_9) ≤ 7) ∧ (I 98 (Int.toNat v2_9) ≤ v2_9 + 1)) → (v3_9 = J 94 (Int.toNat v2_9)) → (v2_9 + 1 ≤ I 95 (Int.toNat v2_9)) → gv_X (gc_E10 ws0 tb 0 (yX10_goOn, cX10_goOn, 5, (some .int)) kX10_goOn) (gv_Q cX10_goOn (some .int) sh (fun r h' => (∃ (I' : gr_I) (J' : gr_J), h' = gc_h sh I' J' A ∧ gc_Inv ro I' ∧ (∀ q j : Nat, ((q = 96 ∧ j = (Int.toNat (((I 86 9) - 1)))) ∨ q = 97 ∨ q = 99 ∨ (q = 86 ∧ j = 9) ∨ (q = 86 ∧ j = 16) ∨ (q = 86 ∧ j = 17)) ∨ I' q j = I q j) ∧ (∀ q j : Nat, (False) ∨ J' q j = J q j) ∧ (∃ z : Int, r = some (.inl z) ∧ (-1) ≤ z ∧ z ≤ 1 ∧ (gc_OP J' I') ∧ (0 ≤ z ∨ (I' 86 17 ≤ I' 86 9 ∧ I' 86 9 ≤ I' 86 16)) ∧ (I' 86 9 ≤ I 86 9))))) (40, [(0, .inr (.inr (some 86))), (1, .inl a1), (2, .inl v2_9), (3, .inr (.inl v3_9))], [], sh, gc_h sh I7 J8 A) := by
    intro I7 J8 v2_9 v3_9 hI7 FI7 FJ8 m_9 e5_9 e6_9
    obtain ⟨ha1_9, hv2_9, e0_9, e1_9, e2_9, e3_9, e4_9⟩ := m_9
    have f10 := (show 0 ≤ I7 86 1 ∧ I7 86 1 ≤ 300 from gc_in hI7 R_86 rfl rfl)
    have f11 := (show 0 ≤ I7 86 2 ∧ I7 86 2 ≤ 1 from gc_in hI7 R_86 rfl rfl)
    have f12 := (show 0 ≤ I7 86 9 ∧ I7 86 9 ≤ 300 from gc_in hI7 R_86 rfl rfl)
    have f13 := (show (-1) ≤ I7 86 16 ∧ I7 86 16 ≤ 301 from gc_in hI7 R_86 rfl rfl)
    have f14 := (show 0 ≤ I7 86 17 ∧ I7 86 17 ≤ 300 from gc_in hI7 R_86 rfl rfl)
    have f15 := (show 0 ≤ I7 6 1 ∧ I7 6 1 ≤ 8 from gc_in hI7 R_6 rfl rfl)
    refine gv_run 1 true hD (pc' := 41) (lv' := [(0, .inr (.inr (some 86))), (1, .inl a1), (2, .inl v2_9), (3, .inr (.inl v3_9))]) (st' := [.inr (.inr (some 86))]) (h' := gc_h sh I7 J8 A) (C := (True ∧ True)) rfl ⟨trivial, trivial⟩ ?_
    refine gv_get hD rfl rfl S_86 ⟨by decide, B_86⟩ (gc_hA S_86 rfl A_86_13) ?_
    show gv_X _ _ (44, [(0, .inr (.inr (some 86))), (1, .inl a1), (2, .inl v2_9), (3, .inr (.inl v3_9))], [.inr (.inr (some 97))], sh, gc_h sh I7 J8 A)
    have f16 := gw_cmp (v3_9) ((6384748))
    refine gv_run 4 true hD (pc' := 50) (lv' := [(0, .inr (.inr (some 86))), (1, .inl a1), (2, .inl v2_9), (3, .inr (.inl v3_9))]) (st' := [.inl ((lg_cmp (v3_9) ((6384748))).toInt), .inl v2_9, .inr (.inr (some 97))]) (h' := gc_h sh I7 J8 A) (C := ((((True ∧ True) ∧ True) ∧ True) ∧ True)) rfl ⟨⟨⟨⟨trivial, trivial⟩, trivial⟩, trivial⟩, trivial⟩ ?_
    refine gv_if_ne (t := 64) hD rfl rfl ⟨by exact gz_m 0 (by omega), by exact gz_m 1 (by omega)⟩ (fun c17 => ?_) (fun c17 => ?_)
    · show gv_X _ _ (64, [(0, .inr (.inr (some 86))), (1, .inl a1), (2, .inl v2_9), (3, .inr (.inl v3_9))], [.inl v2_9, .inr (.inr (some 97))], sh, gc_h sh I7 J8 A)
      refine gv_run 1 true hD (pc' := 65) (lv' := [(0, .inr (.inr (some 86))), (1, .inl a1), (2, .inl v2_9), (3, .inr (.inl v3_9))]) (st' := [.inr (.inr (some 86)), .inl v2_9, .inr (.inr (some 97))]) (h' := gc_h sh I7 J8 A) (C := (True ∧ True)) rfl ⟨trivial, trivial⟩ ?_
      refine gv_get hD rfl rfl S_86 ⟨by decide, B_86⟩ (gc_hA S_86 rfl A_86_13) ?_
      show gv_X _ _ (68, [(0, .inr (.inr (some 86))), (1, .inl a1), (2, .inl v2_9), (3, .inr (.inl v3_9))], [.inr (.inr (some 97)), .inl v2_9, .inr (.inr (some 97))], sh, gc_h sh I7 J8 A)
      refine gv_run 1 true hD (pc' := 69) (lv' := [(0, .inr (.inr (some 86))), (1, .inl a1), (2, .inl v2_9), (3, .inr (.inl v3_9))]) (st' := [.inl v2_9, .inr (.inr (some 97)), .inl v2_9, .inr (.inr (some 97))]) (h' := gc_h sh I7 J8 A) (C := (True ∧ True)) rfl ⟨trivial, trivial⟩ ?_
      have f18 := (show 0 ≤ I7 97 (Int.toNat v2_9) ∧ I7 97 (Int.toNat v2_9) ≤ 1 from gc_in hI7 R_97 rfl rfl)
      refine gv_iald hD rfl S_97 rfl ⟨by decide, B_97⟩ ⟨by exact gz_m 2 (by omega), by exact gz_m 3 (by omega)⟩ (gc_iI S_97 rfl) ?_
      show gv_X _ _ (70, [(0, .inr (.inr (some 86))), (1, .inl a1), (2, .inl v2_9), (3, .inr (.inl v3_9))], [.inl (I7 97 (Int.toNat v2_9)), .inl v2_9, .inr (.inr (some 97))], sh, gc_h sh I7 J8 A)
      have f19 := gc_or1 (x := ((I7 97 (Int.toNat v2_9)))) (y := a1) ⟨by exact gz_m 4 (by omega), by exact gz_m 5 (by omega)⟩ ⟨by exact gz_m 6 (by omega), by exact gz_m 7 (by omega)⟩
      refine gv_run 2 true hD (pc' := 72) (lv' := [(0, .inr (.inr (some 86))), (1, .inl a1), (2, .inl v2_9), (3, .inr (.inl v3_9))]) (st' := [.inl ((Int32.ofInt ((I7 97 (Int.toNat v2_9))) ||| Int32.ofInt a1).toInt), .inl v2_9, .inr (.inr (some 97))]) (h' := gc_h sh I7 J8 A) (C := ((True ∧ True) ∧ True)) rfl ⟨⟨trivial, trivial⟩, trivial⟩ ?_
      refine gv_iast hD rfl S_97 ⟨by decide, B_97⟩ ⟨by exact gz_m 8 (by omega), by exact gz_m 9 (by omega)⟩ ?_
      refine gc_st hI7 S_97 rfl R_97 (lo := 0) (hi := 1) rfl rfl (by exact gz_m 10 (by omega)) (by exact gz_m 11 (by omega)) (fun I20 hI20 q21 p21 => ?_)
      have FI20 := gc_frs (W := fun q j => (q = 96 ∧ j = (Int.toNat (((I 86 9) - 1)))) ∨ q = 97 ∨ q = 99 ∨ (q = 86 ∧ j = 9) ∨ (q = 86 ∧ j = 16) ∨ (q = 86 ∧ j = 17)) FI7 (Or.inr (Or.inl rfl)) p21
      have t22 := p21 86 1 (fun h => absurd h.1 (by decide))
      have t23 := p21 86 2 (fun h => absurd h.1 (by decide))
      have t24 := p21 86 9 (fun h => absurd h.1 (by decide))
      have t25 := p21 86 16 (fun h => absurd h.1 (by decide))
      have t26 := p21 86 17 (fun h => absurd h.1 (by decide))
      have t27 := p21 6 1 (fun h => absurd h.1 (by decide))
      have t28 := p21 96 (Int.toNat v2_9) (fun h => absurd h.1 (by decide))
      show gv_X _ _ (73, [(0, .inr (.inr (some 86))), (1, .inl a1), (2, .inl v2_9), (3, .inr (.inl v3_9))], [], sh, gc_h sh I20 J8 A)
      refine gv_run 1 true hD (pc' := 74) (lv' := [(0, .inr (.inr (some 86))), (1, .inl a1), (2, .inl v2_9), (3, .inr (.inl v3_9))]) (st' := [.inr (.inr (some 86))]) (h' := gc_h sh I20 J8 A) (C := (True ∧ True)) rfl ⟨trivial, trivial⟩ ?_
      refine gv_get hD rfl rfl S_86 ⟨by decide, B_86⟩ (gc_hA S_86 rfl A_86_12) ?_
      show gv_X _ _ (77, [(0, .inr (.inr (some 86))), (1, .inl a1), (2, .inl v2_9), (3, .inr (.inl v3_9))], [.inr (.inr (some 96))], sh, gc_h sh I20 J8 A)
      refine gv_run 1 true hD (pc' := 78) (lv' := [(0, .inr (.inr (some 86))), (1, .inl a1), (2, .inl v2_9), (3, .inr (.inl v3_9))]) (st' := [.inl v2_9, .inr (.inr (some 96))]) (h' := gc_h sh I20 J8 A) (C := (True ∧ True)) rfl ⟨trivial, trivial⟩ ?_
      have f29 := (show 0 ≤ I20 96 (Int.toNat v2_9) ∧ I20 96 (Int.toNat v2_9) ≤ 9 from gc_in hI20 R_96 rfl rfl)
      refine gv_iald hD rfl S_96 rfl ⟨by decide, B_96⟩ ⟨by exact gz_m 12 (by omega), by exact gz_m 13 (by omega)⟩ (gc_iI S_96 rfl) ?_
      show gv_X _ _ (79, [(0, .inr (.inr (some 86))), (1, .inl a1), (2, .inl v2_9), (3, .inr (.inl v3_9))], [.inl (I20 96 (Int.toNat v2_9))], sh, gc_h sh I20 J8 A)
      refine gv_run 1 true hD (pc' := 80) (lv' := [(0, .inr (.inr (some 86))), (1, .inl a1), (2, .inl v2_9), (3, .inr (.inl v3_9))]) (st' := [.inr (.inr (some 86)), .inl (I20 96 (Int.toNat v2_9))]) (h' := gc_h sh I20 J8 A) (C := (True ∧ True)) rfl ⟨trivial, trivial⟩ ?_
      refine gv_get hD rfl rfl S_86 ⟨by decide, B_86⟩ (gc_hA S_86 rfl A_86_0) ?_
      show gv_X _ _ (83, [(0, .inr (.inr (some 86))), (1, .inl a1), (2, .inl v2_9), (3, .inr (.inl v3_9))], [.inr (.inr (some 1)), .inl (I20 96 (Int.toNat v2_9))], sh, gc_h sh I20 J8 A)
      refine gv_get hD rfl rfl S_1 ⟨by decide, B_1⟩ (gc_hA S_1 rfl A_1_2) ?_
      show gv_X _ _ (86, [(0, .inr (.inr (some 86))), (1, .inl a1), (2, .inl v2_9), (3, .inr (.inl v3_9))], [.inr (.inr (some 6)), .inl (I20 96 (Int.toNat v2_9))], sh, gc_h sh I20 J8 A)
      have f30 := (show 0 ≤ I20 6 1 ∧ I20 6 1 ≤ 8 from gc_in hI20 R_6 rfl rfl)
      refine gv_get hD rfl rfl S_6 ⟨by decide, B_6⟩ (gc_hI S_6 rfl) ?_
      show gv_X _ _ (89, [(0, .inr (.inr (some 86))), (1, .inl a1), (2, .inl v2_9), (3, .inr (.inl v3_9))], [.inl (I20 6 1), .inl (I20 96 (Int.toNat v2_9))], sh, gc_h sh I20 J8 A)
      refine gv_icmp_ge (t := 131) hD rfl rfl ⟨⟨by exact gz_m 14 (by omega), by exact gz_m 15 (by omega)⟩, ⟨by exact gz_m 16 (by omega), by exact gz_m 17 (by omega)⟩⟩ (fun c31 => ?_) (fun c31 => ?_)
      · show gv_X _ _ (131, [(0, .inr (.inr (some 86))), (1, .inl a1), (2, .inl v2_9), (3, .inr (.inl v3_9))], [], sh, gc_h sh I20 J8 A)
        refine gv_run 2 true hD (pc' := 133) (lv' := [(0, .inr (.inr (some 86))), (1, .inl a1), (2, .inl v2_9), (3, .inr (.inl v3_9))]) (st' := [.inr (.inr (some 86)), .inr (.inr (some 86))]) (h' := gc_h sh I20 J8 A) (C := ((True ∧ True) ∧ True)) rfl ⟨⟨trivial, trivial⟩, trivial⟩ ?_
        have f32 := (show 0 ≤ I20 86 9 ∧ I20 86 9 ≤ 300 from gc_in hI20 R_86 rfl rfl)
        refine gv_get hD rfl rfl S_86 ⟨by decide, B_86⟩ (gc_hI S_86 rfl) ?_
        show gv_X _ _ (136, [(0, .inr (.inr (some 86))), (1, .inl a1), (2, .inl v2_9), (3, .inr (.inl v3_9))], [.inl (I20 86 9), .inr (.inr (some 86))], sh, gc_h sh I20 J8 A)
        refine gv_run 2 true hD (pc' := 138) (lv' := [(0, .inr (.inr (some 86))), (1, .inl a1), (2, .inl v2_9), (3, .inr (.inl v3_9))]) (st' := [.inl ((I20 86 9) - 1), .inr (.inr (some 86))]) (h' := gc_h sh I20 J8 A) (C := ((True ∧ True) ∧ True)) rfl ⟨⟨trivial, trivial⟩, trivial⟩ ?_
        refine gv_put hD rfl rfl S_86 ⟨by decide, B_86⟩ rfl trivial ?_
        refine gc_st (k := 9) hI20 S_86 rfl R_86 (lo := 0) (hi := 300) rfl rfl (by exact gz_m 18 (by omega)) (by exact gz_m 19 (by omega)) (fun I33 hI33 q34 p34 => ?_)
        have FI33 := gc_frs (W := fun q j => (q = 96 ∧ j = (Int.toNat (((I 86 9) - 1)))) ∨ q = 97 ∨ q = 99 ∨ (q = 86 ∧ j = 9) ∨ (q = 86 ∧ j = 16) ∨ (q = 86 ∧ j = 17)) FI20 (Or.inr (Or.inr (Or.inr (Or.inl ⟨rfl, rfl⟩)))) p34
        have t35 := p34 86 1 (fun h => absurd h.2 (by decide))
        have t36 := p34 86 2 (fun h => absurd h.2 (by decide))
        have t37 := p34 86 16 (fun h => absurd h.2 (by decide))
        have t38 := p34 86 17 (fun h => absurd h.2 (by decide))
        have t39 := p34 6 1 (fun h => absurd h.2 (by decide))
        have t40 := p34 96 (Int.toNat v2_9) (fun h => absurd h.1 (by decide))
        have f41 := (show 0 ≤ I33 86 9 ∧ I33 86 9 ≤ 300 from gc_in hI33 R_86 rfl rfl)
        show gv_X _ _ (141, [(0, .inr (.inr (some 86))), (1, .inl a1), (2, .inl v2_9), (3, .inr (.inl v3_9))], [], sh, gc_h sh I33 J8 A)
        refine gv_run 1 true hD (pc' := 142) (lv' := [(0, .inr (.inr (some 86))), (1, .inl a1), (2, .inl v2_9), (3, .inr (.inl v3_9))]) (st' := [.inr (.inr (some 86))]) (h' := gc_h sh I33 J8 A) (C := (True ∧ True)) rfl ⟨trivial, trivial⟩ ?_
        refine gv_get hD rfl rfl S_86 ⟨by decide, B_86⟩ (gc_hA S_86 rfl A_86_13) ?_
        show gv_X _ _ (145, [(0, .inr (.inr (some 86))), (1, .inl a1), (2, .inl v2_9), (3, .inr (.inl v3_9))], [.inr (.inr (some 97))], sh, gc_h sh I33 J8 A)
        refine gv_run 1 true hD (pc' := 146) (lv' := [(0, .inr (.inr (some 86))), (1, .inl a1), (2, .inl v2_9), (3, .inr (.inl v3_9))]) (st' := [.inl v2_9, .inr (.inr (some 97))]) (h' := gc_h sh I33 J8 A) (C := (True ∧ True)) rfl ⟨trivial, trivial⟩ ?_
        have f42 := (show 0 ≤ I33 97 (Int.toNat v2_9) ∧ I33 97 (Int.toNat v2_9) ≤ 1 from gc_in hI33 R_97 rfl rfl)
        refine gv_iald hD rfl S_97 rfl ⟨by decide, B_97⟩ ⟨by exact gz_m 20 (by omega), by exact gz_m 21 (by omega)⟩ (gc_iI S_97 rfl) ?_
        show gv_X _ _ (147, [(0, .inr (.inr (some 86))), (1, .inl a1), (2, .inl v2_9), (3, .inr (.inl v3_9))], [.inl (I33 97 (Int.toNat v2_9))], sh, gc_h sh I33 J8 A)
        exact gv_iret hD rfl ⟨I33, J8, rfl, hI33, FI33, FJ8, ⟨_, rfl, by exact gz_m 22 (by omega), by exact gz_m 23 (by omega), (by rw [show J8 = J from funext fun q => funext fun j => (FJ8 q j).resolve_left id]; exact gc_OP_fr (m := Int.toNat v2_9) x0 (by exact gz_m 24 (by omega)) (fun k => (FI33 95 k).resolve_left (by exact gz_m 25 (by omega))) (fun k => (FI33 98 k).resolve_left (by exact gz_m 26 (by omega))) (fun k hk => (FI33 96 k).resolve_left (by exact gz_m 27 (by omega))) (fun h => by exact gz_m 28 (by omega))), by exact gz_m 29 (by omega), by exact gz_m 30 (by omega)⟩⟩
      · show gv_X _ _ (92, [(0, .inr (.inr (some 86))), (1, .inl a1), (2, .inl v2_9), (3, .inr (.inl v3_9))], [], sh, gc_h sh I20 J8 A)
        refine gv_run 1 true hD (pc' := 93) (lv' := [(0, .inr (.inr (some 86))), (1, .inl a1), (2, .inl v2_9), (3, .inr (.inl v3_9))]) (st' := [.inr (.inr (some 86))]) (h' := gc_h sh I20 J8 A) (C := (True ∧ True)) rfl ⟨trivial, trivial⟩ ?_
        refine gv_get hD rfl rfl S_86 ⟨by decide, B_86⟩ (gc_hA S_86 rfl A_86_15) ?_
        show gv_X _ _ (96, [(0, .inr (.inr (some 86))), (1, .inl a1), (2, .inl v2_9), (3, .inr (.inl v3_9))], [.inr (.inr (some 99))], sh, gc_h sh I20 J8 A)
        refine gv_run 1 true hD (pc' := 97) (lv' := [(0, .inr (.inr (some 86))), (1, .inl a1), (2, .inl v2_9), (3, .inr (.inl v3_9))]) (st' := [.inr (.inr (some 86)), .inr (.inr (some 99))]) (h' := gc_h sh I20 J8 A) (C := (True ∧ True)) rfl ⟨trivial, trivial⟩ ?_
        refine gv_get hD rfl rfl S_86 ⟨by decide, B_86⟩ (gc_hA S_86 rfl A_86_14) ?_
        show gv_X _ _ (100, [(0, .inr (.inr (some 86))), (1, .inl a1), (2, .inl v2_9), (3, .inr (.inl v3_9))], [.inr (.inr (some 98)), .inr (.inr (some 99))], sh, gc_h sh I20 J8 A)
        refine gv_run 1 true hD (pc' := 101) (lv' := [(0, .inr (.inr (some 86))), (1, .inl a1), (2, .inl v2_9), (3, .inr (.inl v3_9))]) (st' := [.inl v2_9, .inr (.inr (some 98)), .inr (.inr (some 99))]) (h' := gc_h sh I20 J8 A) (C := (True ∧ True)) rfl ⟨trivial, trivial⟩ ?_
        have t43 := (FI20 98 (Int.toNat v2_9)).resolve_left (by exact gz_m 31 (by omega))
        have f44 := (show 0 ≤ I20 98 (Int.toNat v2_9) ∧ I20 98 (Int.toNat v2_9) ≤ 300 from gc_in hI20 R_98 rfl rfl)
        refine gv_iald hD rfl S_98 rfl ⟨by decide, B_98⟩ ⟨by exact gz_m 32 (by omega), by exact gz_m 33 (by omega)⟩ (gc_iI S_98 rfl) ?_
        show gv_X _ _ (102, [(0, .inr (.inr (some 86))), (1, .inl a1), (2, .inl v2_9), (3, .inr (.inl v3_9))], [.inl (I20 98 (Int.toNat v2_9)), .inr (.inr (some 99))], sh, gc_h sh I20 J8 A)
        refine gv_run 1 true hD (pc' := 103) (lv' := [(0, .inr (.inr (some 86))), (1, .inl a1), (2, .inl v2_9), (3, .inr (.inl v3_9))]) (st' := [.inr (.inr (some 86)), .inl (I20 98 (Int.toNat v2_9)), .inr (.inr (some 99))]) (h' := gc_h sh I20 J8 A) (C := (True ∧ True)) rfl ⟨trivial, trivial⟩ ?_
        refine gv_get hD rfl rfl S_86 ⟨by decide, B_86⟩ (gc_hA S_86 rfl A_86_12) ?_
        show gv_X _ _ (106, [(0, .inr (.inr (some 86))), (1, .inl a1), (2, .inl v2_9), (3, .inr (.inl v3_9))], [.inr (.inr (some 96)), .inl (I20 98 (Int.toNat v2_9)), .inr (.inr (some 99))], sh, gc_h sh I20 J8 A)
        refine gv_run 1 true hD (pc' := 107) (lv' := [(0, .inr (.inr (some 86))), (1, .inl a1), (2, .inl v2_9), (3, .inr (.inl v3_9))]) (st' := [.inl v2_9, .inr (.inr (some 96)), .inl (I20 98 (Int.toNat v2_9)), .inr (.inr (some 99))]) (h' := gc_h sh I20 J8 A) (C := (True ∧ True)) rfl ⟨trivial, trivial⟩ ?_
        have f45 := (show 0 ≤ I20 96 (Int.toNat v2_9) ∧ I20 96 (Int.toNat v2_9) ≤ 9 from gc_in hI20 R_96 rfl rfl)
        refine gv_iald hD rfl S_96 rfl ⟨by decide, B_96⟩ ⟨by exact gz_m 34 (by omega), by exact gz_m 35 (by omega)⟩ (gc_iI S_96 rfl) ?_
        show gv_X _ _ (108, [(0, .inr (.inr (some 86))), (1, .inl a1), (2, .inl v2_9), (3, .inr (.inl v3_9))], [.inl (I20 96 (Int.toNat v2_9)), .inl (I20 98 (Int.toNat v2_9)), .inr (.inr (some 99))], sh, gc_h sh I20 J8 A)
        refine gv_iast hD rfl S_99 ⟨by decide, B_99⟩ ⟨by exact gz_m 36 (by omega), by exact gz_m 37 (by omega)⟩ ?_
        refine gc_st hI20 S_99 rfl R_99 (lo := 0) (hi := 8) rfl rfl (by exact gz_m 38 (by omega)) (by exact gz_m 39 (by omega)) (fun I46 hI46 q47 p47 => ?_)
        have FI46 := gc_frs (W := fun q j => (q = 96 ∧ j = (Int.toNat (((I 86 9) - 1)))) ∨ q = 97 ∨ q = 99 ∨ (q = 86 ∧ j = 9) ∨ (q = 86 ∧ j = 16) ∨ (q = 86 ∧ j = 17)) FI20 (Or.inr (Or.inr (Or.inl rfl))) p47
        have t48 := p47 86 1 (fun h => absurd h.1 (by decide))
        have t49 := p47 86 2 (fun h => absurd h.1 (by decide))
        have t50 := p47 86 9 (fun h => absurd h.1 (by decide))
        have t51 := p47 86 16 (fun h => absurd h.1 (by decide))
        have t52 := p47 86 17 (fun h => absurd h.1 (by decide))
        have t53 := p47 6 1 (fun h => absurd h.1 (by decide))
        have t54 := p47 96 (Int.toNat v2_9) (fun h => absurd h.1 (by decide))
        show gv_X _ _ (109, [(0, .inr (.inr (some 86))), (1, .inl a1), (2, .inl v2_9), (3, .inr (.inl v3_9))], [], sh, gc_h sh I46 J8 A)
        refine gv_run 2 true hD (pc' := 111) (lv' := [(0, .inr (.inr (some 86))), (1, .inl a1), (2, .inl v2_9), (3, .inr (.inl v3_9))]) (st' := [.inr (.inr (some 86)), .inr (.inr (some 86))]) (h' := gc_h sh I46 J8 A) (C := ((True ∧ True) ∧ True)) rfl ⟨⟨trivial, trivial⟩, trivial⟩ ?_
        refine gv_get hD rfl rfl S_86 ⟨by decide, B_86⟩ (gc_hA S_86 rfl A_86_14) ?_
        show gv_X _ _ (114, [(0, .inr (.inr (some 86))), (1, .inl a1), (2, .inl v2_9), (3, .inr (.inl v3_9))], [.inr (.inr (some 98)), .inr (.inr (some 86))], sh, gc_h sh I46 J8 A)
        refine gv_run 1 true hD (pc' := 115) (lv' := [(0, .inr (.inr (some 86))), (1, .inl a1), (2, .inl v2_9), (3, .inr (.inl v3_9))]) (st' := [.inl v2_9, .inr (.inr (some 98)), .inr (.inr (some 86))]) (h' := gc_h sh I46 J8 A) (C := (True ∧ True)) rfl ⟨trivial, trivial⟩ ?_
        have t55 := (FI46 98 (Int.toNat v2_9)).resolve_left (by exact gz_m 40 (by omega))
        have f56 := (show 0 ≤ I46 98 (Int.toNat v2_9) ∧ I46 98 (Int.toNat v2_9) ≤ 300 from gc_in hI46 R_98 rfl rfl)
        refine gv_iald hD rfl S_98 rfl ⟨by decide, B_98⟩ ⟨by exact gz_m 41 (by omega), by exact gz_m 42 (by omega)⟩ (gc_iI S_98 rfl) ?_
        show gv_X _ _ (116, [(0, .inr (.inr (some 86))), (1, .inl a1), (2, .inl v2_9), (3, .inr (.inl v3_9))], [.inl (I46 98 (Int.toNat v2_9)), .inr (.inr (some 86))], sh, gc_h sh I46 J8 A)
        refine gv_put hD rfl rfl S_86 ⟨by decide, B_86⟩ rfl trivial ?_
        refine gc_st (k := 17) hI46 S_86 rfl R_86 (lo := 0) (hi := 300) rfl rfl (by exact gz_m 43 (by omega)) (by exact gz_m 44 (by omega)) (fun I57 hI57 q58 p58 => ?_)
        have FI57 := gc_frs (W := fun q j => (q = 96 ∧ j = (Int.toNat (((I 86 9) - 1)))) ∨ q = 97 ∨ q = 99 ∨ (q = 86 ∧ j = 9) ∨ (q = 86 ∧ j = 16) ∨ (q = 86 ∧ j = 17)) FI46 (Or.inr (Or.inr (Or.inr (Or.inr (Or.inr ⟨rfl, rfl⟩))))) p58
        have t59 := p58 86 1 (fun h => absurd h.2 (by decide))
        have t60 := p58 86 2 (fun h => absurd h.2 (by decide))
        have t61 := p58 86 9 (fun h => absurd h.2 (by decide))
        have t62 := p58 86 16 (fun h => absurd h.2 (by decide))
        have t63 := p58 6 1 (fun h => absurd h.2 (by decide))
        have t64 := p58 96 (Int.toNat v2_9) (fun h => absurd h.1 (by decide))
        have f65 := (show 0 ≤ I57 86 17 ∧ I57 86 17 ≤ 300 from gc_in hI57 R_86 rfl rfl)
        show gv_X _ _ (119, [(0, .inr (.inr (some 86))), (1, .inl a1), (2, .inl v2_9), (3, .inr (.inl v3_9))], [], sh, gc_h sh I57 J8 A)
        refine gv_run 2 true hD (pc' := 121) (lv' := [(0, .inr (.inr (some 86))), (1, .inl a1), (2, .inl v2_9), (3, .inr (.inl v3_9))]) (st' := [.inr (.inr (some 86)), .inr (.inr (some 86))]) (h' := gc_h sh I57 J8 A) (C := ((True ∧ True) ∧ True)) rfl ⟨⟨trivial, trivial⟩, trivial⟩ ?_
        refine gv_get hD rfl rfl S_86 ⟨by decide, B_86⟩ (gc_hA S_86 rfl A_86_11) ?_
        show gv_X _ _ (124, [(0, .inr (.inr (some 86))), (1, .inl a1), (2, .inl v2_9), (3, .inr (.inl v3_9))], [.inr (.inr (some 95)), .inr (.inr (some 86))], sh, gc_h sh I57 J8 A)
        refine gv_run 1 true hD (pc' := 125) (lv' := [(0, .inr (.inr (some 86))), (1, .inl a1), (2, .inl v2_9), (3, .inr (.inl v3_9))]) (st' := [.inl v2_9, .inr (.inr (some 95)), .inr (.inr (some 86))]) (h' := gc_h sh I57 J8 A) (C := (True ∧ True)) rfl ⟨trivial, trivial⟩ ?_
        have t66 := (FI57 95 (Int.toNat v2_9)).resolve_left (by exact gz_m 45 (by omega))
        have f67 := (show (-1) ≤ I57 95 (Int.toNat v2_9) ∧ I57 95 (Int.toNat v2_9) ≤ 300 from gc_in hI57 R_95 rfl rfl)
        refine gv_iald hD rfl S_95 rfl ⟨by decide, B_95⟩ ⟨by exact gz_m 46 (by omega), by exact gz_m 47 (by omega)⟩ (gc_iI S_95 rfl) ?_
        show gv_X _ _ (126, [(0, .inr (.inr (some 86))), (1, .inl a1), (2, .inl v2_9), (3, .inr (.inl v3_9))], [.inl (I57 95 (Int.toNat v2_9)), .inr (.inr (some 86))], sh, gc_h sh I57 J8 A)
        refine gv_put hD rfl rfl S_86 ⟨by decide, B_86⟩ rfl trivial ?_
        refine gc_st (k := 16) hI57 S_86 rfl R_86 (lo := (-1)) (hi := 301) rfl rfl (by exact gz_m 48 (by omega)) (by exact gz_m 49 (by omega)) (fun I68 hI68 q69 p69 => ?_)
        have FI68 := gc_frs (W := fun q j => (q = 96 ∧ j = (Int.toNat (((I 86 9) - 1)))) ∨ q = 97 ∨ q = 99 ∨ (q = 86 ∧ j = 9) ∨ (q = 86 ∧ j = 16) ∨ (q = 86 ∧ j = 17)) FI57 (Or.inr (Or.inr (Or.inr (Or.inr (Or.inl ⟨rfl, rfl⟩))))) p69
        have t70 := p69 86 1 (fun h => absurd h.2 (by decide))
        have t71 := p69 86 2 (fun h => absurd h.2 (by decide))
        have t72 := p69 86 9 (fun h => absurd h.2 (by decide))
        have t73 := p69 86 17 (fun h => absurd h.2 (by decide))
        have t74 := p69 6 1 (fun h => absurd h.2 (by decide))
        have t75 := p69 96 (Int.toNat v2_9) (fun h => absurd h.1 (by decide))
        have f76 := (show (-1) ≤ I68 86 16 ∧ I68 86 16 ≤ 301 from gc_in hI68 R_86 rfl rfl)
        show gv_X _ _ (129, [(0, .inr (.inr (some 86))), (1, .inl a1), (2, .inl v2_9), (3, .inr (.inl v3_9))], [], sh, gc_h sh I68 J8 A)
        refine gv_run 1 true hD (pc' := 130) (lv' := [(0, .inr (.inr (some 86))), (1, .inl a1), (2, .inl v2_9), (3, .inr (.inl v3_9))]) (st' := [.inl (-1)]) (h' := gc_h sh I68 J8 A) (C := (True ∧ True)) rfl ⟨trivial, trivial⟩ ?_
        exact gv_iret hD rfl ⟨I68, J8, rfl, hI68, FI68, FJ8, ⟨_, rfl, by exact gz_m 50 (by omega), by exact gz_m 51 (by omega), (by rw [show J8 = J from funext fun q => funext fun j => (FJ8 q j).resolve_left id]; exact gc_OP_fr (m := Int.toNat v2_9) x0 (by exact gz_m 52 (by omega)) (fun k => (FI68 95 k).resolve_left (by exact gz_m 53 (by omega))) (fun k => (FI68 98 k).resolve_left (by exact gz_m 54 (by omega))) (fun k hk => (FI68 96 k).resolve_left (by exact gz_m 55 (by omega))) (fun h => by exact gz_m 56 (by omega))), by exact gz_m 57 (by omega), by exact gz_m 58 (by omega)⟩⟩
    · show gv_X _ _ (53, [(0, .inr (.inr (some 86))), (1, .inl a1), (2, .inl v2_9), (3, .inr (.inl v3_9))], [.inl v2_9, .inr (.inr (some 97))], sh, gc_h sh I7 J8 A)
      refine gv_run 1 true hD (pc' := 54) (lv' := [(0, .inr (.inr (some 86))), (1, .inl a1), (2, .inl v2_9), (3, .inr (.inl v3_9))]) (st' := [.inr (.inr (some 86)), .inl v2_9, .inr (.inr (some 97))]) (h' := gc_h sh I7 J8 A) (C := (True ∧ True)) rfl ⟨trivial, trivial⟩ ?_
      refine gv_get hD rfl rfl S_86 ⟨by decide, B_86⟩ (gc_hA S_86 rfl A_86_13) ?_
      show gv_X _ _ (57, [(0, .inr (.inr (some 86))), (1, .inl a1), (2, .inl v2_9), (3, .inr (.inl v3_9))], [.inr (.inr (some 97)), .inl v2_9, .inr (.inr (some 97))], sh, gc_h sh I7 J8 A)
      refine gv_run 1 true hD (pc' := 58) (lv' := [(0, .inr (.inr (some 86))), (1, .inl a1), (2, .inl v2_9), (3, .inr (.inl v3_9))]) (st' := [.inl v2_9, .inr (.inr (some 97)), .inl v2_9, .inr (.inr (some 97))]) (h' := gc_h sh I7 J8 A) (C := (True ∧ True)) rfl ⟨trivial, trivial⟩ ?_
      have f77 := (show 0 ≤ I7 97 (Int.toNat v2_9) ∧ I7 97 (Int.toNat v2_9) ≤ 1 from gc_in hI7 R_97 rfl rfl)
      refine gv_iald hD rfl S_97 rfl ⟨by decide, B_97⟩ ⟨by exact gz_m 59 (by omega), by exact gz_m 60 (by omega)⟩ (gc_iI S_97 rfl) ?_
      show gv_X _ _ (59, [(0, .inr (.inr (some 86))), (1, .inl a1), (2, .inl v2_9), (3, .inr (.inl v3_9))], [.inl (I7 97 (Int.toNat v2_9)), .inl v2_9, .inr (.inr (some 97))], sh, gc_h sh I7 J8 A)
      have f78 := gw_andl (x := ((I7 97 (Int.toNat v2_9)))) (y := a1) ⟨by exact gz_m 61 (by omega), by exact gz_m 62 (by omega)⟩
      refine gv_run 3 true hD (pc' := 72) (lv' := [(0, .inr (.inr (some 86))), (1, .inl a1), (2, .inl v2_9), (3, .inr (.inl v3_9))]) (st' := [.inl ((Int32.ofInt ((I7 97 (Int.toNat v2_9))) &&& Int32.ofInt a1).toInt), .inl v2_9, .inr (.inr (some 97))]) (h' := gc_h sh I7 J8 A) (C := (((True ∧ True) ∧ True) ∧ True)) rfl ⟨⟨⟨trivial, trivial⟩, trivial⟩, trivial⟩ ?_
      refine gv_iast hD rfl S_97 ⟨by decide, B_97⟩ ⟨by exact gz_m 63 (by omega), by exact gz_m 64 (by omega)⟩ ?_
      refine gc_st hI7 S_97 rfl R_97 (lo := 0) (hi := 1) rfl rfl (by exact gz_m 65 (by omega)) (by exact gz_m 66 (by omega)) (fun I79 hI79 q80 p80 => ?_)
      have FI79 := gc_frs (W := fun q j => (q = 96 ∧ j = (Int.toNat (((I 86 9) - 1)))) ∨ q = 97 ∨ q = 99 ∨ (q = 86 ∧ j = 9) ∨ (q = 86 ∧ j = 16) ∨ (q = 86 ∧ j = 17)) FI7 (Or.inr (Or.inl rfl)) p80
      have t81 := p80 86 1 (fun h => absurd h.1 (by decide))
      have t82 := p80 86 2 (fun h => absurd h.1 (by decide))
      have t83 := p80 86 9 (fun h => absurd h.1 (by decide))
      have t84 := p80 86 16 (fun h => absurd h.1 (by decide))
      have t85 := p80 86 17 (fun h => absurd h.1 (by decide))
      have t86 := p80 6 1 (fun h => absurd h.1 (by decide))
      have t87 := p80 96 (Int.toNat v2_9) (fun h => absurd h.1 (by decide))
      show gv_X _ _ (73, [(0, .inr (.inr (some 86))), (1, .inl a1), (2, .inl v2_9), (3, .inr (.inl v3_9))], [], sh, gc_h sh I79 J8 A)
      refine gv_run 1 true hD (pc' := 74) (lv' := [(0, .inr (.inr (some 86))), (1, .inl a1), (2, .inl v2_9), (3, .inr (.inl v3_9))]) (st' := [.inr (.inr (some 86))]) (h' := gc_h sh I79 J8 A) (C := (True ∧ True)) rfl ⟨trivial, trivial⟩ ?_
      refine gv_get hD rfl rfl S_86 ⟨by decide, B_86⟩ (gc_hA S_86 rfl A_86_12) ?_
      show gv_X _ _ (77, [(0, .inr (.inr (some 86))), (1, .inl a1), (2, .inl v2_9), (3, .inr (.inl v3_9))], [.inr (.inr (some 96))], sh, gc_h sh I79 J8 A)
      refine gv_run 1 true hD (pc' := 78) (lv' := [(0, .inr (.inr (some 86))), (1, .inl a1), (2, .inl v2_9), (3, .inr (.inl v3_9))]) (st' := [.inl v2_9, .inr (.inr (some 96))]) (h' := gc_h sh I79 J8 A) (C := (True ∧ True)) rfl ⟨trivial, trivial⟩ ?_
      have f88 := (show 0 ≤ I79 96 (Int.toNat v2_9) ∧ I79 96 (Int.toNat v2_9) ≤ 9 from gc_in hI79 R_96 rfl rfl)
      refine gv_iald hD rfl S_96 rfl ⟨by decide, B_96⟩ ⟨by exact gz_m 67 (by omega), by exact gz_m 68 (by omega)⟩ (gc_iI S_96 rfl) ?_
      show gv_X _ _ (79, [(0, .inr (.inr (some 86))), (1, .inl a1), (2, .inl v2_9), (3, .inr (.inl v3_9))], [.inl (I79 96 (Int.toNat v2_9))], sh, gc_h sh I79 J8 A)
      refine gv_run 1 true hD (pc' := 80) (lv' := [(0, .inr (.inr (some 86))), (1, .inl a1), (2, .inl v2_9), (3, .inr (.inl v3_9))]) (st' := [.inr (.inr (some 86)), .inl (I79 96 (Int.toNat v2_9))]) (h' := gc_h sh I79 J8 A) (C := (True ∧ True)) rfl ⟨trivial, trivial⟩ ?_
      refine gv_get hD rfl rfl S_86 ⟨by decide, B_86⟩ (gc_hA S_86 rfl A_86_0) ?_
      show gv_X _ _ (83, [(0, .inr (.inr (some 86))), (1, .inl a1), (2, .inl v2_9), (3, .inr (.inl v3_9))], [.inr (.inr (some 1)), .inl (I79 96 (Int.toNat v2_9))], sh, gc_h sh I79 J8 A)
      refine gv_get hD rfl rfl S_1 ⟨by decide, B_1⟩ (gc_hA S_1 rfl A_1_2) ?_
      show gv_X _ _ (86, [(0, .inr (.inr (some 86))), (1, .inl a1), (2, .inl v2_9), (3, .inr (.inl v3_9))], [.inr (.inr (some 6)), .inl (I79 96 (Int.toNat v2_9))], sh, gc_h sh I79 J8 A)
      have f89 := (show 0 ≤ I79 6 1 ∧ I79 6 1 ≤ 8 from gc_in hI79 R_6 rfl rfl)
      refine gv_get hD rfl rfl S_6 ⟨by decide, B_6⟩ (gc_hI S_6 rfl) ?_
      show gv_X _ _ (89, [(0, .inr (.inr (some 86))), (1, .inl a1), (2, .inl v2_9), (3, .inr (.inl v3_9))], [.inl (I79 6 1), .inl (I79 96 (Int.toNat v2_9))], sh, gc_h sh I79 J8 A)
      refine gv_icmp_ge (t := 131) hD rfl rfl ⟨⟨by exact gz_m 69 (by omega), by exact gz_m 70 (by omega)⟩, ⟨by exact gz_m 71 (by omega), by exact gz_m 72 (by omega)⟩⟩ (fun c90 => ?_) (fun c90 => ?_)
      · show gv_X _ _ (131, [(0, .inr (.inr (some 86))), (1, .inl a1), (2, .inl v2_9), (3, .inr (.inl v3_9))], [], sh, gc_h sh I79 J8 A)
        refine gv_run 2 true hD (pc' := 133) (lv' := [(0, .inr (.inr (some 86))), (1, .inl a1), (2, .inl v2_9), (3, .inr (.inl v3_9))]) (st' := [.inr (.inr (some 86)), .inr (.inr (some 86))]) (h' := gc_h sh I79 J8 A) (C := ((True ∧ True) ∧ True)) rfl ⟨⟨trivial, trivial⟩, trivial⟩ ?_
        have f91 := (show 0 ≤ I79 86 9 ∧ I79 86 9 ≤ 300 from gc_in hI79 R_86 rfl rfl)
        refine gv_get hD rfl rfl S_86 ⟨by decide, B_86⟩ (gc_hI S_86 rfl) ?_
        show gv_X _ _ (136, [(0, .inr (.inr (some 86))), (1, .inl a1), (2, .inl v2_9), (3, .inr (.inl v3_9))], [.inl (I79 86 9), .inr (.inr (some 86))], sh, gc_h sh I79 J8 A)
        refine gv_run 2 true hD (pc' := 138) (lv' := [(0, .inr (.inr (some 86))), (1, .inl a1), (2, .inl v2_9), (3, .inr (.inl v3_9))]) (st' := [.inl ((I79 86 9) - 1), .inr (.inr (some 86))]) (h' := gc_h sh I79 J8 A) (C := ((True ∧ True) ∧ True)) rfl ⟨⟨trivial, trivial⟩, trivial⟩ ?_
        refine gv_put hD rfl rfl S_86 ⟨by decide, B_86⟩ rfl trivial ?_
        refine gc_st (k := 9) hI79 S_86 rfl R_86 (lo := 0) (hi := 300) rfl rfl (by exact gz_m 73 (by omega)) (by exact gz_m 74 (by omega)) (fun I92 hI92 q93 p93 => ?_)
        have FI92 := gc_frs (W := fun q j => (q = 96 ∧ j = (Int.toNat (((I 86 9) - 1)))) ∨ q = 97 ∨ q = 99 ∨ (q = 86 ∧ j = 9) ∨ (q = 86 ∧ j = 16) ∨ (q = 86 ∧ j = 17)) FI79 (Or.inr (Or.inr (Or.inr (Or.inl ⟨rfl, rfl⟩)))) p93
        have t94 := p93 86 1 (fun h => absurd h.2 (by decide))
        have t95 := p93 86 2 (fun h => absurd h.2 (by decide))
        have t96 := p93 86 16 (fun h => absurd h.2 (by decide))
        have t97 := p93 86 17 (fun h => absurd h.2 (by decide))
        have t98 := p93 6 1 (fun h => absurd h.2 (by decide))
        have t99 := p93 96 (Int.toNat v2_9) (fun h => absurd h.1 (by decide))
        have f100 := (show 0 ≤ I92 86 9 ∧ I92 86 9 ≤ 300 from gc_in hI92 R_86 rfl rfl)
        show gv_X _ _ (141, [(0, .inr (.inr (some 86))), (1, .inl a1), (2, .inl v2_9), (3, .inr (.inl v3_9))], [], sh, gc_h sh I92 J8 A)
        refine gv_run 1 true hD (pc' := 142) (lv' := [(0, .inr (.inr (some 86))), (1, .inl a1), (2, .inl v2_9), (3, .inr (.inl v3_9))]) (st' := [.inr (.inr (some 86))]) (h' := gc_h sh I92 J8 A) (C := (True ∧ True)) rfl ⟨trivial, trivial⟩ ?_
        refine gv_get hD rfl rfl S_86 ⟨by decide, B_86⟩ (gc_hA S_86 rfl A_86_13) ?_
        show gv_X _ _ (145, [(0, .inr (.inr (some 86))), (1, .inl a1), (2, .inl v2_9), (3, .inr (.inl v3_9))], [.inr (.inr (some 97))], sh, gc_h sh I92 J8 A)
        refine gv_run 1 true hD (pc' := 146) (lv' := [(0, .inr (.inr (some 86))), (1, .inl a1), (2, .inl v2_9), (3, .inr (.inl v3_9))]) (st' := [.inl v2_9, .inr (.inr (some 97))]) (h' := gc_h sh I92 J8 A) (C := (True ∧ True)) rfl ⟨trivial, trivial⟩ ?_
        have f101 := (show 0 ≤ I92 97 (Int.toNat v2_9) ∧ I92 97 (Int.toNat v2_9) ≤ 1 from gc_in hI92 R_97 rfl rfl)
        refine gv_iald hD rfl S_97 rfl ⟨by decide, B_97⟩ ⟨by exact gz_m 75 (by omega), by exact gz_m 76 (by omega)⟩ (gc_iI S_97 rfl) ?_
        show gv_X _ _ (147, [(0, .inr (.inr (some 86))), (1, .inl a1), (2, .inl v2_9), (3, .inr (.inl v3_9))], [.inl (I92 97 (Int.toNat v2_9))], sh, gc_h sh I92 J8 A)
        exact gv_iret hD rfl ⟨I92, J8, rfl, hI92, FI92, FJ8, ⟨_, rfl, by exact gz_m 77 (by omega), by exact gz_m 78 (by omega), (by rw [show J8 = J from funext fun q => funext fun j => (FJ8 q j).resolve_left id]; exact gc_OP_fr (m := Int.toNat v2_9) x0 (by exact gz_m 79 (by omega)) (fun k => (FI92 95 k).resolve_left (by exact gz_m 80 (by omega))) (fun k => (FI92 98 k).resolve_left (by exact gz_m 81 (by omega))) (fun k hk => (FI92 96 k).resolve_left (by exact gz_m 82 (by omega))) (fun h => by exact gz_m 83 (by omega))), by exact gz_m 84 (by omega), by exact gz_m 85 (by omega)⟩⟩
      · show gv_X _ _ (92, [(0, .inr (.inr (some 86))), (1, .inl a1), (2, .inl v2_9), (3, .inr (.inl v3_9))], [], sh, gc_h sh I79 J8 A)
        refine gv_run 1 true hD (pc' := 93) (lv' := [(0, .inr (.inr (some 86))), (1, .inl a1), (2, .inl v2_9), (3, .inr (.inl v3_9))]) (st' := [.inr (.inr (some 86))]) (h' := gc_h sh I79 J8 A) (C := (True ∧ True)) rfl ⟨trivial, trivial⟩ ?_
        refine gv_get hD rfl rfl S_86 ⟨by decide, B_86⟩ (gc_hA S_86 rfl A_86_15) ?_
        show gv_X _ _ (96, [(0, .inr (.inr (some 86))), (1, .inl a1), (2, .inl v2_9), (3, .inr (.inl v3_9))], [.inr (.inr (some 99))], sh, gc_h sh I79 J8 A)
        refine gv_run 1 true hD (pc' := 97) (lv' := [(0, .inr (.inr (some 86))), (1, .inl a1), (2, .inl v2_9), (3, .inr (.inl v3_9))]) (st' := [.inr (.inr (some 86)), .inr (.inr (some 99))]) (h' := gc_h sh I79 J8 A) (C := (True ∧ True)) rfl ⟨trivial, trivial⟩ ?_
        refine gv_get hD rfl rfl S_86 ⟨by decide, B_86⟩ (gc_hA S_86 rfl A_86_14) ?_
        show gv_X _ _ (100, [(0, .inr (.inr (some 86))), (1, .inl a1), (2, .inl v2_9), (3, .inr (.inl v3_9))], [.inr (.inr (some 98)), .inr (.inr (some 99))], sh, gc_h sh I79 J8 A)
        refine gv_run 1 true hD (pc' := 101) (lv' := [(0, .inr (.inr (some 86))), (1, .inl a1), (2, .inl v2_9), (3, .inr (.inl v3_9))]) (st' := [.inl v2_9, .inr (.inr (some 98)), .inr (.inr (some 99))]) (h' := gc_h sh I79 J8 A) (C := (True ∧ True)) rfl ⟨trivial, trivial⟩ ?_
        have t102 := (FI79 98 (Int.toNat v2_9)).resolve_left (by exact gz_m 86 (by omega))
        have f103 := (show 0 ≤ I79 98 (Int.toNat v2_9) ∧ I79 98 (Int.toNat v2_9) ≤ 300 from gc_in hI79 R_98 rfl rfl)
        refine gv_iald hD rfl S_98 rfl ⟨by decide, B_98⟩ ⟨by exact gz_m 87 (by omega), by exact gz_m 88 (by omega)⟩ (gc_iI S_98 rfl) ?_
        show gv_X _ _ (102, [(0, .inr (.inr (some 86))), (1, .inl a1), (2, .inl v2_9), (3, .inr (.inl v3_9))], [.inl (I79 98 (Int.toNat v2_9)), .inr (.inr (some 99))], sh, gc_h sh I79 J8 A)
        refine gv_run 1 true hD (pc' := 103) (lv' := [(0, .inr (.inr (some 86))), (1, .inl a1), (2, .inl v2_9), (3, .inr (.inl v3_9))]) (st' := [.inr (.inr (some 86)), .inl (I79 98 (Int.toNat v2_9)), .inr (.inr (some 99))]) (h' := gc_h sh I79 J8 A) (C := (True ∧ True)) rfl ⟨trivial, trivial⟩ ?_
        refine gv_get hD rfl rfl S_86 ⟨by decide, B_86⟩ (gc_hA S_86 rfl A_86_12) ?_
        show gv_X _ _ (106, [(0, .inr (.inr (some 86))), (1, .inl a1), (2, .inl v2_9), (3, .inr (.inl v3_9))], [.inr (.inr (some 96)), .inl (I79 98 (Int.toNat v2_9)), .inr (.inr (some 99))], sh, gc_h sh I79 J8 A)
        refine gv_run 1 true hD (pc' := 107) (lv' := [(0, .inr (.inr (some 86))), (1, .inl a1), (2, .inl v2_9), (3, .inr (.inl v3_9))]) (st' := [.inl v2_9, .inr (.inr (some 96)), .inl (I79 98 (Int.toNat v2_9)), .inr (.inr (some 99))]) (h' := gc_h sh I79 J8 A) (C := (True ∧ True)) rfl ⟨trivial, trivial⟩ ?_
        have f104 := (show 0 ≤ I79 96 (Int.toNat v2_9) ∧ I79 96 (Int.toNat v2_9) ≤ 9 from gc_in hI79 R_96 rfl rfl)
        refine gv_iald hD rfl S_96 rfl ⟨by decide, B_96⟩ ⟨by exact gz_m 89 (by omega), by exact gz_m 90 (by omega)⟩ (gc_iI S_96 rfl) ?_
        show gv_X _ _ (108, [(0, .inr (.inr (some 86))), (1, .inl a1), (2, .inl v2_9), (3, .inr (.inl v3_9))], [.inl (I79 96 (Int.toNat v2_9)), .inl (I79 98 (Int.toNat v2_9)), .inr (.inr (some 99))], sh, gc_h sh I79 J8 A)
        refine gv_iast hD rfl S_99 ⟨by decide, B_99⟩ ⟨by exact gz_m 91 (by omega), by exact gz_m 92 (by omega)⟩ ?_
        refine gc_st hI79 S_99 rfl R_99 (lo := 0) (hi := 8) rfl rfl (by exact gz_m 93 (by omega)) (by exact gz_m 94 (by omega)) (fun I105 hI105 q106 p106 => ?_)
        have FI105 := gc_frs (W := fun q j => (q = 96 ∧ j = (Int.toNat (((I 86 9) - 1)))) ∨ q = 97 ∨ q = 99 ∨ (q = 86 ∧ j = 9) ∨ (q = 86 ∧ j = 16) ∨ (q = 86 ∧ j = 17)) FI79 (Or.inr (Or.inr (Or.inl rfl))) p106
        have t107 := p106 86 1 (fun h => absurd h.1 (by decide))
        have t108 := p106 86 2 (fun h => absurd h.1 (by decide))
        have t109 := p106 86 9 (fun h => absurd h.1 (by decide))
        have t110 := p106 86 16 (fun h => absurd h.1 (by decide))
        have t111 := p106 86 17 (fun h => absurd h.1 (by decide))
        have t112 := p106 6 1 (fun h => absurd h.1 (by decide))
        have t113 := p106 96 (Int.toNat v2_9) (fun h => absurd h.1 (by decide))
        show gv_X _ _ (109, [(0, .inr (.inr (some 86))), (1, .inl a1), (2, .inl v2_9), (3, .inr (.inl v3_9))], [], sh, gc_h sh I105 J8 A)
        refine gv_run 2 true hD (pc' := 111) (lv' := [(0, .inr (.inr (some 86))), (1, .inl a1), (2, .inl v2_9), (3, .inr (.inl v3_9))]) (st' := [.inr (.inr (some 86)), .inr (.inr (some 86))]) (h' := gc_h sh I105 J8 A) (C := ((True ∧ True) ∧ True)) rfl ⟨⟨trivial, trivial⟩, trivial⟩ ?_
        refine gv_get hD rfl rfl S_86 ⟨by decide, B_86⟩ (gc_hA S_86 rfl A_86_14) ?_
        show gv_X _ _ (114, [(0, .inr (.inr (some 86))), (1, .inl a1), (2, .inl v2_9), (3, .inr (.inl v3_9))], [.inr (.inr (some 98)), .inr (.inr (some 86))], sh, gc_h sh I105 J8 A)
        refine gv_run 1 true hD (pc' := 115) (lv' := [(0, .inr (.inr (some 86))), (1, .inl a1), (2, .inl v2_9), (3, .inr (.inl v3_9))]) (st' := [.inl v2_9, .inr (.inr (some 98)), .inr (.inr (some 86))]) (h' := gc_h sh I105 J8 A) (C := (True ∧ True)) rfl ⟨trivial, trivial⟩ ?_
        have t114 := (FI105 98 (Int.toNat v2_9)).resolve_left (by exact gz_m 95 (by omega))
        have f115 := (show 0 ≤ I105 98 (Int.toNat v2_9) ∧ I105 98 (Int.toNat v2_9) ≤ 300 from gc_in hI105 R_98 rfl rfl)
        refine gv_iald hD rfl S_98 rfl ⟨by decide, B_98⟩ ⟨by exact gz_m 96 (by omega), by exact gz_m 97 (by omega)⟩ (gc_iI S_98 rfl) ?_
        show gv_X _ _ (116, [(0, .inr (.inr (some 86))), (1, .inl a1), (2, .inl v2_9), (3, .inr (.inl v3_9))], [.inl (I105 98 (Int.toNat v2_9)), .inr (.inr (some 86))], sh, gc_h sh I105 J8 A)
        refine gv_put hD rfl rfl S_86 ⟨by decide, B_86⟩ rfl trivial ?_
        refine gc_st (k := 17) hI105 S_86 rfl R_86 (lo := 0) (hi := 300) rfl rfl (by exact gz_m 98 (by omega)) (by exact gz_m 99 (by omega)) (fun I116 hI116 q117 p117 => ?_)
        have FI116 := gc_frs (W := fun q j => (q = 96 ∧ j = (Int.toNat (((I 86 9) - 1)))) ∨ q = 97 ∨ q = 99 ∨ (q = 86 ∧ j = 9) ∨ (q = 86 ∧ j = 16) ∨ (q = 86 ∧ j = 17)) FI105 (Or.inr (Or.inr (Or.inr (Or.inr (Or.inr ⟨rfl, rfl⟩))))) p117
        have t118 := p117 86 1 (fun h => absurd h.2 (by decide))
        have t119 := p117 86 2 (fun h => absurd h.2 (by decide))
        have t120 := p117 86 9 (fun h => absurd h.2 (by decide))
        have t121 := p117 86 16 (fun h => absurd h.2 (by decide))
        have t122 := p117 6 1 (fun h => absurd h.2 (by decide))
        have t123 := p117 96 (Int.toNat v2_9) (fun h => absurd h.1 (by decide))
        have f124 := (show 0 ≤ I116 86 17 ∧ I116 86 17 ≤ 300 from gc_in hI116 R_86 rfl rfl)
        show gv_X _ _ (119, [(0, .inr (.inr (some 86))), (1, .inl a1), (2, .inl v2_9), (3, .inr (.inl v3_9))], [], sh, gc_h sh I116 J8 A)
        refine gv_run 2 true hD (pc' := 121) (lv' := [(0, .inr (.inr (some 86))), (1, .inl a1), (2, .inl v2_9), (3, .inr (.inl v3_9))]) (st' := [.inr (.inr (some 86)), .inr (.inr (some 86))]) (h' := gc_h sh I116 J8 A) (C := ((True ∧ True) ∧ True)) rfl ⟨⟨trivial, trivial⟩, trivial⟩ ?_
        refine gv_get hD rfl rfl S_86 ⟨by decide, B_86⟩ (gc_hA S_86 rfl A_86_11) ?_
        show gv_X _ _ (124, [(0, .inr (.inr (some 86))), (1, .inl a1), (2, .inl v2_9), (3, .inr (.inl v3_9))], [.inr (.inr (some 95)), .inr (.inr (some 86))], sh, gc_h sh I116 J8 A)
        refine gv_run 1 true hD (pc' := 125) (lv' := [(0, .inr (.inr (some 86))), (1, .inl a1), (2, .inl v2_9), (3, .inr (.inl v3_9))]) (st' := [.inl v2_9, .inr (.inr (some 95)), .inr (.inr (some 86))]) (h' := gc_h sh I116 J8 A) (C := (True ∧ True)) rfl ⟨trivial, trivial⟩ ?_
        have t125 := (FI116 95 (Int.toNat v2_9)).resolve_left (by exact gz_m 100 (by omega))
        have f126 := (show (-1) ≤ I116 95 (Int.toNat v2_9) ∧ I116 95 (Int.toNat v2_9) ≤ 300 from gc_in hI116 R_95 rfl rfl)
        refine gv_iald hD rfl S_95 rfl ⟨by decide, B_95⟩ ⟨by exact gz_m 101 (by omega), by exact gz_m 102 (by omega)⟩ (gc_iI S_95 rfl) ?_
        show gv_X _ _ (126, [(0, .inr (.inr (some 86))), (1, .inl a1), (2, .inl v2_9), (3, .inr (.inl v3_9))], [.inl (I116 95 (Int.toNat v2_9)), .inr (.inr (some 86))], sh, gc_h sh I116 J8 A)
        refine gv_put hD rfl rfl S_86 ⟨by decide, B_86⟩ rfl trivial ?_
        refine gc_st (k := 16) hI116 S_86 rfl R_86 (lo := (-1)) (hi := 301) rfl rfl (by exact gz_m 103 (by omega)) (by exact gz_m 104 (by omega)) (fun I127 hI127 q128 p128 => ?_)
        have FI127 := gc_frs (W := fun q j => (q = 96 ∧ j = (Int.toNat (((I 86 9) - 1)))) ∨ q = 97 ∨ q = 99 ∨ (q = 86 ∧ j = 9) ∨ (q = 86 ∧ j = 16) ∨ (q = 86 ∧ j = 17)) FI116 (Or.inr (Or.inr (Or.inr (Or.inr (Or.inl ⟨rfl, rfl⟩))))) p128
        have t129 := p128 86 1 (fun h => absurd h.2 (by decide))
        have t130 := p128 86 2 (fun h => absurd h.2 (by decide))
        have t131 := p128 86 9 (fun h => absurd h.2 (by decide))
        have t132 := p128 86 17 (fun h => absurd h.2 (by decide))
        have t133 := p128 6 1 (fun h => absurd h.2 (by decide))
        have t134 := p128 96 (Int.toNat v2_9) (fun h => absurd h.1 (by decide))
        have f135 := (show (-1) ≤ I127 86 16 ∧ I127 86 16 ≤ 301 from gc_in hI127 R_86 rfl rfl)
        show gv_X _ _ (129, [(0, .inr (.inr (some 86))), (1, .inl a1), (2, .inl v2_9), (3, .inr (.inl v3_9))], [], sh, gc_h sh I127 J8 A)
        refine gv_run 1 true hD (pc' := 130) (lv' := [(0, .inr (.inr (some 86))), (1, .inl a1), (2, .inl v2_9), (3, .inr (.inl v3_9))]) (st' := [.inl (-1)]) (h' := gc_h sh I127 J8 A) (C := (True ∧ True)) rfl ⟨trivial, trivial⟩ ?_
        exact gv_iret hD rfl ⟨I127, J8, rfl, hI127, FI127, FJ8, ⟨_, rfl, by exact gz_m 105 (by omega), by exact gz_m 106 (by omega), (by rw [show J8 = J from funext fun q => funext fun j => (FJ8 q j).resolve_left id]; exact gc_OP_fr (m := Int.toNat v2_9) x0 (by exact gz_m 107 (by omega)) (fun k => (FI127 95 k).resolve_left (by exact gz_m 108 (by omega))) (fun k => (FI127 98 k).resolve_left (by exact gz_m 109 (by omega))) (fun k hk => (FI127 96 k).resolve_left (by exact gz_m 110 (by omega))) (fun h => by exact gz_m 111 (by omega))), by exact gz_m 112 (by omega), by exact gz_m 113 (by omega)⟩⟩
  have L195 : ∀ (I136 : gr_I) (J137 : gr_J) (v2_138 : Int) (v3_138 : Int64), gc_Inv ro I136 → (∀ q j : Nat, ((q = 96 ∧ j = (Int.toNat (((I 86 9) - 1)))) ∨ q = 97 ∨ q = 99 ∨ (q = 86 ∧ j = 9) ∨ (q = 86 ∧ j = 16) ∨ (q = 86 ∧ j = 17)) ∨ I136 q j = I q j) → (∀ q j : Nat, (False) ∨ J137 q j = J q j) → ((0 ≤ a1 ∧ a1 ≤ 1) ∧ ((-1) ≤ v2_138 ∧ v2_138 ≤ 299) ∧ (v2_138 = I 86 9 - 1) ∧ (I136 86 9 = I 86 9) ∧ (I136 96 (Int.toNat v2_138) = I 96 (Int.toNat v2_138) + 1) ∧ (I 96 (Int.toNat v2_138) ≤ 7) ∧ (I 98 (Int.toNat v2_138) ≤ v2_138 + 1)) → (v3_138 = J 94 (Int.toNat v2_138)) → gv_X (gc_E10 ws0 tb 0 (yX10_goOn, cX10_goOn, 5, (some .int)) kX10_goOn) (gv_Q cX10_goOn (some .int) sh (fun r h' => (∃ (I' : gr_I) (J' : gr_J), h' = gc_h sh I' J' A ∧ gc_Inv ro I' ∧ (∀ q j : Nat, ((q = 96 ∧ j = (Int.toNat (((I 86 9) - 1)))) ∨ q = 97 ∨ q = 99 ∨ (q = 86 ∧ j = 9) ∨ (q = 86 ∧ j = 16) ∨ (q = 86 ∧ j = 17)) ∨ I' q j = I q j) ∧ (∀ q j : Nat, (False) ∨ J' q j = J q j) ∧ (∃ z : Int, r = some (.inl z) ∧ (-1) ≤ z ∧ z ≤ 1 ∧ (gc_OP J' I') ∧ (0 ≤ z ∨ (I' 86 17 ≤ I' 86 9 ∧ I' 86 9 ≤ I' 86 16)) ∧ (I' 86 9 ≤ I 86 9))))) (195, [(0, .inr (.inr (some 86))), (1, .inl a1), (2, .inl v2_138), (3, .inr (.inl v3_138))], [], sh, gc_h sh I136 J137 A) := by
    intro I136 J137 v2_138 v3_138 hI136 FI136 FJ137 m_138 e5_138
    obtain ⟨ha1_138, hv2_138, e0_138, e1_138, e2_138, e3_138, e4_138⟩ := m_138
    have f139 := (show 0 ≤ I136 86 1 ∧ I136 86 1 ≤ 300 from gc_in hI136 R_86 rfl rfl)
    have f140 := (show 0 ≤ I136 86 2 ∧ I136 86 2 ≤ 1 from gc_in hI136 R_86 rfl rfl)
    have f141 := (show 0 ≤ I136 86 9 ∧ I136 86 9 ≤ 300 from gc_in hI136 R_86 rfl rfl)
    have f142 := (show (-1) ≤ I136 86 16 ∧ I136 86 16 ≤ 301 from gc_in hI136 R_86 rfl rfl)
    have f143 := (show 0 ≤ I136 86 17 ∧ I136 86 17 ≤ 300 from gc_in hI136 R_86 rfl rfl)
    have f144 := (show 0 ≤ I136 6 1 ∧ I136 6 1 ≤ 8 from gc_in hI136 R_6 rfl rfl)
    have L263 : ∀ (I145 : gr_I) (J146 : gr_J) (s0_147 : Int), gc_Inv ro I145 → (∀ q j : Nat, ((q = 96 ∧ j = (Int.toNat (((I 86 9) - 1)))) ∨ q = 97 ∨ q = 99 ∨ (q = 86 ∧ j = 9) ∨ (q = 86 ∧ j = 16) ∨ (q = 86 ∧ j = 17)) ∨ I145 q j = I q j) → (∀ q j : Nat, (False) ∨ J146 q j = J q j) → ((0 ≤ s0_147 ∧ s0_147 ≤ 1) ∧ (I145 86 9 = I 86 9 - 1)) → gv_X (gc_E10 ws0 tb 0 (yX10_goOn, cX10_goOn, 5, (some .int)) kX10_goOn) (gv_Q cX10_goOn (some .int) sh (fun r h' => (∃ (I' : gr_I) (J' : gr_J), h' = gc_h sh I' J' A ∧ gc_Inv ro I' ∧ (∀ q j : Nat, ((q = 96 ∧ j = (Int.toNat (((I 86 9) - 1)))) ∨ q = 97 ∨ q = 99 ∨ (q = 86 ∧ j = 9) ∨ (q = 86 ∧ j = 16) ∨ (q = 86 ∧ j = 17)) ∨ I' q j = I q j) ∧ (∀ q j : Nat, (False) ∨ J' q j = J q j) ∧ (∃ z : Int, r = some (.inl z) ∧ (-1) ≤ z ∧ z ≤ 1 ∧ (gc_OP J' I') ∧ (0 ≤ z ∨ (I' 86 17 ≤ I' 86 9 ∧ I' 86 9 ≤ I' 86 16)) ∧ (I' 86 9 ≤ I 86 9))))) (263, [], [.inl s0_147], sh, gc_h sh I145 J146 A) := by
      intro I145 J146 s0_147 hI145 FI145 FJ146 m_147
      clear ha1_138 hv2_138 e0_138 e1_138 e2_138 e3_138 e4_138 f139 f140 f141 f142 f143 f144
      obtain ⟨hs0_147, e0_147⟩ := m_147
      have f148 := (show 0 ≤ I145 86 1 ∧ I145 86 1 ≤ 300 from gc_in hI145 R_86 rfl rfl)
      have f149 := (show 0 ≤ I145 86 2 ∧ I145 86 2 ≤ 1 from gc_in hI145 R_86 rfl rfl)
      have f150 := (show 0 ≤ I145 86 9 ∧ I145 86 9 ≤ 300 from gc_in hI145 R_86 rfl rfl)
      have f151 := (show (-1) ≤ I145 86 16 ∧ I145 86 16 ≤ 301 from gc_in hI145 R_86 rfl rfl)
      have f152 := (show 0 ≤ I145 86 17 ∧ I145 86 17 ≤ 300 from gc_in hI145 R_86 rfl rfl)
      have f153 := (show 0 ≤ I145 6 1 ∧ I145 6 1 ≤ 8 from gc_in hI145 R_6 rfl rfl)
      exact gv_iret hD rfl ⟨I145, J146, rfl, hI145, FI145, FJ146, ⟨_, rfl, by exact gz_m 114 (by omega), by exact gz_m 115 (by omega), (by rw [show J146 = J from funext fun q => funext fun j => (FJ146 q j).resolve_left id]; exact gc_OP_fr (m := Int.toNat (I 86 9 - 1)) x0 (by exact gz_m 116 (by omega)) (fun k => (FI145 95 k).resolve_left (by exact gz_m 117 (by omega))) (fun k => (FI145 98 k).resolve_left (by exact gz_m 118 (by omega))) (fun k hk => (FI145 96 k).resolve_left (by exact gz_m 119 (by omega))) (fun h => by exact gz_m 120 (by omega))), by exact gz_m 121 (by omega), by exact gz_m 122 (by omega)⟩⟩
    refine gv_run 2 true hD (pc' := 197) (lv' := [(0, .inr (.inr (some 86))), (1, .inl a1), (2, .inl v2_138), (3, .inr (.inl v3_138))]) (st' := [.inr (.inr (some 86)), .inr (.inr (some 86))]) (h' := gc_h sh I136 J137 A) (C := ((True ∧ True) ∧ True)) rfl ⟨⟨trivial, trivial⟩, trivial⟩ ?_
    have f154 := (show 0 ≤ I136 86 9 ∧ I136 86 9 ≤ 300 from gc_in hI136 R_86 rfl rfl)
    refine gv_get hD rfl rfl S_86 ⟨by decide, B_86⟩ (gc_hI S_86 rfl) ?_
    show gv_X _ _ (200, [(0, .inr (.inr (some 86))), (1, .inl a1), (2, .inl v2_138), (3, .inr (.inl v3_138))], [.inl (I136 86 9), .inr (.inr (some 86))], sh, gc_h sh I136 J137 A)
    refine gv_run 2 true hD (pc' := 202) (lv' := [(0, .inr (.inr (some 86))), (1, .inl a1), (2, .inl v2_138), (3, .inr (.inl v3_138))]) (st' := [.inl ((I136 86 9) - 1), .inr (.inr (some 86))]) (h' := gc_h sh I136 J137 A) (C := ((True ∧ True) ∧ True)) rfl ⟨⟨trivial, trivial⟩, trivial⟩ ?_
    refine gv_put hD rfl rfl S_86 ⟨by decide, B_86⟩ rfl trivial ?_
    refine gc_st (k := 9) hI136 S_86 rfl R_86 (lo := 0) (hi := 300) rfl rfl (by exact gz_m 123 (by omega)) (by exact gz_m 124 (by omega)) (fun I155 hI155 q156 p156 => ?_)
    have FI155 := gc_frs (W := fun q j => (q = 96 ∧ j = (Int.toNat (((I 86 9) - 1)))) ∨ q = 97 ∨ q = 99 ∨ (q = 86 ∧ j = 9) ∨ (q = 86 ∧ j = 16) ∨ (q = 86 ∧ j = 17)) FI136 (Or.inr (Or.inr (Or.inr (Or.inl ⟨rfl, rfl⟩)))) p156
    have t157 := p156 86 1 (fun h => absurd h.2 (by decide))
    have t158 := p156 86 2 (fun h => absurd h.2 (by decide))
    have t159 := p156 86 16 (fun h => absurd h.2 (by decide))
    have t160 := p156 86 17 (fun h => absurd h.2 (by decide))
    have t161 := p156 6 1 (fun h => absurd h.2 (by decide))
    have t162 := p156 96 (Int.toNat v2_138) (fun h => absurd h.1 (by decide))
    have f163 := (show 0 ≤ I155 86 9 ∧ I155 86 9 ≤ 300 from gc_in hI155 R_86 rfl rfl)
    show gv_X _ _ (205, [(0, .inr (.inr (some 86))), (1, .inl a1), (2, .inl v2_138), (3, .inr (.inl v3_138))], [], sh, gc_h sh I155 J137 A)
    have f164 := gw_cmp (v3_138) ((7237492))
    refine gv_run 3 true hD (pc' := 210) (lv' := [(0, .inr (.inr (some 86))), (1, .inl a1), (2, .inl v2_138), (3, .inr (.inl v3_138))]) (st' := [.inl ((lg_cmp (v3_138) ((7237492))).toInt)]) (h' := gc_h sh I155 J137 A) (C := (((True ∧ True) ∧ True) ∧ True)) rfl ⟨⟨⟨trivial, trivial⟩, trivial⟩, trivial⟩ ?_
    refine gv_if_ne (t := 217) hD rfl rfl ⟨by exact gz_m 125 (by omega), by exact gz_m 126 (by omega)⟩ (fun c165 => ?_) (fun c165 => ?_)
    · show gv_X _ _ (217, [(0, .inr (.inr (some 86))), (1, .inl a1), (2, .inl v2_138), (3, .inr (.inl v3_138))], [], sh, gc_h sh I155 J137 A)
      have f166 := gw_cmp (v3_138) ((6385252))
      refine gv_run 3 true hD (pc' := 222) (lv' := [(0, .inr (.inr (some 86))), (1, .inl a1), (2, .inl v2_138), (3, .inr (.inl v3_138))]) (st' := [.inl ((lg_cmp (v3_138) ((6385252))).toInt)]) (h' := gc_h sh I155 J137 A) (C := (((True ∧ True) ∧ True) ∧ True)) rfl ⟨⟨⟨trivial, trivial⟩, trivial⟩, trivial⟩ ?_
      refine gv_if_ne (t := 234) hD rfl rfl ⟨by exact gz_m 127 (by omega), by exact gz_m 128 (by omega)⟩ (fun c167 => ?_) (fun c167 => ?_)
      · show gv_X _ _ (234, [(0, .inr (.inr (some 86))), (1, .inl a1), (2, .inl v2_138), (3, .inr (.inl v3_138))], [], sh, gc_h sh I155 J137 A)
        have f168 := gw_cmp (v3_138) ((28530))
        refine gv_run 3 true hD (pc' := 239) (lv' := [(0, .inr (.inr (some 86))), (1, .inl a1), (2, .inl v2_138), (3, .inr (.inl v3_138))]) (st' := [.inl ((lg_cmp (v3_138) ((28530))).toInt)]) (h' := gc_h sh I155 J137 A) (C := (((True ∧ True) ∧ True) ∧ True)) rfl ⟨⟨⟨trivial, trivial⟩, trivial⟩, trivial⟩ ?_
        refine gv_if_ne (t := 253) hD rfl rfl ⟨by exact gz_m 129 (by omega), by exact gz_m 130 (by omega)⟩ (fun c169 => ?_) (fun c169 => ?_)
        · show gv_X _ _ (253, [(0, .inr (.inr (some 86))), (1, .inl a1), (2, .inl v2_138), (3, .inr (.inl v3_138))], [], sh, gc_h sh I155 J137 A)
          refine gv_run 2 true hD (pc' := 255) (lv' := [(0, .inr (.inr (some 86))), (1, .inl a1), (2, .inl v2_138), (3, .inr (.inl v3_138))]) (st' := [.inr (.inr (some 86)), .inl 1]) (h' := gc_h sh I155 J137 A) (C := ((True ∧ True) ∧ True)) rfl ⟨⟨trivial, trivial⟩, trivial⟩ ?_
          refine gv_get hD rfl rfl S_86 ⟨by decide, B_86⟩ (gc_hA S_86 rfl A_86_13) ?_
          show gv_X _ _ (258, [(0, .inr (.inr (some 86))), (1, .inl a1), (2, .inl v2_138), (3, .inr (.inl v3_138))], [.inr (.inr (some 97)), .inl 1], sh, gc_h sh I155 J137 A)
          refine gv_run 1 true hD (pc' := 259) (lv' := [(0, .inr (.inr (some 86))), (1, .inl a1), (2, .inl v2_138), (3, .inr (.inl v3_138))]) (st' := [.inl v2_138, .inr (.inr (some 97)), .inl 1]) (h' := gc_h sh I155 J137 A) (C := (True ∧ True)) rfl ⟨trivial, trivial⟩ ?_
          have f170 := (show 0 ≤ I155 97 (Int.toNat v2_138) ∧ I155 97 (Int.toNat v2_138) ≤ 1 from gc_in hI155 R_97 rfl rfl)
          refine gv_iald hD rfl S_97 rfl ⟨by decide, B_97⟩ ⟨by exact gz_m 131 (by omega), by exact gz_m 132 (by omega)⟩ (gc_iI S_97 rfl) ?_
          show gv_X _ _ (260, [(0, .inr (.inr (some 86))), (1, .inl a1), (2, .inl v2_138), (3, .inr (.inl v3_138))], [.inl (I155 97 (Int.toNat v2_138)), .inl 1], sh, gc_h sh I155 J137 A)
          have f171 := gc_or1 (x := ((1 - (I155 97 (Int.toNat v2_138))))) (y := a1) ⟨by exact gz_m 133 (by omega), by exact gz_m 134 (by omega)⟩ ⟨by exact gz_m 135 (by omega), by exact gz_m 136 (by omega)⟩
          refine gv_run 3 true hD (pc' := 263) (lv' := [(0, .inr (.inr (some 86))), (1, .inl a1), (2, .inl v2_138), (3, .inr (.inl v3_138))]) (st' := [.inl ((Int32.ofInt ((1 - (I155 97 (Int.toNat v2_138)))) ||| Int32.ofInt a1).toInt)]) (h' := gc_h sh I155 J137 A) (C := (((True ∧ True) ∧ True) ∧ True)) rfl ⟨⟨⟨trivial, trivial⟩, trivial⟩, trivial⟩ ?_
          refine gv_pick [] rfl ?_
          exact L263 I155 J137 (((Int32.ofInt ((1 - (I155 97 (Int.toNat v2_138)))) ||| Int32.ofInt a1).toInt)) hI155 FI155 FJ137 (by exact gz_m 137 (by omega))
        · show gv_X _ _ (242, [(0, .inr (.inr (some 86))), (1, .inl a1), (2, .inl v2_138), (3, .inr (.inl v3_138))], [], sh, gc_h sh I155 J137 A)
          refine gv_run 1 true hD (pc' := 243) (lv' := [(0, .inr (.inr (some 86))), (1, .inl a1), (2, .inl v2_138), (3, .inr (.inl v3_138))]) (st' := [.inr (.inr (some 86))]) (h' := gc_h sh I155 J137 A) (C := (True ∧ True)) rfl ⟨trivial, trivial⟩ ?_
          refine gv_get hD rfl rfl S_86 ⟨by decide, B_86⟩ (gc_hA S_86 rfl A_86_13) ?_
          show gv_X _ _ (246, [(0, .inr (.inr (some 86))), (1, .inl a1), (2, .inl v2_138), (3, .inr (.inl v3_138))], [.inr (.inr (some 97))], sh, gc_h sh I155 J137 A)
          refine gv_run 1 true hD (pc' := 247) (lv' := [(0, .inr (.inr (some 86))), (1, .inl a1), (2, .inl v2_138), (3, .inr (.inl v3_138))]) (st' := [.inl v2_138, .inr (.inr (some 97))]) (h' := gc_h sh I155 J137 A) (C := (True ∧ True)) rfl ⟨trivial, trivial⟩ ?_
          have f172 := (show 0 ≤ I155 97 (Int.toNat v2_138) ∧ I155 97 (Int.toNat v2_138) ≤ 1 from gc_in hI155 R_97 rfl rfl)
          refine gv_iald hD rfl S_97 rfl ⟨by decide, B_97⟩ ⟨by exact gz_m 138 (by omega), by exact gz_m 139 (by omega)⟩ (gc_iI S_97 rfl) ?_
          show gv_X _ _ (248, [(0, .inr (.inr (some 86))), (1, .inl a1), (2, .inl v2_138), (3, .inr (.inl v3_138))], [.inl (I155 97 (Int.toNat v2_138))], sh, gc_h sh I155 J137 A)
          have f173 := gc_or1 (x := ((I155 97 (Int.toNat v2_138)))) (y := a1) ⟨by exact gz_m 140 (by omega), by exact gz_m 141 (by omega)⟩ ⟨by exact gz_m 142 (by omega), by exact gz_m 143 (by omega)⟩
          refine gv_run 3 true hD (pc' := 263) (lv' := [(0, .inr (.inr (some 86))), (1, .inl a1), (2, .inl v2_138), (3, .inr (.inl v3_138))]) (st' := [.inl ((Int32.ofInt ((I155 97 (Int.toNat v2_138))) ||| Int32.ofInt a1).toInt)]) (h' := gc_h sh I155 J137 A) (C := (((True ∧ True) ∧ True) ∧ True)) rfl ⟨⟨⟨trivial, trivial⟩, trivial⟩, trivial⟩ ?_
          refine gv_pick [] rfl ?_
          exact L263 I155 J137 (((Int32.ofInt ((I155 97 (Int.toNat v2_138))) ||| Int32.ofInt a1).toInt)) hI155 FI155 FJ137 (by exact gz_m 144 (by omega))
      · show gv_X _ _ (225, [(0, .inr (.inr (some 86))), (1, .inl a1), (2, .inl v2_138), (3, .inr (.inl v3_138))], [], sh, gc_h sh I155 J137 A)
        refine gv_run 1 true hD (pc' := 226) (lv' := [(0, .inr (.inr (some 86))), (1, .inl a1), (2, .inl v2_138), (3, .inr (.inl v3_138))]) (st' := [.inr (.inr (some 86))]) (h' := gc_h sh I155 J137 A) (C := (True ∧ True)) rfl ⟨trivial, trivial⟩ ?_
        refine gv_get hD rfl rfl S_86 ⟨by decide, B_86⟩ (gc_hA S_86 rfl A_86_13) ?_
        show gv_X _ _ (229, [(0, .inr (.inr (some 86))), (1, .inl a1), (2, .inl v2_138), (3, .inr (.inl v3_138))], [.inr (.inr (some 97))], sh, gc_h sh I155 J137 A)
        refine gv_run 1 true hD (pc' := 230) (lv' := [(0, .inr (.inr (some 86))), (1, .inl a1), (2, .inl v2_138), (3, .inr (.inl v3_138))]) (st' := [.inl v2_138, .inr (.inr (some 97))]) (h' := gc_h sh I155 J137 A) (C := (True ∧ True)) rfl ⟨trivial, trivial⟩ ?_
        have f174 := (show 0 ≤ I155 97 (Int.toNat v2_138) ∧ I155 97 (Int.toNat v2_138) ≤ 1 from gc_in hI155 R_97 rfl rfl)
        refine gv_iald hD rfl S_97 rfl ⟨by decide, B_97⟩ ⟨by exact gz_m 145 (by omega), by exact gz_m 146 (by omega)⟩ (gc_iI S_97 rfl) ?_
        show gv_X _ _ (231, [(0, .inr (.inr (some 86))), (1, .inl a1), (2, .inl v2_138), (3, .inr (.inl v3_138))], [.inl (I155 97 (Int.toNat v2_138))], sh, gc_h sh I155 J137 A)
        have f175 := gw_andl (x := ((I155 97 (Int.toNat v2_138)))) (y := a1) ⟨by exact gz_m 147 (by omega), by exact gz_m 148 (by omega)⟩
        refine gv_run 2 true hD (pc' := 233) (lv' := [(0, .inr (.inr (some 86))), (1, .inl a1), (2, .inl v2_138), (3, .inr (.inl v3_138))]) (st' := [.inl ((Int32.ofInt ((I155 97 (Int.toNat v2_138))) &&& Int32.ofInt a1).toInt)]) (h' := gc_h sh I155 J137 A) (C := ((True ∧ True) ∧ True)) rfl ⟨⟨trivial, trivial⟩, trivial⟩ ?_
        exact gv_iret hD rfl ⟨I155, J137, rfl, hI155, FI155, FJ137, ⟨_, rfl, by exact gz_m 149 (by omega), by exact gz_m 150 (by omega), (by rw [show J137 = J from funext fun q => funext fun j => (FJ137 q j).resolve_left id]; exact gc_OP_fr (m := Int.toNat v2_138) x0 (by exact gz_m 151 (by omega)) (fun k => (FI155 95 k).resolve_left (by exact gz_m 152 (by omega))) (fun k => (FI155 98 k).resolve_left (by exact gz_m 153 (by omega))) (fun k hk => (FI155 96 k).resolve_left (by exact gz_m 154 (by omega))) (fun h => by exact gz_m 155 (by omega))), by exact gz_m 156 (by omega), by exact gz_m 157 (by omega)⟩⟩
    · show gv_X _ _ (213, [(0, .inr (.inr (some 86))), (1, .inl a1), (2, .inl v2_138), (3, .inr (.inl v3_138))], [], sh, gc_h sh I155 J137 A)
      refine gv_run 3 true hD (pc' := 216) (lv' := [(0, .inr (.inr (some 86))), (1, .inl a1), (2, .inl v2_138), (3, .inr (.inl v3_138))]) (st' := [.inl (1 - a1)]) (h' := gc_h sh I155 J137 A) (C := (((True ∧ True) ∧ True) ∧ True)) rfl ⟨⟨⟨trivial, trivial⟩, trivial⟩, trivial⟩ ?_
      exact gv_iret hD rfl ⟨I155, J137, rfl, hI155, FI155, FJ137, ⟨_, rfl, by exact gz_m 158 (by omega), by exact gz_m 159 (by omega), (by rw [show J137 = J from funext fun q => funext fun j => (FJ137 q j).resolve_left id]; exact gc_OP_fr (m := Int.toNat v2_138) x0 (by exact gz_m 160 (by omega)) (fun k => (FI155 95 k).resolve_left (by exact gz_m 161 (by omega))) (fun k => (FI155 98 k).resolve_left (by exact gz_m 162 (by omega))) (fun k hk => (FI155 96 k).resolve_left (by exact gz_m 163 (by omega))) (fun h => by exact gz_m 164 (by omega))), by exact gz_m 165 (by omega), by exact gz_m 166 (by omega)⟩⟩
  refine gv_run 1 true hD (pc' := 1) (lv' := [(0, .inr (.inr (some 86))), (1, .inl a1)]) (st' := [.inr (.inr (some 86))]) (h' := gc_h sh I J A) (C := (True ∧ True)) rfl ⟨trivial, trivial⟩ ?_
  have f176 := (show 0 ≤ I 86 9 ∧ I 86 9 ≤ 300 from gc_in hI R_86 rfl rfl)
  refine gv_get hD rfl rfl S_86 ⟨by decide, B_86⟩ (gc_hI S_86 rfl) ?_
  show gv_X _ _ (4, [(0, .inr (.inr (some 86))), (1, .inl a1)], [.inl (I 86 9)], sh, gc_h sh I J A)
  refine gv_run 4 true hD (pc' := 8) (lv' := [(2, .inl ((I 86 9) - 1)), (0, .inr (.inr (some 86))), (1, .inl a1)]) (st' := [.inr (.inr (some 86))]) (h' := gc_h sh I J A) (C := ((((True ∧ True) ∧ True) ∧ True) ∧ True)) rfl ⟨⟨⟨⟨trivial, trivial⟩, trivial⟩, trivial⟩, trivial⟩ ?_
  refine gv_get hD rfl rfl S_86 ⟨by decide, B_86⟩ (gc_hA S_86 rfl A_86_10) ?_
  show gv_X _ _ (11, [(2, .inl ((I 86 9) - 1)), (0, .inr (.inr (some 86))), (1, .inl a1)], [.inr (.inr (some 94))], sh, gc_h sh I J A)
  refine gv_run 1 true hD (pc' := 12) (lv' := [(2, .inl ((I 86 9) - 1)), (0, .inr (.inr (some 86))), (1, .inl a1)]) (st' := [.inl ((I 86 9) - 1), .inr (.inr (some 94))]) (h' := gc_h sh I J A) (C := (True ∧ True)) rfl ⟨trivial, trivial⟩ ?_
  refine gv_lald hD rfl S_94 rfl ⟨by decide, B_94⟩ ⟨by exact gz_m 167 (by omega), by exact gz_m 168 (by omega)⟩ (gc_jJ S_94 rfl) ?_
  show gv_X _ _ (13, [(2, .inl ((I 86 9) - 1)), (0, .inr (.inr (some 86))), (1, .inl a1)], [.inr (.inl (J 94 (Int.toNat (((I 86 9) - 1)))))], sh, gc_h sh I J A)
  refine gv_run 1 true hD (pc' := 14) (lv' := [(3, .inr (.inl (J 94 (Int.toNat (((I 86 9) - 1)))))), (2, .inl ((I 86 9) - 1)), (0, .inr (.inr (some 86))), (1, .inl a1)]) (st' := []) (h' := gc_h sh I J A) (C := (True ∧ True)) rfl ⟨trivial, trivial⟩ ?_
  have t177 := x0 (Int.toNat ((I 86 9) - 1)) (by exact gz_m 169 (by omega))
  refine gv_run 1 true hD (pc' := 15) (lv' := [(3, .inr (.inl (J 94 (Int.toNat (((I 86 9) - 1)))))), (2, .inl ((I 86 9) - 1)), (0, .inr (.inr (some 86))), (1, .inl a1)]) (st' := [.inr (.inr (some 86))]) (h' := gc_h sh I J A) (C := (True ∧ True)) rfl ⟨trivial, trivial⟩ ?_
  refine gv_get hD rfl rfl S_86 ⟨by decide, B_86⟩ (gc_hA S_86 rfl A_86_12) ?_
  show gv_X _ _ (18, [(3, .inr (.inl (J 94 (Int.toNat (((I 86 9) - 1)))))), (2, .inl ((I 86 9) - 1)), (0, .inr (.inr (some 86))), (1, .inl a1)], [.inr (.inr (some 96))], sh, gc_h sh I J A)
  refine gv_run 2 true hD (pc' := 20) (lv' := [(3, .inr (.inl (J 94 (Int.toNat (((I 86 9) - 1)))))), (2, .inl ((I 86 9) - 1)), (0, .inr (.inr (some 86))), (1, .inl a1)]) (st' := [.inl ((I 86 9) - 1), .inr (.inr (some 96)), .inl ((I 86 9) - 1), .inr (.inr (some 96))]) (h' := gc_h sh I J A) (C := ((True ∧ True) ∧ True)) rfl ⟨⟨trivial, trivial⟩, trivial⟩ ?_
  have f178 := (show 0 ≤ I 96 (Int.toNat (((I 86 9) - 1))) ∧ I 96 (Int.toNat (((I 86 9) - 1))) ≤ 9 from gc_in hI R_96 rfl rfl)
  refine gv_iald hD rfl S_96 rfl ⟨by decide, B_96⟩ ⟨by exact gz_m 170 (by omega), by exact gz_m 171 (by omega)⟩ (gc_iI S_96 rfl) ?_
  show gv_X _ _ (21, [(3, .inr (.inl (J 94 (Int.toNat (((I 86 9) - 1)))))), (2, .inl ((I 86 9) - 1)), (0, .inr (.inr (some 86))), (1, .inl a1)], [.inl (I 96 (Int.toNat (((I 86 9) - 1)))), .inl ((I 86 9) - 1), .inr (.inr (some 96))], sh, gc_h sh I J A)
  refine gv_run 2 true hD (pc' := 23) (lv' := [(3, .inr (.inl (J 94 (Int.toNat (((I 86 9) - 1)))))), (2, .inl ((I 86 9) - 1)), (0, .inr (.inr (some 86))), (1, .inl a1)]) (st' := [.inl ((I 96 (Int.toNat (((I 86 9) - 1)))) + 1), .inl ((I 86 9) - 1), .inr (.inr (some 96))]) (h' := gc_h sh I J A) (C := ((True ∧ True) ∧ True)) rfl ⟨⟨trivial, trivial⟩, trivial⟩ ?_
  refine gv_iast hD rfl S_96 ⟨by decide, B_96⟩ ⟨by exact gz_m 172 (by omega), by exact gz_m 173 (by omega)⟩ ?_
  refine gc_st hI S_96 rfl R_96 (lo := 0) (hi := 9) rfl rfl (by exact gz_m 174 (by omega)) (by exact gz_m 175 (by omega)) (fun I179 hI179 q180 p180 => ?_)
  have FI179 := gc_frs (W := fun q j => (q = 96 ∧ j = (Int.toNat (((I 86 9) - 1)))) ∨ q = 97 ∨ q = 99 ∨ (q = 86 ∧ j = 9) ∨ (q = 86 ∧ j = 16) ∨ (q = 86 ∧ j = 17)) FI (Or.inl ⟨rfl, rfl⟩) p180
  have t181 := p180 86 1 (fun h => absurd h.1 (by decide))
  have t182 := p180 86 2 (fun h => absurd h.1 (by decide))
  have t183 := p180 86 9 (fun h => absurd h.1 (by decide))
  have t184 := p180 86 16 (fun h => absurd h.1 (by decide))
  have t185 := p180 86 17 (fun h => absurd h.1 (by decide))
  have t186 := p180 6 1 (fun h => absurd h.1 (by decide))
  show gv_X _ _ (24, [(3, .inr (.inl (J 94 (Int.toNat (((I 86 9) - 1)))))), (2, .inl ((I 86 9) - 1)), (0, .inr (.inr (some 86))), (1, .inl a1)], [], sh, gc_h sh I179 J A)
  have f187 := gw_cmp ((J 94 (Int.toNat (((I 86 9) - 1))))) ((6384748))
  refine gv_run 3 true hD (pc' := 29) (lv' := [(3, .inr (.inl (J 94 (Int.toNat (((I 86 9) - 1)))))), (2, .inl ((I 86 9) - 1)), (0, .inr (.inr (some 86))), (1, .inl a1)]) (st' := [.inl ((lg_cmp ((J 94 (Int.toNat (((I 86 9) - 1))))) ((6384748))).toInt)]) (h' := gc_h sh I179 J A) (C := (((True ∧ True) ∧ True) ∧ True)) rfl ⟨⟨⟨trivial, trivial⟩, trivial⟩, trivial⟩ ?_
  refine gv_if_eq (t := 40) hD rfl rfl ⟨by exact gz_m 176 (by omega), by exact gz_m 177 (by omega)⟩ (fun c188 => ?_) (fun c188 => ?_)
  · show gv_X _ _ (40, [(3, .inr (.inl (J 94 (Int.toNat (((I 86 9) - 1)))))), (2, .inl ((I 86 9) - 1)), (0, .inr (.inr (some 86))), (1, .inl a1)], [], sh, gc_h sh I179 J A)
    refine gv_pick [2, 3, 1, 0] rfl ?_
    exact L40 I179 J (((I 86 9) - 1)) ((J 94 (Int.toNat (((I 86 9) - 1))))) hI179 FI179 FJ (by exact gz_m 178 (by omega)) rfl (by have h9 := ((x0 (Int.toNat (((I 86 9) - 1))) (by exact gz_m 179 (by omega))).1.resolve_left (fun h9 => absurd (h9.symm.trans (gc_cmp0 (x := J 94 (Int.toNat (((I 86 9) - 1)))) (y := 6384748) (by exact gz_m 180 (by omega)))) (by decide))); exact gz_m 181 (by omega))
  · show gv_X _ _ (32, [(3, .inr (.inl (J 94 (Int.toNat (((I 86 9) - 1)))))), (2, .inl ((I 86 9) - 1)), (0, .inr (.inr (some 86))), (1, .inl a1)], [], sh, gc_h sh I179 J A)
    have f189 := gw_cmp ((J 94 (Int.toNat (((I 86 9) - 1))))) ((1936682341))
    refine gv_run 3 true hD (pc' := 37) (lv' := [(3, .inr (.inl (J 94 (Int.toNat (((I 86 9) - 1)))))), (2, .inl ((I 86 9) - 1)), (0, .inr (.inr (some 86))), (1, .inl a1)]) (st' := [.inl ((lg_cmp ((J 94 (Int.toNat (((I 86 9) - 1))))) ((1936682341))).toInt)]) (h' := gc_h sh I179 J A) (C := (((True ∧ True) ∧ True) ∧ True)) rfl ⟨⟨⟨trivial, trivial⟩, trivial⟩, trivial⟩ ?_
    refine gv_if_ne (t := 148) hD rfl rfl ⟨by exact gz_m 182 (by omega), by exact gz_m 183 (by omega)⟩ (fun c190 => ?_) (fun c190 => ?_)
    · show gv_X _ _ (148, [(3, .inr (.inl (J 94 (Int.toNat (((I 86 9) - 1)))))), (2, .inl ((I 86 9) - 1)), (0, .inr (.inr (some 86))), (1, .inl a1)], [], sh, gc_h sh I179 J A)
      have f191 := gw_cmp ((J 94 (Int.toNat (((I 86 9) - 1))))) ((7237492))
      refine gv_run 3 true hD (pc' := 153) (lv' := [(3, .inr (.inl (J 94 (Int.toNat (((I 86 9) - 1)))))), (2, .inl ((I 86 9) - 1)), (0, .inr (.inr (some 86))), (1, .inl a1)]) (st' := [.inl ((lg_cmp ((J 94 (Int.toNat (((I 86 9) - 1))))) ((7237492))).toInt)]) (h' := gc_h sh I179 J A) (C := (((True ∧ True) ∧ True) ∧ True)) rfl ⟨⟨⟨trivial, trivial⟩, trivial⟩, trivial⟩ ?_
      refine gv_if_eq (t := 195) hD rfl rfl ⟨by exact gz_m 184 (by omega), by exact gz_m 185 (by omega)⟩ (fun c192 => ?_) (fun c192 => ?_)
      · show gv_X _ _ (195, [(3, .inr (.inl (J 94 (Int.toNat (((I 86 9) - 1)))))), (2, .inl ((I 86 9) - 1)), (0, .inr (.inr (some 86))), (1, .inl a1)], [], sh, gc_h sh I179 J A)
        refine gv_pick [2, 3, 1, 0] rfl ?_
        exact L195 I179 J (((I 86 9) - 1)) ((J 94 (Int.toNat (((I 86 9) - 1))))) hI179 FI179 FJ (by exact gz_m 186 (by omega)) rfl
      · show gv_X _ _ (156, [(3, .inr (.inl (J 94 (Int.toNat (((I 86 9) - 1)))))), (2, .inl ((I 86 9) - 1)), (0, .inr (.inr (some 86))), (1, .inl a1)], [], sh, gc_h sh I179 J A)
        refine gv_run 1 true hD (pc' := 157) (lv' := [(3, .inr (.inl (J 94 (Int.toNat (((I 86 9) - 1)))))), (2, .inl ((I 86 9) - 1)), (0, .inr (.inr (some 86))), (1, .inl a1)]) (st' := [.inr (.inr (some 86))]) (h' := gc_h sh I179 J A) (C := (True ∧ True)) rfl ⟨trivial, trivial⟩ ?_
        refine gv_get hD rfl rfl S_86 ⟨by decide, B_86⟩ (gc_hA S_86 rfl A_86_12) ?_
        show gv_X _ _ (160, [(3, .inr (.inl (J 94 (Int.toNat (((I 86 9) - 1)))))), (2, .inl ((I 86 9) - 1)), (0, .inr (.inr (some 86))), (1, .inl a1)], [.inr (.inr (some 96))], sh, gc_h sh I179 J A)
        refine gv_run 1 true hD (pc' := 161) (lv' := [(3, .inr (.inl (J 94 (Int.toNat (((I 86 9) - 1)))))), (2, .inl ((I 86 9) - 1)), (0, .inr (.inr (some 86))), (1, .inl a1)]) (st' := [.inl ((I 86 9) - 1), .inr (.inr (some 96))]) (h' := gc_h sh I179 J A) (C := (True ∧ True)) rfl ⟨trivial, trivial⟩ ?_
        have f193 := (show 0 ≤ I179 96 (Int.toNat (((I 86 9) - 1))) ∧ I179 96 (Int.toNat (((I 86 9) - 1))) ≤ 9 from gc_in hI179 R_96 rfl rfl)
        refine gv_iald hD rfl S_96 rfl ⟨by decide, B_96⟩ ⟨by exact gz_m 187 (by omega), by exact gz_m 188 (by omega)⟩ (gc_iI S_96 rfl) ?_
        show gv_X _ _ (162, [(3, .inr (.inl (J 94 (Int.toNat (((I 86 9) - 1)))))), (2, .inl ((I 86 9) - 1)), (0, .inr (.inr (some 86))), (1, .inl a1)], [.inl (I179 96 (Int.toNat (((I 86 9) - 1))))], sh, gc_h sh I179 J A)
        refine gv_run 1 true hD (pc' := 163) (lv' := [(3, .inr (.inl (J 94 (Int.toNat (((I 86 9) - 1)))))), (2, .inl ((I 86 9) - 1)), (0, .inr (.inr (some 86))), (1, .inl a1)]) (st' := [.inl 1, .inl (I179 96 (Int.toNat (((I 86 9) - 1))))]) (h' := gc_h sh I179 J A) (C := (True ∧ True)) rfl ⟨trivial, trivial⟩ ?_
        refine gv_icmp_ne (t := 195) hD rfl rfl ⟨⟨by exact gz_m 189 (by omega), by exact gz_m 190 (by omega)⟩, ⟨by exact gz_m 191 (by omega), by exact gz_m 192 (by omega)⟩⟩ (fun c194 => ?_) (fun c194 => ?_)
        · show gv_X _ _ (195, [(3, .inr (.inl (J 94 (Int.toNat (((I 86 9) - 1)))))), (2, .inl ((I 86 9) - 1)), (0, .inr (.inr (some 86))), (1, .inl a1)], [], sh, gc_h sh I179 J A)
          refine gv_pick [2, 3, 1, 0] rfl ?_
          exact L195 I179 J (((I 86 9) - 1)) ((J 94 (Int.toNat (((I 86 9) - 1))))) hI179 FI179 FJ (by exact gz_m 193 (by omega)) rfl
        · show gv_X _ _ (166, [(3, .inr (.inl (J 94 (Int.toNat (((I 86 9) - 1)))))), (2, .inl ((I 86 9) - 1)), (0, .inr (.inr (some 86))), (1, .inl a1)], [], sh, gc_h sh I179 J A)
          have t195 := ((x0 (Int.toNat (((I 86 9) - 1))) (by exact gz_m 194 (by omega))).1.resolve_left (gc_cmpn (y := 7237492) (by exact gz_m 195 (by omega))))
          refine gv_run 1 true hD (pc' := 167) (lv' := [(3, .inr (.inl (J 94 (Int.toNat (((I 86 9) - 1)))))), (2, .inl ((I 86 9) - 1)), (0, .inr (.inr (some 86))), (1, .inl a1)]) (st' := [.inr (.inr (some 86))]) (h' := gc_h sh I179 J A) (C := (True ∧ True)) rfl ⟨trivial, trivial⟩ ?_
          refine gv_get hD rfl rfl S_86 ⟨by decide, B_86⟩ (gc_hA S_86 rfl A_86_13) ?_
          show gv_X _ _ (170, [(3, .inr (.inl (J 94 (Int.toNat (((I 86 9) - 1)))))), (2, .inl ((I 86 9) - 1)), (0, .inr (.inr (some 86))), (1, .inl a1)], [.inr (.inr (some 97))], sh, gc_h sh I179 J A)
          refine gv_run 2 true hD (pc' := 172) (lv' := [(3, .inr (.inl (J 94 (Int.toNat (((I 86 9) - 1)))))), (2, .inl ((I 86 9) - 1)), (0, .inr (.inr (some 86))), (1, .inl a1)]) (st' := [.inl a1, .inl ((I 86 9) - 1), .inr (.inr (some 97))]) (h' := gc_h sh I179 J A) (C := ((True ∧ True) ∧ True)) rfl ⟨⟨trivial, trivial⟩, trivial⟩ ?_
          refine gv_iast hD rfl S_97 ⟨by decide, B_97⟩ ⟨by exact gz_m 196 (by omega), by exact gz_m 197 (by omega)⟩ ?_
          refine gc_st hI179 S_97 rfl R_97 (lo := 0) (hi := 1) rfl rfl (by exact gz_m 198 (by omega)) (by exact gz_m 199 (by omega)) (fun I196 hI196 q197 p197 => ?_)
          have FI196 := gc_frs (W := fun q j => (q = 96 ∧ j = (Int.toNat (((I 86 9) - 1)))) ∨ q = 97 ∨ q = 99 ∨ (q = 86 ∧ j = 9) ∨ (q = 86 ∧ j = 16) ∨ (q = 86 ∧ j = 17)) FI179 (Or.inr (Or.inl rfl)) p197
          have t198 := p197 86 1 (fun h => absurd h.1 (by decide))
          have t199 := p197 86 2 (fun h => absurd h.1 (by decide))
          have t200 := p197 86 9 (fun h => absurd h.1 (by decide))
          have t201 := p197 86 16 (fun h => absurd h.1 (by decide))
          have t202 := p197 86 17 (fun h => absurd h.1 (by decide))
          have t203 := p197 6 1 (fun h => absurd h.1 (by decide))
          have t204 := p197 96 (Int.toNat (((I 86 9) - 1))) (fun h => absurd h.1 (by decide))
          show gv_X _ _ (173, [(3, .inr (.inl (J 94 (Int.toNat (((I 86 9) - 1)))))), (2, .inl ((I 86 9) - 1)), (0, .inr (.inr (some 86))), (1, .inl a1)], [], sh, gc_h sh I196 J A)
          refine gv_run 2 true hD (pc' := 175) (lv' := [(3, .inr (.inl (J 94 (Int.toNat (((I 86 9) - 1)))))), (2, .inl ((I 86 9) - 1)), (0, .inr (.inr (some 86))), (1, .inl a1)]) (st' := [.inr (.inr (some 86)), .inr (.inr (some 86))]) (h' := gc_h sh I196 J A) (C := ((True ∧ True) ∧ True)) rfl ⟨⟨trivial, trivial⟩, trivial⟩ ?_
          refine gv_get hD rfl rfl S_86 ⟨by decide, B_86⟩ (gc_hA S_86 rfl A_86_14) ?_
          show gv_X _ _ (178, [(3, .inr (.inl (J 94 (Int.toNat (((I 86 9) - 1)))))), (2, .inl ((I 86 9) - 1)), (0, .inr (.inr (some 86))), (1, .inl a1)], [.inr (.inr (some 98)), .inr (.inr (some 86))], sh, gc_h sh I196 J A)
          refine gv_run 1 true hD (pc' := 179) (lv' := [(3, .inr (.inl (J 94 (Int.toNat (((I 86 9) - 1)))))), (2, .inl ((I 86 9) - 1)), (0, .inr (.inr (some 86))), (1, .inl a1)]) (st' := [.inl ((I 86 9) - 1), .inr (.inr (some 98)), .inr (.inr (some 86))]) (h' := gc_h sh I196 J A) (C := (True ∧ True)) rfl ⟨trivial, trivial⟩ ?_
          have t205 := (FI196 98 (Int.toNat (((I 86 9) - 1)))).resolve_left (by exact gz_m 200 (by omega))
          have f206 := (show 0 ≤ I196 98 (Int.toNat (((I 86 9) - 1))) ∧ I196 98 (Int.toNat (((I 86 9) - 1))) ≤ 300 from gc_in hI196 R_98 rfl rfl)
          refine gv_iald hD rfl S_98 rfl ⟨by decide, B_98⟩ ⟨by exact gz_m 201 (by omega), by exact gz_m 202 (by omega)⟩ (gc_iI S_98 rfl) ?_
          show gv_X _ _ (180, [(3, .inr (.inl (J 94 (Int.toNat (((I 86 9) - 1)))))), (2, .inl ((I 86 9) - 1)), (0, .inr (.inr (some 86))), (1, .inl a1)], [.inl (I196 98 (Int.toNat (((I 86 9) - 1)))), .inr (.inr (some 86))], sh, gc_h sh I196 J A)
          refine gv_put hD rfl rfl S_86 ⟨by decide, B_86⟩ rfl trivial ?_
          refine gc_st (k := 17) hI196 S_86 rfl R_86 (lo := 0) (hi := 300) rfl rfl (by exact gz_m 203 (by omega)) (by exact gz_m 204 (by omega)) (fun I207 hI207 q208 p208 => ?_)
          have FI207 := gc_frs (W := fun q j => (q = 96 ∧ j = (Int.toNat (((I 86 9) - 1)))) ∨ q = 97 ∨ q = 99 ∨ (q = 86 ∧ j = 9) ∨ (q = 86 ∧ j = 16) ∨ (q = 86 ∧ j = 17)) FI196 (Or.inr (Or.inr (Or.inr (Or.inr (Or.inr ⟨rfl, rfl⟩))))) p208
          have t209 := p208 86 1 (fun h => absurd h.2 (by decide))
          have t210 := p208 86 2 (fun h => absurd h.2 (by decide))
          have t211 := p208 86 9 (fun h => absurd h.2 (by decide))
          have t212 := p208 86 16 (fun h => absurd h.2 (by decide))
          have t213 := p208 6 1 (fun h => absurd h.2 (by decide))
          have t214 := p208 96 (Int.toNat (((I 86 9) - 1))) (fun h => absurd h.1 (by decide))
          have f215 := (show 0 ≤ I207 86 17 ∧ I207 86 17 ≤ 300 from gc_in hI207 R_86 rfl rfl)
          show gv_X _ _ (183, [(3, .inr (.inl (J 94 (Int.toNat (((I 86 9) - 1)))))), (2, .inl ((I 86 9) - 1)), (0, .inr (.inr (some 86))), (1, .inl a1)], [], sh, gc_h sh I207 J A)
          refine gv_run 2 true hD (pc' := 185) (lv' := [(3, .inr (.inl (J 94 (Int.toNat (((I 86 9) - 1)))))), (2, .inl ((I 86 9) - 1)), (0, .inr (.inr (some 86))), (1, .inl a1)]) (st' := [.inr (.inr (some 86)), .inr (.inr (some 86))]) (h' := gc_h sh I207 J A) (C := ((True ∧ True) ∧ True)) rfl ⟨⟨trivial, trivial⟩, trivial⟩ ?_
          refine gv_get hD rfl rfl S_86 ⟨by decide, B_86⟩ (gc_hA S_86 rfl A_86_11) ?_
          show gv_X _ _ (188, [(3, .inr (.inl (J 94 (Int.toNat (((I 86 9) - 1)))))), (2, .inl ((I 86 9) - 1)), (0, .inr (.inr (some 86))), (1, .inl a1)], [.inr (.inr (some 95)), .inr (.inr (some 86))], sh, gc_h sh I207 J A)
          refine gv_run 1 true hD (pc' := 189) (lv' := [(3, .inr (.inl (J 94 (Int.toNat (((I 86 9) - 1)))))), (2, .inl ((I 86 9) - 1)), (0, .inr (.inr (some 86))), (1, .inl a1)]) (st' := [.inl ((I 86 9) - 1), .inr (.inr (some 95)), .inr (.inr (some 86))]) (h' := gc_h sh I207 J A) (C := (True ∧ True)) rfl ⟨trivial, trivial⟩ ?_
          have t216 := (FI207 95 (Int.toNat (((I 86 9) - 1)))).resolve_left (by exact gz_m 205 (by omega))
          have f217 := (show (-1) ≤ I207 95 (Int.toNat (((I 86 9) - 1))) ∧ I207 95 (Int.toNat (((I 86 9) - 1))) ≤ 300 from gc_in hI207 R_95 rfl rfl)
          refine gv_iald hD rfl S_95 rfl ⟨by decide, B_95⟩ ⟨by exact gz_m 206 (by omega), by exact gz_m 207 (by omega)⟩ (gc_iI S_95 rfl) ?_
          show gv_X _ _ (190, [(3, .inr (.inl (J 94 (Int.toNat (((I 86 9) - 1)))))), (2, .inl ((I 86 9) - 1)), (0, .inr (.inr (some 86))), (1, .inl a1)], [.inl (I207 95 (Int.toNat (((I 86 9) - 1)))), .inr (.inr (some 86))], sh, gc_h sh I207 J A)
          refine gv_put hD rfl rfl S_86 ⟨by decide, B_86⟩ rfl trivial ?_
          refine gc_st (k := 16) hI207 S_86 rfl R_86 (lo := (-1)) (hi := 301) rfl rfl (by exact gz_m 208 (by omega)) (by exact gz_m 209 (by omega)) (fun I218 hI218 q219 p219 => ?_)
          have FI218 := gc_frs (W := fun q j => (q = 96 ∧ j = (Int.toNat (((I 86 9) - 1)))) ∨ q = 97 ∨ q = 99 ∨ (q = 86 ∧ j = 9) ∨ (q = 86 ∧ j = 16) ∨ (q = 86 ∧ j = 17)) FI207 (Or.inr (Or.inr (Or.inr (Or.inr (Or.inl ⟨rfl, rfl⟩))))) p219
          have t220 := p219 86 1 (fun h => absurd h.2 (by decide))
          have t221 := p219 86 2 (fun h => absurd h.2 (by decide))
          have t222 := p219 86 9 (fun h => absurd h.2 (by decide))
          have t223 := p219 86 17 (fun h => absurd h.2 (by decide))
          have t224 := p219 6 1 (fun h => absurd h.2 (by decide))
          have t225 := p219 96 (Int.toNat (((I 86 9) - 1))) (fun h => absurd h.1 (by decide))
          have f226 := (show (-1) ≤ I218 86 16 ∧ I218 86 16 ≤ 301 from gc_in hI218 R_86 rfl rfl)
          show gv_X _ _ (193, [(3, .inr (.inl (J 94 (Int.toNat (((I 86 9) - 1)))))), (2, .inl ((I 86 9) - 1)), (0, .inr (.inr (some 86))), (1, .inl a1)], [], sh, gc_h sh I218 J A)
          refine gv_run 1 true hD (pc' := 194) (lv' := [(3, .inr (.inl (J 94 (Int.toNat (((I 86 9) - 1)))))), (2, .inl ((I 86 9) - 1)), (0, .inr (.inr (some 86))), (1, .inl a1)]) (st' := [.inl (-1)]) (h' := gc_h sh I218 J A) (C := (True ∧ True)) rfl ⟨trivial, trivial⟩ ?_
          exact gv_iret hD rfl ⟨I218, J, rfl, hI218, FI218, FJ, ⟨_, rfl, by exact gz_m 210 (by omega), by exact gz_m 211 (by omega), (gc_OP_fr (m := Int.toNat (((I 86 9) - 1))) x0 (by exact gz_m 212 (by omega)) (fun k => (FI218 95 k).resolve_left (by exact gz_m 213 (by omega))) (fun k => (FI218 98 k).resolve_left (by exact gz_m 214 (by omega))) (fun k hk => (FI218 96 k).resolve_left (by exact gz_m 215 (by omega))) (fun h => by exact gz_m 216 (by omega))), by exact gz_m 217 (by omega), by exact gz_m 218 (by omega)⟩⟩
    · show gv_X _ _ (40, [(3, .inr (.inl (J 94 (Int.toNat (((I 86 9) - 1)))))), (2, .inl ((I 86 9) - 1)), (0, .inr (.inr (some 86))), (1, .inl a1)], [], sh, gc_h sh I179 J A)
      refine gv_pick [2, 3, 1, 0] rfl ?_
      exact L40 I179 J (((I 86 9) - 1)) ((J 94 (Int.toNat (((I 86 9) - 1))))) hI179 FI179 FJ (by exact gz_m 219 (by omega)) rfl (by have h9 := ((x0 (Int.toNat (((I 86 9) - 1))) (by exact gz_m 220 (by omega))).1.resolve_left (fun h9 => absurd (h9.symm.trans (gc_cmp0 (x := J 94 (Int.toNat (((I 86 9) - 1)))) (y := 1936682341) (by exact gz_m 221 (by omega)))) (by decide))); exact gz_m 222 (by omega))
