set_option maxHeartbeats 8000000 in
set_option maxRecDepth 100000 in
theorem d_X10_lookAt_L255 {ws0 : List Cond} {tb : String → gz_T} (hws : gc_Ws ws0) (htb : gc_tbs tb) (sh : gz_Sh) (ro : Nat → Nat) (I : gr_I) (J : gr_J) (A : gc_A) (hI : gc_Inv ro I) (o : Nat)  (hb : gc_Base sh ro A)  (x0 : 86 + 1 + 2 * Int.toNat (I 86 2) = o) (x1 : o = 87 ∨ o = 89) (x2 : gc_TC (I o) (I 86 1)) (x3 : I 86 17 ≤ I 86 9) (x4 : I 86 9 ≤ I 86 16) (x5 : gc_OP J I) (v1_6 : Int) (v3_32 : Int64) : ∀ (v7_116 : Int) (s0_116 : Int), ((1 ≤ v1_6 ∧ v1_6 ≤ 2) ∧ ((-1) ≤ v7_116 ∧ v7_116 ≤ 399) ∧ ((-1) ≤ s0_116 ∧ s0_116 ≤ 399)) → gv_X (gc_E10 ws0 tb 2 (yX10_lookAt, cX10_lookAt, 10, (some .int)) kX10_lookAt) (gv_Q cX10_lookAt (some .int) sh (fun r hₚ => (∃ (Iₚ : gr_I) (Jₚ : gr_J), hₚ = gc_h sh Iₚ Jₚ A ∧ gc_Inv ro Iₚ ∧ (∀ q j : Nat, (q = 95 ∨ q = 96 ∨ q = 98 ∨ (q = 86 ∧ j = 9) ∨ (q = 86 ∧ j = 16) ∨ (q = 86 ∧ j = 17) ∨ (q = 86 ∧ j = 18) ∨ q = 97 ∨ q = 99) ∨ Iₚ q j = I q j) ∧ (∀ q j : Nat, (q = 94) ∨ Jₚ q j = J q j) ∧ (∃ z : Int, r = some (.inl z) ∧ (-1) ≤ z ∧ z ≤ 1 ∧ (gc_OP Jₚ Iₚ) ∧ (0 ≤ z ∨ (Iₚ 86 17 ≤ Iₚ 86 9 ∧ Iₚ 86 9 ≤ Iₚ 86 16)))))) (255, [(0, .inr (.inr (some 86))), (1, .inl v1_6), (3, .inr (.inl v3_32)), (7, .inl v7_116)], [.inl s0_116], sh, gc_h sh I J A) := by
  have FI : ∀ q j : Nat, (q = 95 ∨ q = 96 ∨ q = 98 ∨ (q = 86 ∧ j = 9) ∨ (q = 86 ∧ j = 16) ∨ (q = 86 ∧ j = 17) ∨ (q = 86 ∧ j = 18) ∨ q = 97 ∨ q = 99) ∨ I q j = I q j := fun _ _ => Or.inr rfl
  have FJ : ∀ q j : Nat, (q = 94) ∨ J q j = J q j := fun _ _ => Or.inr rfl
  have A_86_0 : A 86 0 = some 1 := gc_bA_86_0 hb
  have B_1 : 1 < 1000000 := by decide
  have B_86 : 86 < 1000000 := by decide
  have B_88 : 88 < 1000000 := by decide
  have B_90 : 90 < 1000000 := by decide
  have R_86 : ro 86 = 74 := gc_bR_86 hb
  have R_88 : ro 88 = 0 := gc_bR_88 hb
  have R_90 : ro 90 = 0 := gc_bR_90 hb
  have S_1 : sh[1]? = some (false, 8, 21) := gc_bS_1 hb
  have S_86 : sh[86]? = some (false, 10, 19) := gc_bS_86 hb
  have S_88 : sh[88]? = some (true, 2, 300) := gc_bS_88 hb
  have S_90 : sh[90]? = some (true, 2, 300) := gc_bS_90 hb
  have S_o : sh[o]? = some (true, 1, 300) := by
    rcases (show o = 87 ∨ o = 89 from by omega) with h9 | h9 <;> rw [h9] <;> exact gc_bS hb rfl
  have R_o : ro o = 77 := by
    rcases (show o = 87 ∨ o = 89 from by omega) with h9 | h9 <;> rw [h9] <;> exact gc_bR hb (by decide) rfl
  have B_o : o < 1000000 := by omega
  have hD : gv_D (gc_E10 ws0 tb 2 (yX10_lookAt, cX10_lookAt, 10, (some .int)) kX10_lookAt) := gq_of oX10_lookAt
  have f1 := (gc_b_74_1 hI R_86)
  have f2 := (gc_b_74_2 hI R_86)
  have f3 := (gc_b_74_9 hI R_86)
  have f4 := (gc_b_74_16 hI R_86)
  have f5 := (gc_b_74_17 hI R_86)
  intro v7_116 s0_116 m_116
  obtain ⟨hv1_6_116, hv7_116, hs0_116⟩ := m_116
  have f117 := (gc_b_74_1 hI R_86)
  have f118 := (gc_b_74_2 hI R_86)
  have f119 := (gc_b_74_9 hI R_86)
  have f120 := (gc_b_74_16 hI R_86)
  have f121 := (gc_b_74_17 hI R_86)
  have L280 : gv_X (gc_E10 ws0 tb 2 (yX10_lookAt, cX10_lookAt, 10, (some .int)) kX10_lookAt) (gv_Q cX10_lookAt (some .int) sh (fun r hₚ => (∃ (Iₚ : gr_I) (Jₚ : gr_J), hₚ = gc_h sh Iₚ Jₚ A ∧ gc_Inv ro Iₚ ∧ (∀ q j : Nat, (q = 95 ∨ q = 96 ∨ q = 98 ∨ (q = 86 ∧ j = 9) ∨ (q = 86 ∧ j = 16) ∨ (q = 86 ∧ j = 17) ∨ (q = 86 ∧ j = 18) ∨ q = 97 ∨ q = 99) ∨ Iₚ q j = I q j) ∧ (∀ q j : Nat, (q = 94) ∨ Jₚ q j = J q j) ∧ (∃ z : Int, r = some (.inl z) ∧ (-1) ≤ z ∧ z ≤ 1 ∧ (gc_OP Jₚ Iₚ) ∧ (0 ≤ z ∨ (Iₚ 86 17 ≤ Iₚ 86 9 ∧ Iₚ 86 9 ≤ Iₚ 86 16)))))) (280, [(0, .inr (.inr (some 86)))], [], sh, gc_h sh I J A) := by
    have f123 := (gc_b_74_1 hI R_86)
    have f124 := (gc_b_74_2 hI R_86)
    have f125 := (gc_b_74_9 hI R_86)
    have f126 := (gc_b_74_16 hI R_86)
    have f127 := (gc_b_74_17 hI R_86)
    refine gv_run 1 true hD (pcₚ := 281) (lvₚ := [(0, .inr (.inr (some 86)))]) (stₚ := [.inr (.inr (some 86))]) (hₚ := gc_h sh I J A) (C := (True ∧ True)) rfl ⟨trivial, trivial⟩ ?_
    obtain ⟨r128, h128, E128, P128⟩ := d_X10_stray (ws0 := ws0) (tb := tb) hws htb sh ro I J A hI   hb     
    obtain ⟨I129, J130, rfl, hI129, g128, k128, ⟨z128, rfl, q128⟩⟩ := P128
    have FI129 := gc_frc (W := fun q j => q = 95 ∨ q = 96 ∨ q = 98 ∨ (q = 86 ∧ j = 9) ∨ (q = 86 ∧ j = 16) ∨ (q = 86 ∧ j = 17) ∨ (q = 86 ∧ j = 18) ∨ q = 97 ∨ q = 99) (V := fun q j => (q = 86 ∧ j = 18)) FI (fun q j h => (Or.inr (Or.inr (Or.inr (Or.inr (Or.inr (Or.inr (Or.inl h)))))))) g128
    have t131 := (g128 86 1).resolve_left (fun h => absurd h.2 (by decide))
    have t132 := (g128 86 2).resolve_left (fun h => absurd h.2 (by decide))
    have t133 := (g128 86 9).resolve_left (fun h => absurd h.2 (by decide))
    have t134 := (g128 86 16).resolve_left (fun h => absurd h.2 (by decide))
    have t135 := (g128 86 17).resolve_left (fun h => absurd h.2 (by decide))
    obtain rfl : J = J130 := funext fun q => funext fun j => ((k128 q j).resolve_left id).symm
    refine gv_callV hD rfl (As := []) (st := []) rfl B_86 S_86 rfl (gc_lV10 hws rfl) (Nat.le_of_ble_eq_true rfl) (gz_Ev_mono (d := 1) (by decide) E128) ?_
    show gv_X _ _ (284, [(0, .inr (.inr (some 86)))], [.inl z128], sh, gc_h sh I129 J A)
    exact gv_iret hD rfl ⟨I129, J, rfl, hI129, FI129, FJ, ⟨_, rfl, by omega, by omega, (gc_OP_fr (m := 301) x5 (by omega) (fun k => ((g128 95 k).resolve_left (by omega))) (fun k => ((g128 98 k).resolve_left (by omega))) (fun k _ => ((g128 96 k).resolve_left (by omega))) (fun h => by omega)), by omega⟩⟩
  have L285 : ∀ (v8_136 : Int), ((0 ≤ v7_116 ∧ v7_116 ≤ 399) ∧ ((-1) ≤ v8_136 ∧ v8_136 ≤ 399)) → gv_X (gc_E10 ws0 tb 2 (yX10_lookAt, cX10_lookAt, 10, (some .int)) kX10_lookAt) (gv_Q cX10_lookAt (some .int) sh (fun r hₚ => (∃ (Iₚ : gr_I) (Jₚ : gr_J), hₚ = gc_h sh Iₚ Jₚ A ∧ gc_Inv ro Iₚ ∧ (∀ q j : Nat, (q = 95 ∨ q = 96 ∨ q = 98 ∨ (q = 86 ∧ j = 9) ∨ (q = 86 ∧ j = 16) ∨ (q = 86 ∧ j = 17) ∨ (q = 86 ∧ j = 18) ∨ q = 97 ∨ q = 99) ∨ Iₚ q j = I q j) ∧ (∀ q j : Nat, (q = 94) ∨ Jₚ q j = J q j) ∧ (∃ z : Int, r = some (.inl z) ∧ (-1) ≤ z ∧ z ≤ 1 ∧ (gc_OP Jₚ Iₚ) ∧ (0 ≤ z ∨ (Iₚ 86 17 ≤ Iₚ 86 9 ∧ Iₚ 86 9 ≤ Iₚ 86 16)))))) (285, [(0, .inr (.inr (some 86))), (3, .inr (.inl v3_32)), (7, .inl v7_116), (8, .inl v8_136)], [], sh, gc_h sh I J A) := by
    intro v8_136 m_136
    obtain ⟨hv7_116_136, hv8_136⟩ := m_136
    have f137 := (gc_b_74_1 hI R_86)
    have f138 := (gc_b_74_2 hI R_86)
    have f139 := (gc_b_74_9 hI R_86)
    have f140 := (gc_b_74_16 hI R_86)
    have f141 := (gc_b_74_17 hI R_86)
    have L328 : ∀ (s0_142 : Int), ((0 ≤ s0_142 ∧ s0_142 ≤ 1)) → gv_X (gc_E10 ws0 tb 2 (yX10_lookAt, cX10_lookAt, 10, (some .int)) kX10_lookAt) (gv_Q cX10_lookAt (some .int) sh (fun r hₚ => (∃ (Iₚ : gr_I) (Jₚ : gr_J), hₚ = gc_h sh Iₚ Jₚ A ∧ gc_Inv ro Iₚ ∧ (∀ q j : Nat, (q = 95 ∨ q = 96 ∨ q = 98 ∨ (q = 86 ∧ j = 9) ∨ (q = 86 ∧ j = 16) ∨ (q = 86 ∧ j = 17) ∨ (q = 86 ∧ j = 18) ∨ q = 97 ∨ q = 99) ∨ Iₚ q j = I q j) ∧ (∀ q j : Nat, (q = 94) ∨ Jₚ q j = J q j) ∧ (∃ z : Int, r = some (.inl z) ∧ (-1) ≤ z ∧ z ≤ 1 ∧ (gc_OP Jₚ Iₚ) ∧ (0 ≤ z ∨ (Iₚ 86 17 ≤ Iₚ 86 9 ∧ Iₚ 86 9 ≤ Iₚ 86 16)))))) (328, [], [.inl s0_142], sh, gc_h sh I J A) := by
      intro s0_142 m_142
      have hs0_142 := m_142
      have f143 := (gc_b_74_1 hI R_86)
      have f144 := (gc_b_74_2 hI R_86)
      have f145 := (gc_b_74_9 hI R_86)
      have f146 := (gc_b_74_16 hI R_86)
      have f147 := (gc_b_74_17 hI R_86)
      have L340 : ∀ (s0_148 : Int), ((0 ≤ s0_148 ∧ s0_148 ≤ 1)) → gv_X (gc_E10 ws0 tb 2 (yX10_lookAt, cX10_lookAt, 10, (some .int)) kX10_lookAt) (gv_Q cX10_lookAt (some .int) sh (fun r hₚ => (∃ (Iₚ : gr_I) (Jₚ : gr_J), hₚ = gc_h sh Iₚ Jₚ A ∧ gc_Inv ro Iₚ ∧ (∀ q j : Nat, (q = 95 ∨ q = 96 ∨ q = 98 ∨ (q = 86 ∧ j = 9) ∨ (q = 86 ∧ j = 16) ∨ (q = 86 ∧ j = 17) ∨ (q = 86 ∧ j = 18) ∨ q = 97 ∨ q = 99) ∨ Iₚ q j = I q j) ∧ (∀ q j : Nat, (q = 94) ∨ Jₚ q j = J q j) ∧ (∃ z : Int, r = some (.inl z) ∧ (-1) ≤ z ∧ z ≤ 1 ∧ (gc_OP Jₚ Iₚ) ∧ (0 ≤ z ∨ (Iₚ 86 17 ≤ Iₚ 86 9 ∧ Iₚ 86 9 ≤ Iₚ 86 16)))))) (340, [], [.inl s0_148], sh, gc_h sh I J A) := by
        intro s0_148 m_148
        have hs0_148 := m_148
        have f149 := (gc_b_74_1 hI R_86)
        have f150 := (gc_b_74_2 hI R_86)
        have f151 := (gc_b_74_9 hI R_86)
        have f152 := (gc_b_74_16 hI R_86)
        have f153 := (gc_b_74_17 hI R_86)
        exact gv_iret hD rfl ⟨I, J, rfl, hI, FI, FJ, ⟨_, rfl, by omega, by omega, x5, by omega⟩⟩
      refine gv_run 2 true hD (pcₚ := 332) (lvₚ := [(9, .inl s0_142)]) (stₚ := [.inl s0_142]) (hₚ := gc_h sh I J A) (C := ((True ∧ True) ∧ True)) rfl ⟨⟨trivial, trivial⟩, trivial⟩ ?_
      refine gv_if_eq (t := 339) hD rfl rfl ⟨by omega, by omega⟩ (fun c154 => ?_) (fun c154 => ?_)
      · show gv_X _ _ (339, [(9, .inl s0_142)], [], sh, gc_h sh I J A)
        refine gv_run 1 true hD (pcₚ := 340) (lvₚ := [(9, .inl s0_142)]) (stₚ := [.inl 0]) (hₚ := gc_h sh I J A) (C := (True ∧ True)) rfl ⟨trivial, trivial⟩ ?_
        refine gv_pick [] rfl ?_
        exact L340 0 (by omega)
      · show gv_X _ _ (335, [(9, .inl s0_142)], [], sh, gc_h sh I J A)
        refine gv_run 2 true hD (pcₚ := 340) (lvₚ := [(9, .inl s0_142)]) (stₚ := [.inl 1]) (hₚ := gc_h sh I J A) (C := ((True ∧ True) ∧ True)) rfl ⟨⟨trivial, trivial⟩, trivial⟩ ?_
        refine gv_pick [] rfl ?_
        exact L340 1 (by omega)
    have f155 := gw_cmp (v3_32) ((26995))
    refine gv_run 3 true hD (pcₚ := 290) (lvₚ := [(0, .inr (.inr (some 86))), (3, .inr (.inl v3_32)), (7, .inl v7_116), (8, .inl v8_136)]) (stₚ := [.inl ((lg_cmp (v3_32) ((26995))).toInt)]) (hₚ := gc_h sh I J A) (C := (((True ∧ True) ∧ True) ∧ True)) rfl ⟨⟨⟨trivial, trivial⟩, trivial⟩, trivial⟩ ?_
    refine gv_if_ne (t := 308) hD rfl rfl ⟨by omega, by omega⟩ (fun c156 => ?_) (fun c156 => ?_)
    · show gv_X _ _ (308, [(0, .inr (.inr (some 86))), (3, .inr (.inl v3_32)), (7, .inl v7_116), (8, .inl v8_136)], [], sh, gc_h sh I J A)
      refine gv_run 1 true hD (pcₚ := 309) (lvₚ := [(0, .inr (.inr (some 86))), (3, .inr (.inl v3_32)), (7, .inl v7_116), (8, .inl v8_136)]) (stₚ := [.inr (.inr (some 86))]) (hₚ := gc_h sh I J A) (C := (True ∧ True)) rfl ⟨trivial, trivial⟩ ?_
      refine gv_get hD rfl rfl S_86 ⟨by decide, B_86⟩ (gc_hA S_86 rfl A_86_0) ?_
      show gv_X _ _ (312, [(0, .inr (.inr (some 86))), (3, .inr (.inl v3_32)), (7, .inl v7_116), (8, .inl v8_136)], [.inr (.inr (some 1))], sh, gc_h sh I J A)
      refine gv_run 3 true hD (pcₚ := 317) (lvₚ := [(0, .inr (.inr (some 86))), (3, .inr (.inl v3_32)), (7, .inl v7_116), (8, .inl v8_136)]) (stₚ := [.inl v8_136, .inl v7_116, .inr (.inl v3_32), .inr (.inr (some 1))]) (hₚ := gc_h sh I J A) (C := (((True ∧ True) ∧ True) ∧ True)) rfl ⟨⟨⟨trivial, trivial⟩, trivial⟩, trivial⟩ ?_
      obtain ⟨r157, h157, E157, P157⟩ := d_X8_findFact (ws0 := ws0) (tb := tb) hws htb sh ro I J A hI  v3_32 v7_116 v8_136 hb   ⟨by omega, by omega⟩ ⟨by omega, by omega⟩  
      obtain ⟨rfl, ⟨z157, rfl, q157⟩⟩ := P157
      refine gv_callV hD rfl (As := [.inr (.inl v3_32), .inl v7_116, .inl v8_136]) (st := []) rfl B_1 S_1 rfl (gc_lV10 hws rfl) (Nat.le_of_ble_eq_true rfl) (gz_Ev_mono (d := 1) (by decide) E157) ?_
      show gv_X _ _ (320, [(0, .inr (.inr (some 86))), (3, .inr (.inl v3_32)), (7, .inl v7_116), (8, .inl v8_136)], [.inl z157], sh, gc_h sh I J A)
      refine gv_if_lt (t := 327) hD rfl rfl ⟨by omega, by omega⟩ (fun c158 => ?_) (fun c158 => ?_)
      · show gv_X _ _ (327, [(0, .inr (.inr (some 86))), (3, .inr (.inl v3_32)), (7, .inl v7_116), (8, .inl v8_136)], [], sh, gc_h sh I J A)
        refine gv_run 1 true hD (pcₚ := 328) (lvₚ := [(0, .inr (.inr (some 86))), (3, .inr (.inl v3_32)), (7, .inl v7_116), (8, .inl v8_136)]) (stₚ := [.inl 0]) (hₚ := gc_h sh I J A) (C := (True ∧ True)) rfl ⟨trivial, trivial⟩ ?_
        refine gv_pick [] rfl ?_
        exact L328 0 (by omega)
      · show gv_X _ _ (323, [(0, .inr (.inr (some 86))), (3, .inr (.inl v3_32)), (7, .inl v7_116), (8, .inl v8_136)], [], sh, gc_h sh I J A)
        refine gv_run 2 true hD (pcₚ := 328) (lvₚ := [(0, .inr (.inr (some 86))), (3, .inr (.inl v3_32)), (7, .inl v7_116), (8, .inl v8_136)]) (stₚ := [.inl 1]) (hₚ := gc_h sh I J A) (C := ((True ∧ True) ∧ True)) rfl ⟨⟨trivial, trivial⟩, trivial⟩ ?_
        refine gv_pick [] rfl ?_
        exact L328 1 (by omega)
    · show gv_X _ _ (293, [(0, .inr (.inr (some 86))), (3, .inr (.inl v3_32)), (7, .inl v7_116), (8, .inl v8_136)], [], sh, gc_h sh I J A)
      refine gv_run 2 true hD (pcₚ := 297) (lvₚ := [(0, .inr (.inr (some 86))), (3, .inr (.inl v3_32)), (7, .inl v7_116), (8, .inl v8_136)]) (stₚ := [.inl v8_136, .inl v7_116]) (hₚ := gc_h sh I J A) (C := ((True ∧ True) ∧ True)) rfl ⟨⟨trivial, trivial⟩, trivial⟩ ?_
      refine gv_icmp_ne (t := 304) hD rfl rfl ⟨⟨by omega, by omega⟩, ⟨by omega, by omega⟩⟩ (fun c159 => ?_) (fun c159 => ?_)
      · show gv_X _ _ (304, [(0, .inr (.inr (some 86))), (3, .inr (.inl v3_32)), (7, .inl v7_116), (8, .inl v8_136)], [], sh, gc_h sh I J A)
        refine gv_run 2 true hD (pcₚ := 328) (lvₚ := [(0, .inr (.inr (some 86))), (3, .inr (.inl v3_32)), (7, .inl v7_116), (8, .inl v8_136)]) (stₚ := [.inl 0]) (hₚ := gc_h sh I J A) (C := ((True ∧ True) ∧ True)) rfl ⟨⟨trivial, trivial⟩, trivial⟩ ?_
        refine gv_pick [] rfl ?_
        exact L328 0 (by omega)
      · show gv_X _ _ (300, [(0, .inr (.inr (some 86))), (3, .inr (.inl v3_32)), (7, .inl v7_116), (8, .inl v8_136)], [], sh, gc_h sh I J A)
        refine gv_run 2 true hD (pcₚ := 328) (lvₚ := [(0, .inr (.inr (some 86))), (3, .inr (.inl v3_32)), (7, .inl v7_116), (8, .inl v8_136)]) (stₚ := [.inl 1]) (hₚ := gc_h sh I J A) (C := ((True ∧ True) ∧ True)) rfl ⟨⟨trivial, trivial⟩, trivial⟩ ?_
        refine gv_pick [] rfl ?_
        exact L328 1 (by omega)
  refine gv_run 2 true hD (pcₚ := 259) (lvₚ := [(8, .inl s0_116), (0, .inr (.inr (some 86))), (1, .inl v1_6), (3, .inr (.inl v3_32)), (7, .inl v7_116)]) (stₚ := [.inl v7_116]) (hₚ := gc_h sh I J A) (C := ((True ∧ True) ∧ True)) rfl ⟨⟨trivial, trivial⟩, trivial⟩ ?_
  refine gv_if_lt (t := 280) hD rfl rfl ⟨by omega, by omega⟩ (fun c160 => ?_) (fun c160 => ?_)
  · show gv_X _ _ (280, [(8, .inl s0_116), (0, .inr (.inr (some 86))), (1, .inl v1_6), (3, .inr (.inl v3_32)), (7, .inl v7_116)], [], sh, gc_h sh I J A)
    refine gv_pick [1] rfl ?_
    exact L280 
  · show gv_X _ _ (262, [(8, .inl s0_116), (0, .inr (.inr (some 86))), (1, .inl v1_6), (3, .inr (.inl v3_32)), (7, .inl v7_116)], [], sh, gc_h sh I J A)
    refine gv_run 1 true hD (pcₚ := 264) (lvₚ := [(8, .inl s0_116), (0, .inr (.inr (some 86))), (1, .inl v1_6), (3, .inr (.inl v3_32)), (7, .inl v7_116)]) (stₚ := [.inl s0_116]) (hₚ := gc_h sh I J A) (C := (True ∧ True)) rfl ⟨trivial, trivial⟩ ?_
    refine gv_if_ge (t := 285) hD rfl rfl ⟨by omega, by omega⟩ (fun c161 => ?_) (fun c161 => ?_)
    · show gv_X _ _ (285, [(8, .inl s0_116), (0, .inr (.inr (some 86))), (1, .inl v1_6), (3, .inr (.inl v3_32)), (7, .inl v7_116)], [], sh, gc_h sh I J A)
      refine gv_pick [1, 3, 4, 0] rfl ?_
      exact L285 s0_116 (by omega)
    · show gv_X _ _ (267, [(8, .inl s0_116), (0, .inr (.inr (some 86))), (1, .inl v1_6), (3, .inr (.inl v3_32)), (7, .inl v7_116)], [], sh, gc_h sh I J A)
      refine gv_run 2 true hD (pcₚ := 269) (lvₚ := [(8, .inl s0_116), (0, .inr (.inr (some 86))), (1, .inl v1_6), (3, .inr (.inl v3_32)), (7, .inl v7_116)]) (stₚ := [.inl 2, .inl v1_6]) (hₚ := gc_h sh I J A) (C := ((True ∧ True) ∧ True)) rfl ⟨⟨trivial, trivial⟩, trivial⟩ ?_
      refine gv_icmp_eq (t := 280) hD rfl rfl ⟨⟨by omega, by omega⟩, ⟨by omega, by omega⟩⟩ (fun c162 => ?_) (fun c162 => ?_)
      · show gv_X _ _ (280, [(8, .inl s0_116), (0, .inr (.inr (some 86))), (1, .inl v1_6), (3, .inr (.inl v3_32)), (7, .inl v7_116)], [], sh, gc_h sh I J A)
        refine gv_pick [1] rfl ?_
        exact L280 
      · show gv_X _ _ (272, [(8, .inl s0_116), (0, .inr (.inr (some 86))), (1, .inl v1_6), (3, .inr (.inl v3_32)), (7, .inl v7_116)], [], sh, gc_h sh I J A)
        have f163 := gw_cmp (v3_32) ((26995))
        refine gv_run 3 true hD (pcₚ := 277) (lvₚ := [(8, .inl s0_116), (0, .inr (.inr (some 86))), (1, .inl v1_6), (3, .inr (.inl v3_32)), (7, .inl v7_116)]) (stₚ := [.inl ((lg_cmp (v3_32) ((26995))).toInt)]) (hₚ := gc_h sh I J A) (C := (((True ∧ True) ∧ True) ∧ True)) rfl ⟨⟨⟨trivial, trivial⟩, trivial⟩, trivial⟩ ?_
        refine gv_if_ne (t := 285) hD rfl rfl ⟨by omega, by omega⟩ (fun c164 => ?_) (fun c164 => ?_)
        · show gv_X _ _ (285, [(8, .inl s0_116), (0, .inr (.inr (some 86))), (1, .inl v1_6), (3, .inr (.inl v3_32)), (7, .inl v7_116)], [], sh, gc_h sh I J A)
          refine gv_pick [1, 3, 4, 0] rfl ?_
          exact L285 s0_116 (by omega)
        · show gv_X _ _ (280, [(8, .inl s0_116), (0, .inr (.inr (some 86))), (1, .inl v1_6), (3, .inr (.inl v3_32)), (7, .inl v7_116)], [], sh, gc_h sh I J A)
          refine gv_pick [1] rfl ?_
          exact L280 
set_option maxHeartbeats 8000000 in
set_option maxRecDepth 100000 in
theorem d_X10_lookAt {ws0 : List Cond} {tb : String → gz_T} (hws : gc_Ws ws0) (htb : gc_tbs tb) (sh : gz_Sh) (ro : Nat → Nat) (I : gr_I) (J : gr_J) (A : gc_A) (hI : gc_Inv ro I) (o : Nat)  (hb : gc_Base sh ro A)  (x0 : 86 + 1 + 2 * Int.toNat (I 86 2) = o) (x1 : o = 87 ∨ o = 89) (x2 : gc_TC (I o) (I 86 1)) (x3 : I 86 17 ≤ I 86 9) (x4 : I 86 9 ≤ I 86 16) (x5 : gc_OP J I) : ∃ r hₚ, gz_Ev ws0 tb 3 (yX10_lookAt, cX10_lookAt, 10, (some .int)) [.inr (.inr (some 86))] sh (gc_h sh I J A) r sh hₚ 0 0 ∧ (∃ (Iₚ : gr_I) (Jₚ : gr_J), hₚ = gc_h sh Iₚ Jₚ A ∧ gc_Inv ro Iₚ ∧ (∀ q j : Nat, (q = 95 ∨ q = 96 ∨ q = 98 ∨ (q = 86 ∧ j = 9) ∨ (q = 86 ∧ j = 16) ∨ (q = 86 ∧ j = 17) ∨ (q = 86 ∧ j = 18) ∨ q = 97 ∨ q = 99) ∨ Iₚ q j = I q j) ∧ (∀ q j : Nat, (q = 94) ∨ Jₚ q j = J q j) ∧ (∃ z : Int, r = some (.inl z) ∧ (-1) ≤ z ∧ z ≤ 1 ∧ (gc_OP Jₚ Iₚ) ∧ (0 ≤ z ∨ (Iₚ 86 17 ≤ Iₚ 86 9 ∧ Iₚ 86 9 ≤ Iₚ 86 16)))) := by
  have FI : ∀ q j : Nat, (q = 95 ∨ q = 96 ∨ q = 98 ∨ (q = 86 ∧ j = 9) ∨ (q = 86 ∧ j = 16) ∨ (q = 86 ∧ j = 17) ∨ (q = 86 ∧ j = 18) ∨ q = 97 ∨ q = 99) ∨ I q j = I q j := fun _ _ => Or.inr rfl
  have FJ : ∀ q j : Nat, (q = 94) ∨ J q j = J q j := fun _ _ => Or.inr rfl
  have A_86_0 : A 86 0 = some 1 := gc_bA_86_0 hb
  have B_1 : 1 < 1000000 := by decide
  have B_86 : 86 < 1000000 := by decide
  have B_88 : 88 < 1000000 := by decide
  have B_90 : 90 < 1000000 := by decide
  have R_86 : ro 86 = 74 := gc_bR_86 hb
  have R_88 : ro 88 = 0 := gc_bR_88 hb
  have R_90 : ro 90 = 0 := gc_bR_90 hb
  have S_1 : sh[1]? = some (false, 8, 21) := gc_bS_1 hb
  have S_86 : sh[86]? = some (false, 10, 19) := gc_bS_86 hb
  have S_88 : sh[88]? = some (true, 2, 300) := gc_bS_88 hb
  have S_90 : sh[90]? = some (true, 2, 300) := gc_bS_90 hb
  have S_o : sh[o]? = some (true, 1, 300) := by
    rcases (show o = 87 ∨ o = 89 from by omega) with h9 | h9 <;> rw [h9] <;> exact gc_bS hb rfl
  have R_o : ro o = 77 := by
    rcases (show o = 87 ∨ o = 89 from by omega) with h9 | h9 <;> rw [h9] <;> exact gc_bR hb (by decide) rfl
  have B_o : o < 1000000 := by omega
  have hD : gv_D (gc_E10 ws0 tb 2 (yX10_lookAt, cX10_lookAt, 10, (some .int)) kX10_lookAt) := gq_of oX10_lookAt
  refine gc_ev10 (d := 2) (l := kX10_lookAt) (Po := fun r hₚ => (∃ (Iₚ : gr_I) (Jₚ : gr_J), hₚ = gc_h sh Iₚ Jₚ A ∧ gc_Inv ro Iₚ ∧ (∀ q j : Nat, (q = 95 ∨ q = 96 ∨ q = 98 ∨ (q = 86 ∧ j = 9) ∨ (q = 86 ∧ j = 16) ∨ (q = 86 ∧ j = 17) ∨ (q = 86 ∧ j = 18) ∨ q = 97 ∨ q = 99) ∨ Iₚ q j = I q j) ∧ (∀ q j : Nat, (q = 94) ∨ Jₚ q j = J q j) ∧ (∃ z : Int, r = some (.inl z) ∧ (-1) ≤ z ∧ z ≤ 1 ∧ (gc_OP Jₚ Iₚ) ∧ (0 ≤ z ∨ (Iₚ 86 17 ≤ Iₚ 86 9 ∧ Iₚ 86 9 ≤ Iₚ 86 16))))) htb rfl (Nat.le_of_ble_eq_true rfl) ?_
  have f1 := (gc_b_74_1 hI R_86)
  have f2 := (gc_b_74_2 hI R_86)
  have f3 := (gc_b_74_9 hI R_86)
  have f4 := (gc_b_74_16 hI R_86)
  have f5 := (gc_b_74_17 hI R_86)
  have L2 : ∀ (n9 : Nat) (v1_6 : Int), (301 - v1_6).toNat < n9 → ((0 ≤ v1_6 ∧ v1_6 ≤ 300) ∧ (gc_N (I o) (Int.toNat (I 86 16 + v1_6)) = gc_N (I o) (Int.toNat (I 86 16)) + v1_6) ∧ (v1_6 = 0 ∨ I 86 16 + v1_6 ≤ I 86 1)) → gv_X (gc_E10 ws0 tb 2 (yX10_lookAt, cX10_lookAt, 10, (some .int)) kX10_lookAt) (gv_Q cX10_lookAt (some .int) sh (fun r hₚ => (∃ (Iₚ : gr_I) (Jₚ : gr_J), hₚ = gc_h sh Iₚ Jₚ A ∧ gc_Inv ro Iₚ ∧ (∀ q j : Nat, (q = 95 ∨ q = 96 ∨ q = 98 ∨ (q = 86 ∧ j = 9) ∨ (q = 86 ∧ j = 16) ∨ (q = 86 ∧ j = 17) ∨ (q = 86 ∧ j = 18) ∨ q = 97 ∨ q = 99) ∨ Iₚ q j = I q j) ∧ (∀ q j : Nat, (q = 94) ∨ Jₚ q j = J q j) ∧ (∃ z : Int, r = some (.inl z) ∧ (-1) ≤ z ∧ z ≤ 1 ∧ (gc_OP Jₚ Iₚ) ∧ (0 ≤ z ∨ (Iₚ 86 17 ≤ Iₚ 86 9 ∧ Iₚ 86 9 ≤ Iₚ 86 16)))))) (2, [(0, .inr (.inr (some 86))), (1, .inl v1_6)], [], sh, gc_h sh I J A) := by
    intro n9
    induction n9 with
    | zero => intro v1_6 hn; omega
    | succ n9 ih2 =>
      intro v1_6 hn m_6
      obtain ⟨hv1_6, e0_6, e1_6⟩ := m_6
      have f7 := (gc_b_74_1 hI R_86)
      have f8 := (gc_b_74_2 hI R_86)
      have f9 := (gc_b_74_9 hI R_86)
      have f10 := (gc_b_74_16 hI R_86)
      have f11 := (gc_b_74_17 hI R_86)
      have L36 : ((0 ≤ v1_6 ∧ v1_6 ≤ 300) ∧ (gc_N (I o) (Int.toNat (I 86 16 + v1_6)) = gc_N (I o) (Int.toNat (I 86 16)) + v1_6) ∧ (v1_6 = 0 ∨ I 86 16 + v1_6 ≤ I 86 1)) → gv_X (gc_E10 ws0 tb 2 (yX10_lookAt, cX10_lookAt, 10, (some .int)) kX10_lookAt) (gv_Q cX10_lookAt (some .int) sh (fun r hₚ => (∃ (Iₚ : gr_I) (Jₚ : gr_J), hₚ = gc_h sh Iₚ Jₚ A ∧ gc_Inv ro Iₚ ∧ (∀ q j : Nat, (q = 95 ∨ q = 96 ∨ q = 98 ∨ (q = 86 ∧ j = 9) ∨ (q = 86 ∧ j = 16) ∨ (q = 86 ∧ j = 17) ∨ (q = 86 ∧ j = 18) ∨ q = 97 ∨ q = 99) ∨ Iₚ q j = I q j) ∧ (∀ q j : Nat, (q = 94) ∨ Jₚ q j = J q j) ∧ (∃ z : Int, r = some (.inl z) ∧ (-1) ≤ z ∧ z ≤ 1 ∧ (gc_OP Jₚ Iₚ) ∧ (0 ≤ z ∨ (Iₚ 86 17 ≤ Iₚ 86 9 ∧ Iₚ 86 9 ≤ Iₚ 86 16)))))) (36, [(0, .inr (.inr (some 86))), (1, .inl v1_6)], [], sh, gc_h sh I J A) := by
        intro m_12
        obtain ⟨hv1_6_12, e0_12, e1_12⟩ := m_12
        have f13 := (gc_b_74_1 hI R_86)
        have f14 := (gc_b_74_2 hI R_86)
        have f15 := (gc_b_74_9 hI R_86)
        have f16 := (gc_b_74_16 hI R_86)
        have f17 := (gc_b_74_17 hI R_86)
        have L72 : gv_X (gc_E10 ws0 tb 2 (yX10_lookAt, cX10_lookAt, 10, (some .int)) kX10_lookAt) (gv_Q cX10_lookAt (some .int) sh (fun r hₚ => (∃ (Iₚ : gr_I) (Jₚ : gr_J), hₚ = gc_h sh Iₚ Jₚ A ∧ gc_Inv ro Iₚ ∧ (∀ q j : Nat, (q = 95 ∨ q = 96 ∨ q = 98 ∨ (q = 86 ∧ j = 9) ∨ (q = 86 ∧ j = 16) ∨ (q = 86 ∧ j = 17) ∨ (q = 86 ∧ j = 18) ∨ q = 97 ∨ q = 99) ∨ Iₚ q j = I q j) ∧ (∀ q j : Nat, (q = 94) ∨ Jₚ q j = J q j) ∧ (∃ z : Int, r = some (.inl z) ∧ (-1) ≤ z ∧ z ≤ 1 ∧ (gc_OP Jₚ Iₚ) ∧ (0 ≤ z ∨ (Iₚ 86 17 ≤ Iₚ 86 9 ∧ Iₚ 86 9 ≤ Iₚ 86 16)))))) (72, [(0, .inr (.inr (some 86)))], [], sh, gc_h sh I J A) := by
          have f19 := (gc_b_74_1 hI R_86)
          have f20 := (gc_b_74_2 hI R_86)
          have f21 := (gc_b_74_9 hI R_86)
          have f22 := (gc_b_74_16 hI R_86)
          have f23 := (gc_b_74_17 hI R_86)
          refine gv_run 1 true hD (pcₚ := 73) (lvₚ := [(0, .inr (.inr (some 86)))]) (stₚ := [.inr (.inr (some 86))]) (hₚ := gc_h sh I J A) (C := (True ∧ True)) rfl ⟨trivial, trivial⟩ ?_
          obtain ⟨r24, h24, E24, P24⟩ := d_X10_stray (ws0 := ws0) (tb := tb) hws htb sh ro I J A hI   hb     
          obtain ⟨I25, J26, rfl, hI25, g24, k24, ⟨z24, rfl, q24⟩⟩ := P24
          have FI25 := gc_frc (W := fun q j => q = 95 ∨ q = 96 ∨ q = 98 ∨ (q = 86 ∧ j = 9) ∨ (q = 86 ∧ j = 16) ∨ (q = 86 ∧ j = 17) ∨ (q = 86 ∧ j = 18) ∨ q = 97 ∨ q = 99) (V := fun q j => (q = 86 ∧ j = 18)) FI (fun q j h => (Or.inr (Or.inr (Or.inr (Or.inr (Or.inr (Or.inr (Or.inl h)))))))) g24
          have t27 := (g24 86 1).resolve_left (fun h => absurd h.2 (by decide))
          have t28 := (g24 86 2).resolve_left (fun h => absurd h.2 (by decide))
          have t29 := (g24 86 9).resolve_left (fun h => absurd h.2 (by decide))
          have t30 := (g24 86 16).resolve_left (fun h => absurd h.2 (by decide))
          have t31 := (g24 86 17).resolve_left (fun h => absurd h.2 (by decide))
          obtain rfl : J = J26 := funext fun q => funext fun j => ((k24 q j).resolve_left id).symm
          refine gv_callV hD rfl (As := []) (st := []) rfl B_86 S_86 rfl (gc_lV10 hws rfl) (Nat.le_of_ble_eq_true rfl) (gz_Ev_mono (d := 1) (by decide) E24) ?_
          show gv_X _ _ (76, [(0, .inr (.inr (some 86)))], [.inl z24], sh, gc_h sh I25 J A)
          exact gv_iret hD rfl ⟨I25, J, rfl, hI25, FI25, FJ, ⟨_, rfl, by omega, by omega, (gc_OP_fr (m := 301) x5 (by omega) (fun k => ((g24 95 k).resolve_left (by omega))) (fun k => ((g24 98 k).resolve_left (by omega))) (fun k _ => ((g24 96 k).resolve_left (by omega))) (fun h => by omega)), by omega⟩⟩
        have L104 : ∀ (v3_32 : Int64) (v5_32 : Int) (s0_32 : Int), ((1 ≤ v1_6 ∧ v1_6 ≤ 2) ∧ (0 ≤ v5_32 ∧ v5_32 ≤ 300) ∧ ((-1) ≤ s0_32 ∧ s0_32 ≤ 300) ∧ ((s0_32 = -1 ∧ v1_6 = 1) ∨ (v1_6 = 2 ∧ v5_32 < s0_32 ∧ s0_32 ≤ I 86 1)) ∧ (v5_32 < I 86 1) ∧ (I 86 9 + 2 ≤ v5_32)) → gv_X (gc_E10 ws0 tb 2 (yX10_lookAt, cX10_lookAt, 10, (some .int)) kX10_lookAt) (gv_Q cX10_lookAt (some .int) sh (fun r hₚ => (∃ (Iₚ : gr_I) (Jₚ : gr_J), hₚ = gc_h sh Iₚ Jₚ A ∧ gc_Inv ro Iₚ ∧ (∀ q j : Nat, (q = 95 ∨ q = 96 ∨ q = 98 ∨ (q = 86 ∧ j = 9) ∨ (q = 86 ∧ j = 16) ∨ (q = 86 ∧ j = 17) ∨ (q = 86 ∧ j = 18) ∨ q = 97 ∨ q = 99) ∨ Iₚ q j = I q j) ∧ (∀ q j : Nat, (q = 94) ∨ Jₚ q j = J q j) ∧ (∃ z : Int, r = some (.inl z) ∧ (-1) ≤ z ∧ z ≤ 1 ∧ (gc_OP Jₚ Iₚ) ∧ (0 ≤ z ∨ (Iₚ 86 17 ≤ Iₚ 86 9 ∧ Iₚ 86 9 ≤ Iₚ 86 16)))))) (104, [(0, .inr (.inr (some 86))), (1, .inl v1_6), (3, .inr (.inl v3_32)), (5, .inl v5_32)], [.inl s0_32], sh, gc_h sh I J A) := by
          intro v3_32 v5_32 s0_32 m_32
          obtain ⟨hv1_6_32, hv5_32, hs0_32, e0_32, e1_32, e2_32⟩ := m_32
          have f33 := (gc_b_74_1 hI R_86)
          have f34 := (gc_b_74_2 hI R_86)
          have f35 := (gc_b_74_9 hI R_86)
          have f36 := (gc_b_74_16 hI R_86)
          have f37 := (gc_b_74_17 hI R_86)
          have L130 : ∀ (v6_38 : Int), ((1 ≤ v1_6 ∧ v1_6 ≤ 2) ∧ (0 ≤ v5_32 ∧ v5_32 ≤ 300) ∧ ((-1) ≤ v6_38 ∧ v6_38 ≤ 300) ∧ ((v6_38 = -1 ∧ v1_6 = 1) ∨ (v1_6 = 2 ∧ v5_32 < v6_38 ∧ v6_38 ≤ I 86 1))) → gv_X (gc_E10 ws0 tb 2 (yX10_lookAt, cX10_lookAt, 10, (some .int)) kX10_lookAt) (gv_Q cX10_lookAt (some .int) sh (fun r hₚ => (∃ (Iₚ : gr_I) (Jₚ : gr_J), hₚ = gc_h sh Iₚ Jₚ A ∧ gc_Inv ro Iₚ ∧ (∀ q j : Nat, (q = 95 ∨ q = 96 ∨ q = 98 ∨ (q = 86 ∧ j = 9) ∨ (q = 86 ∧ j = 16) ∨ (q = 86 ∧ j = 17) ∨ (q = 86 ∧ j = 18) ∨ q = 97 ∨ q = 99) ∨ Iₚ q j = I q j) ∧ (∀ q j : Nat, (q = 94) ∨ Jₚ q j = J q j) ∧ (∃ z : Int, r = some (.inl z) ∧ (-1) ≤ z ∧ z ≤ 1 ∧ (gc_OP Jₚ Iₚ) ∧ (0 ≤ z ∨ (Iₚ 86 17 ≤ Iₚ 86 9 ∧ Iₚ 86 9 ≤ Iₚ 86 16)))))) (130, [(0, .inr (.inr (some 86))), (1, .inl v1_6), (3, .inr (.inl v3_32)), (5, .inl v5_32), (6, .inl v6_38)], [], sh, gc_h sh I J A) := by
            intro v6_38 m_38
            obtain ⟨hv1_6_38, hv5_32_38, hv6_38, e0_38⟩ := m_38
            have f39 := (gc_b_74_1 hI R_86)
            have f40 := (gc_b_74_2 hI R_86)
            have f41 := (gc_b_74_9 hI R_86)
            have f42 := (gc_b_74_16 hI R_86)
            have f43 := (gc_b_74_17 hI R_86)
            have L151 : ∀ (I44 : gr_I) (J45 : gr_J) (s0_46 : Int), gc_Inv ro I44 → (∀ q j : Nat, (q = 95 ∨ q = 96 ∨ q = 98 ∨ (q = 86 ∧ j = 9) ∨ (q = 86 ∧ j = 16) ∨ (q = 86 ∧ j = 17) ∨ (q = 86 ∧ j = 18) ∨ q = 97 ∨ q = 99) ∨ I44 q j = I q j) → (∀ q j : Nat, (q = 94) ∨ J45 q j = J q j) → (((-1) ≤ s0_46 ∧ s0_46 ≤ 0) ∧ (0 ≤ s0_46 ∨ (I44 86 17 ≤ I44 86 9 ∧ I44 86 9 ≤ I44 86 16))) → (gc_OP J45 I44) → gv_X (gc_E10 ws0 tb 2 (yX10_lookAt, cX10_lookAt, 10, (some .int)) kX10_lookAt) (gv_Q cX10_lookAt (some .int) sh (fun r hₚ => (∃ (Iₚ : gr_I) (Jₚ : gr_J), hₚ = gc_h sh Iₚ Jₚ A ∧ gc_Inv ro Iₚ ∧ (∀ q j : Nat, (q = 95 ∨ q = 96 ∨ q = 98 ∨ (q = 86 ∧ j = 9) ∨ (q = 86 ∧ j = 16) ∨ (q = 86 ∧ j = 17) ∨ (q = 86 ∧ j = 18) ∨ q = 97 ∨ q = 99) ∨ Iₚ q j = I q j) ∧ (∀ q j : Nat, (q = 94) ∨ Jₚ q j = J q j) ∧ (∃ z : Int, r = some (.inl z) ∧ (-1) ≤ z ∧ z ≤ 1 ∧ (gc_OP Jₚ Iₚ) ∧ (0 ≤ z ∨ (Iₚ 86 17 ≤ Iₚ 86 9 ∧ Iₚ 86 9 ≤ Iₚ 86 16)))))) (151, [], [.inl s0_46], sh, gc_h sh I44 J45 A) := by
              intro I44 J45 s0_46 hI44 FI44 FJ45 m_46 e0_46
              clear hv1_6_38 hv5_32_38 hv6_38 e0_38 f39 f40 f41 f42 f43 hv1_6_32 hv5_32 hs0_32 e0_32 e1_32 e2_32 f33 f34 f35 f36 f37 hv1_6_12 e0_12 e1_12 f13 f14 f15 f16 f17 hv1_6 e0_6 e1_6 f7 f8 f9 f10 f11
              obtain ⟨hs0_46, e1_46⟩ := m_46
              have f47 := (gc_b_74_1 hI44 R_86)
              have f48 := (gc_b_74_2 hI44 R_86)
              have f49 := (gc_b_74_9 hI44 R_86)
              have f50 := (gc_b_74_16 hI44 R_86)
              have f51 := (gc_b_74_17 hI44 R_86)
              exact gv_iret hD rfl ⟨I44, J45, rfl, hI44, FI44, FJ45, ⟨_, rfl, by omega, by omega, e0_46, by omega⟩⟩
            refine gv_run 2 true hD (pcₚ := 132) (lvₚ := [(0, .inr (.inr (some 86))), (1, .inl v1_6), (3, .inr (.inl v3_32)), (5, .inl v5_32), (6, .inl v6_38)]) (stₚ := [.inl 2, .inl v1_6]) (hₚ := gc_h sh I J A) (C := ((True ∧ True) ∧ True)) rfl ⟨⟨trivial, trivial⟩, trivial⟩ ?_
            refine gv_icmp_ne (t := 147) hD rfl rfl ⟨⟨by omega, by omega⟩, ⟨by omega, by omega⟩⟩ (fun c52 => ?_) (fun c52 => ?_)
            · show gv_X _ _ (147, [(0, .inr (.inr (some 86))), (1, .inl v1_6), (3, .inr (.inl v3_32)), (5, .inl v5_32), (6, .inl v6_38)], [], sh, gc_h sh I J A)
              refine gv_run 1 true hD (pcₚ := 148) (lvₚ := [(0, .inr (.inr (some 86))), (1, .inl v1_6), (3, .inr (.inl v3_32)), (5, .inl v5_32), (6, .inl v6_38)]) (stₚ := [.inr (.inr (some 86))]) (hₚ := gc_h sh I J A) (C := (True ∧ True)) rfl ⟨trivial, trivial⟩ ?_
              obtain ⟨r53, h53, E53, P53⟩ := d_X10_stray (ws0 := ws0) (tb := tb) hws htb sh ro I J A hI   hb     
              obtain ⟨I54, J55, rfl, hI54, g53, k53, ⟨z53, rfl, q53⟩⟩ := P53
              have FI54 := gc_frc (W := fun q j => q = 95 ∨ q = 96 ∨ q = 98 ∨ (q = 86 ∧ j = 9) ∨ (q = 86 ∧ j = 16) ∨ (q = 86 ∧ j = 17) ∨ (q = 86 ∧ j = 18) ∨ q = 97 ∨ q = 99) (V := fun q j => (q = 86 ∧ j = 18)) FI (fun q j h => (Or.inr (Or.inr (Or.inr (Or.inr (Or.inr (Or.inr (Or.inl h)))))))) g53
              have t56 := (g53 86 1).resolve_left (fun h => absurd h.2 (by decide))
              have t57 := (g53 86 2).resolve_left (fun h => absurd h.2 (by decide))
              have t58 := (g53 86 9).resolve_left (fun h => absurd h.2 (by decide))
              have t59 := (g53 86 16).resolve_left (fun h => absurd h.2 (by decide))
              have t60 := (g53 86 17).resolve_left (fun h => absurd h.2 (by decide))
              obtain rfl : J = J55 := funext fun q => funext fun j => ((k53 q j).resolve_left id).symm
              refine gv_callV hD rfl (As := []) (st := []) rfl B_86 S_86 rfl (gc_lV10 hws rfl) (Nat.le_of_ble_eq_true rfl) (gz_Ev_mono (d := 1) (by decide) E53) ?_
              show gv_X _ _ (151, [(0, .inr (.inr (some 86))), (1, .inl v1_6), (3, .inr (.inl v3_32)), (5, .inl v5_32), (6, .inl v6_38)], [.inl z53], sh, gc_h sh I54 J A)
              refine gv_pick [] rfl ?_
              exact L151 I54 J z53 hI54 FI54 FJ (by omega) (gc_OP_fr (m := 301) x5 (by omega) (fun k => ((g53 95 k).resolve_left (by omega))) (fun k => ((g53 98 k).resolve_left (by omega))) (fun k _ => ((g53 96 k).resolve_left (by omega))) (fun h => by omega))
            · show gv_X _ _ (135, [(0, .inr (.inr (some 86))), (1, .inl v1_6), (3, .inr (.inl v3_32)), (5, .inl v5_32), (6, .inl v6_38)], [], sh, gc_h sh I J A)
              refine gv_run 4 true hD (pcₚ := 141) (lvₚ := [(0, .inr (.inr (some 86))), (1, .inl v1_6), (3, .inr (.inl v3_32)), (5, .inl v5_32), (6, .inl v6_38)]) (stₚ := [.inl v6_38, .inl v5_32, .inr (.inl v3_32), .inr (.inr (some 86))]) (hₚ := gc_h sh I J A) (C := ((((True ∧ True) ∧ True) ∧ True) ∧ True)) rfl ⟨⟨⟨⟨trivial, trivial⟩, trivial⟩, trivial⟩, trivial⟩ ?_
              obtain ⟨r61, h61, E61, P61⟩ := d_X10_openUp (ws0 := ws0) (tb := tb) hws htb sh ro I J A hI  v3_32 v5_32 v6_38 hb   ⟨by omega, by omega⟩ ⟨by omega, by omega⟩ x5 (Or.inr (by omega)) (by omega) (by omega) 
              obtain ⟨I62, J63, rfl, hI62, g61, k61, ⟨z61, rfl, q61⟩⟩ := P61
              have FI62 := gc_frc (W := fun q j => q = 95 ∨ q = 96 ∨ q = 98 ∨ (q = 86 ∧ j = 9) ∨ (q = 86 ∧ j = 16) ∨ (q = 86 ∧ j = 17) ∨ (q = 86 ∧ j = 18) ∨ q = 97 ∨ q = 99) (V := fun q j => q = 95 ∨ q = 96 ∨ q = 98 ∨ (q = 86 ∧ j = 9) ∨ (q = 86 ∧ j = 16)) FI (fun q j h => (h.elim (fun h => (Or.inl h)) (fun h => (h.elim (fun h => (Or.inr (Or.inl h))) (fun h => (h.elim (fun h => (Or.inr (Or.inr (Or.inl h)))) (fun h => (h.elim (fun h => (Or.inr (Or.inr (Or.inr (Or.inl h))))) (fun h => (Or.inr (Or.inr (Or.inr (Or.inr (Or.inl h)))))))))))))) g61
              have FJ63 := gc_frc (W := fun q j => q = 94) (V := fun q j => q = 94) FJ (fun q j h => h) k61
              have t64 := (g61 86 1).resolve_left (fun h => h.elim (fun h => absurd h (by decide)) (fun h => h.elim (fun h => absurd h (by decide)) (fun h => h.elim (fun h => absurd h (by decide)) (fun h => h.elim (fun h => absurd h.2 (by decide)) (fun h => absurd h.2 (by decide))))))
              have t65 := (g61 86 2).resolve_left (fun h => h.elim (fun h => absurd h (by decide)) (fun h => h.elim (fun h => absurd h (by decide)) (fun h => h.elim (fun h => absurd h (by decide)) (fun h => h.elim (fun h => absurd h.2 (by decide)) (fun h => absurd h.2 (by decide))))))
              have t66 := (g61 86 17).resolve_left (fun h => h.elim (fun h => absurd h (by decide)) (fun h => h.elim (fun h => absurd h (by decide)) (fun h => h.elim (fun h => absurd h (by decide)) (fun h => h.elim (fun h => absurd h.2 (by decide)) (fun h => absurd h.2 (by decide))))))
              have f67 := (gc_b_74_9 hI62 R_86)
              have f68 := (gc_b_74_16 hI62 R_86)
              refine gv_callV hD rfl (As := [.inr (.inl v3_32), .inl v5_32, .inl v6_38]) (st := []) rfl B_86 S_86 rfl (gc_lV10 hws rfl) (Nat.le_of_ble_eq_true rfl) (gz_Ev_mono (d := 1) (by decide) E61) ?_
              show gv_X _ _ (144, [(0, .inr (.inr (some 86))), (1, .inl v1_6), (3, .inr (.inl v3_32)), (5, .inl v5_32), (6, .inl v6_38)], [.inl z61], sh, gc_h sh I62 J63 A)
              refine gv_run 1 true hD (pcₚ := 151) (lvₚ := [(0, .inr (.inr (some 86))), (1, .inl v1_6), (3, .inr (.inl v3_32)), (5, .inl v5_32), (6, .inl v6_38)]) (stₚ := [.inl z61]) (hₚ := gc_h sh I62 J63 A) (C := (True ∧ True)) rfl ⟨trivial, trivial⟩ ?_
              refine gv_pick [] rfl ?_
              exact L151 I62 J63 z61 hI62 FI62 FJ63 (by omega) q61.2.2.1
          have L181 : ∀ (I69 : gr_I) (J70 : gr_J) (s0_71 : Int), gc_Inv ro I69 → (∀ q j : Nat, (q = 95 ∨ q = 96 ∨ q = 98 ∨ (q = 86 ∧ j = 9) ∨ (q = 86 ∧ j = 16) ∨ (q = 86 ∧ j = 17) ∨ (q = 86 ∧ j = 18) ∨ q = 97 ∨ q = 99) ∨ I69 q j = I q j) → (∀ q j : Nat, (q = 94) ∨ J70 q j = J q j) → (((-1) ≤ s0_71 ∧ s0_71 ≤ 0) ∧ (0 ≤ s0_71 ∨ (I69 86 17 ≤ I69 86 9 ∧ I69 86 9 ≤ I69 86 16))) → (gc_OP J70 I69) → gv_X (gc_E10 ws0 tb 2 (yX10_lookAt, cX10_lookAt, 10, (some .int)) kX10_lookAt) (gv_Q cX10_lookAt (some .int) sh (fun r hₚ => (∃ (Iₚ : gr_I) (Jₚ : gr_J), hₚ = gc_h sh Iₚ Jₚ A ∧ gc_Inv ro Iₚ ∧ (∀ q j : Nat, (q = 95 ∨ q = 96 ∨ q = 98 ∨ (q = 86 ∧ j = 9) ∨ (q = 86 ∧ j = 16) ∨ (q = 86 ∧ j = 17) ∨ (q = 86 ∧ j = 18) ∨ q = 97 ∨ q = 99) ∨ Iₚ q j = I q j) ∧ (∀ q j : Nat, (q = 94) ∨ Jₚ q j = J q j) ∧ (∃ z : Int, r = some (.inl z) ∧ (-1) ≤ z ∧ z ≤ 1 ∧ (gc_OP Jₚ Iₚ) ∧ (0 ≤ z ∨ (Iₚ 86 17 ≤ Iₚ 86 9 ∧ Iₚ 86 9 ≤ Iₚ 86 16)))))) (181, [], [.inl s0_71], sh, gc_h sh I69 J70 A) := by
            intro I69 J70 s0_71 hI69 FI69 FJ70 m_71 e0_71
            clear hv1_6_32 hv5_32 hs0_32 e0_32 e1_32 e2_32 f33 f34 f35 f36 f37 hv1_6_12 e0_12 e1_12 f13 f14 f15 f16 f17 hv1_6 e0_6 e1_6 f7 f8 f9 f10 f11
            obtain ⟨hs0_71, e1_71⟩ := m_71
            have f72 := (gc_b_74_1 hI69 R_86)
            have f73 := (gc_b_74_2 hI69 R_86)
            have f74 := (gc_b_74_9 hI69 R_86)
            have f75 := (gc_b_74_16 hI69 R_86)
            have f76 := (gc_b_74_17 hI69 R_86)
            exact gv_iret hD rfl ⟨I69, J70, rfl, hI69, FI69, FJ70, ⟨_, rfl, by omega, by omega, e0_71, by omega⟩⟩
          have L198 : ((1 ≤ v1_6 ∧ v1_6 ≤ 2) ∧ (0 ≤ v5_32 ∧ v5_32 ≤ 300)) → gv_X (gc_E10 ws0 tb 2 (yX10_lookAt, cX10_lookAt, 10, (some .int)) kX10_lookAt) (gv_Q cX10_lookAt (some .int) sh (fun r hₚ => (∃ (Iₚ : gr_I) (Jₚ : gr_J), hₚ = gc_h sh Iₚ Jₚ A ∧ gc_Inv ro Iₚ ∧ (∀ q j : Nat, (q = 95 ∨ q = 96 ∨ q = 98 ∨ (q = 86 ∧ j = 9) ∨ (q = 86 ∧ j = 16) ∨ (q = 86 ∧ j = 17) ∨ (q = 86 ∧ j = 18) ∨ q = 97 ∨ q = 99) ∨ Iₚ q j = I q j) ∧ (∀ q j : Nat, (q = 94) ∨ Jₚ q j = J q j) ∧ (∃ z : Int, r = some (.inl z) ∧ (-1) ≤ z ∧ z ≤ 1 ∧ (gc_OP Jₚ Iₚ) ∧ (0 ≤ z ∨ (Iₚ 86 17 ≤ Iₚ 86 9 ∧ Iₚ 86 9 ≤ Iₚ 86 16)))))) (198, [(0, .inr (.inr (some 86))), (1, .inl v1_6), (3, .inr (.inl v3_32)), (5, .inl v5_32)], [], sh, gc_h sh I J A) := by
            intro m_77
            obtain ⟨hv1_6_77, hv5_32_77⟩ := m_77
            have f78 := (gc_b_74_1 hI R_86)
            have f79 := (gc_b_74_2 hI R_86)
            have f80 := (gc_b_74_9 hI R_86)
            have f81 := (gc_b_74_16 hI R_86)
            have f82 := (gc_b_74_17 hI R_86)
            have L231 : ∀ (I83 : gr_I) (J84 : gr_J) (s0_85 : Int), gc_Inv ro I83 → (∀ q j : Nat, (q = 95 ∨ q = 96 ∨ q = 98 ∨ (q = 86 ∧ j = 9) ∨ (q = 86 ∧ j = 16) ∨ (q = 86 ∧ j = 17) ∨ (q = 86 ∧ j = 18) ∨ q = 97 ∨ q = 99) ∨ I83 q j = I q j) → (∀ q j : Nat, (q = 94) ∨ J84 q j = J q j) → (((-1) ≤ s0_85 ∧ s0_85 ≤ 1) ∧ (0 ≤ s0_85 ∨ (I83 86 17 ≤ I83 86 9 ∧ I83 86 9 ≤ I83 86 16))) → (gc_OP J84 I83) → gv_X (gc_E10 ws0 tb 2 (yX10_lookAt, cX10_lookAt, 10, (some .int)) kX10_lookAt) (gv_Q cX10_lookAt (some .int) sh (fun r hₚ => (∃ (Iₚ : gr_I) (Jₚ : gr_J), hₚ = gc_h sh Iₚ Jₚ A ∧ gc_Inv ro Iₚ ∧ (∀ q j : Nat, (q = 95 ∨ q = 96 ∨ q = 98 ∨ (q = 86 ∧ j = 9) ∨ (q = 86 ∧ j = 16) ∨ (q = 86 ∧ j = 17) ∨ (q = 86 ∧ j = 18) ∨ q = 97 ∨ q = 99) ∨ Iₚ q j = I q j) ∧ (∀ q j : Nat, (q = 94) ∨ Jₚ q j = J q j) ∧ (∃ z : Int, r = some (.inl z) ∧ (-1) ≤ z ∧ z ≤ 1 ∧ (gc_OP Jₚ Iₚ) ∧ (0 ≤ z ∨ (Iₚ 86 17 ≤ Iₚ 86 9 ∧ Iₚ 86 9 ≤ Iₚ 86 16)))))) (231, [], [.inl s0_85], sh, gc_h sh I83 J84 A) := by
              intro I83 J84 s0_85 hI83 FI83 FJ84 m_85 e0_85
              clear hv1_6_77 hv5_32_77 f78 f79 f80 f81 f82 hv1_6_32 hv5_32 hs0_32 e0_32 e1_32 e2_32 f33 f34 f35 f36 f37 hv1_6_12 e0_12 e1_12 f13 f14 f15 f16 f17 hv1_6 e0_6 e1_6 f7 f8 f9 f10 f11
              obtain ⟨hs0_85, e1_85⟩ := m_85
              have f86 := (gc_b_74_1 hI83 R_86)
              have f87 := (gc_b_74_2 hI83 R_86)
              have f88 := (gc_b_74_9 hI83 R_86)
              have f89 := (gc_b_74_16 hI83 R_86)
              have f90 := (gc_b_74_17 hI83 R_86)
              exact gv_iret hD rfl ⟨I83, J84, rfl, hI83, FI83, FJ84, ⟨_, rfl, by omega, by omega, e0_85, by omega⟩⟩
            have L227 : gv_X (gc_E10 ws0 tb 2 (yX10_lookAt, cX10_lookAt, 10, (some .int)) kX10_lookAt) (gv_Q cX10_lookAt (some .int) sh (fun r hₚ => (∃ (Iₚ : gr_I) (Jₚ : gr_J), hₚ = gc_h sh Iₚ Jₚ A ∧ gc_Inv ro Iₚ ∧ (∀ q j : Nat, (q = 95 ∨ q = 96 ∨ q = 98 ∨ (q = 86 ∧ j = 9) ∨ (q = 86 ∧ j = 16) ∨ (q = 86 ∧ j = 17) ∨ (q = 86 ∧ j = 18) ∨ q = 97 ∨ q = 99) ∨ Iₚ q j = I q j) ∧ (∀ q j : Nat, (q = 94) ∨ Jₚ q j = J q j) ∧ (∃ z : Int, r = some (.inl z) ∧ (-1) ≤ z ∧ z ≤ 1 ∧ (gc_OP Jₚ Iₚ) ∧ (0 ≤ z ∨ (Iₚ 86 17 ≤ Iₚ 86 9 ∧ Iₚ 86 9 ≤ Iₚ 86 16)))))) (227, [(0, .inr (.inr (some 86)))], [], sh, gc_h sh I J A) := by
              have f92 := (gc_b_74_1 hI R_86)
              have f93 := (gc_b_74_2 hI R_86)
              have f94 := (gc_b_74_9 hI R_86)
              have f95 := (gc_b_74_16 hI R_86)
              have f96 := (gc_b_74_17 hI R_86)
              refine gv_run 1 true hD (pcₚ := 228) (lvₚ := [(0, .inr (.inr (some 86)))]) (stₚ := [.inr (.inr (some 86))]) (hₚ := gc_h sh I J A) (C := (True ∧ True)) rfl ⟨trivial, trivial⟩ ?_
              obtain ⟨r97, h97, E97, P97⟩ := d_X10_stray (ws0 := ws0) (tb := tb) hws htb sh ro I J A hI   hb     
              obtain ⟨I98, J99, rfl, hI98, g97, k97, ⟨z97, rfl, q97⟩⟩ := P97
              have FI98 := gc_frc (W := fun q j => q = 95 ∨ q = 96 ∨ q = 98 ∨ (q = 86 ∧ j = 9) ∨ (q = 86 ∧ j = 16) ∨ (q = 86 ∧ j = 17) ∨ (q = 86 ∧ j = 18) ∨ q = 97 ∨ q = 99) (V := fun q j => (q = 86 ∧ j = 18)) FI (fun q j h => (Or.inr (Or.inr (Or.inr (Or.inr (Or.inr (Or.inr (Or.inl h)))))))) g97
              have t100 := (g97 86 1).resolve_left (fun h => absurd h.2 (by decide))
              have t101 := (g97 86 2).resolve_left (fun h => absurd h.2 (by decide))
              have t102 := (g97 86 9).resolve_left (fun h => absurd h.2 (by decide))
              have t103 := (g97 86 16).resolve_left (fun h => absurd h.2 (by decide))
              have t104 := (g97 86 17).resolve_left (fun h => absurd h.2 (by decide))
              obtain rfl : J = J99 := funext fun q => funext fun j => ((k97 q j).resolve_left id).symm
              refine gv_callV hD rfl (As := []) (st := []) rfl B_86 S_86 rfl (gc_lV10 hws rfl) (Nat.le_of_ble_eq_true rfl) (gz_Ev_mono (d := 1) (by decide) E97) ?_
              show gv_X _ _ (231, [(0, .inr (.inr (some 86)))], [.inl z97], sh, gc_h sh I98 J A)
              refine gv_pick [] rfl ?_
              exact L231 I98 J z97 hI98 FI98 FJ (by omega) (gc_OP_fr (m := 301) x5 (by omega) (fun k => ((g97 95 k).resolve_left (by omega))) (fun k => ((g97 98 k).resolve_left (by omega))) (fun k _ => ((g97 96 k).resolve_left (by omega))) (fun h => by omega))
            refine gv_run 2 true hD (pcₚ := 200) (lvₚ := [(0, .inr (.inr (some 86))), (1, .inl v1_6), (3, .inr (.inl v3_32)), (5, .inl v5_32)]) (stₚ := [.inl 1, .inl v1_6]) (hₚ := gc_h sh I J A) (C := ((True ∧ True) ∧ True)) rfl ⟨⟨trivial, trivial⟩, trivial⟩ ?_
            refine gv_icmp_ne (t := 227) hD rfl rfl ⟨⟨by omega, by omega⟩, ⟨by omega, by omega⟩⟩ (fun c105 => ?_) (fun c105 => ?_)
            · show gv_X _ _ (227, [(0, .inr (.inr (some 86))), (1, .inl v1_6), (3, .inr (.inl v3_32)), (5, .inl v5_32)], [], sh, gc_h sh I J A)
              refine gv_pick [0] rfl ?_
              exact L227 
            · show gv_X _ _ (203, [(0, .inr (.inr (some 86))), (1, .inl v1_6), (3, .inr (.inl v3_32)), (5, .inl v5_32)], [], sh, gc_h sh I J A)
              refine gv_run 1 true hD (pcₚ := 204) (lvₚ := [(0, .inr (.inr (some 86))), (1, .inl v1_6), (3, .inr (.inl v3_32)), (5, .inl v5_32)]) (stₚ := [.inr (.inr (some 86))]) (hₚ := gc_h sh I J A) (C := (True ∧ True)) rfl ⟨trivial, trivial⟩ ?_
              refine gv_get hD rfl rfl S_86 ⟨by decide, B_86⟩ (gc_hS (n := 1001) (q := o) S_86 rfl (by omega)) ?_
              show gv_X _ _ (207, [(0, .inr (.inr (some 86))), (1, .inl v1_6), (3, .inr (.inl v3_32)), (5, .inl v5_32)], [.inr (.inr (some o))], sh, gc_h sh I J A)
              refine gv_run 1 true hD (pcₚ := 209) (lvₚ := [(0, .inr (.inr (some 86))), (1, .inl v1_6), (3, .inr (.inl v3_32)), (5, .inl v5_32)]) (stₚ := [.inl v5_32, .inr (.inr (some o))]) (hₚ := gc_h sh I J A) (C := (True ∧ True)) rfl ⟨trivial, trivial⟩ ?_
              have f106 := (show (-3) ≤ I o (Int.toNat v5_32) ∧ I o (Int.toNat v5_32) ≤ 1000000 from gc_in2 hI R_o rfl rfl rfl)
              refine gv_iald hD rfl S_o rfl ⟨by decide, B_o⟩ ⟨by omega, by omega⟩ (gc_iI S_o rfl) ?_
              show gv_X _ _ (210, [(0, .inr (.inr (some 86))), (1, .inl v1_6), (3, .inr (.inl v3_32)), (5, .inl v5_32)], [.inl (I o (Int.toNat v5_32))], sh, gc_h sh I J A)
              refine gv_run 1 true hD (pcₚ := 212) (lvₚ := [(0, .inr (.inr (some 86))), (1, .inl v1_6), (3, .inr (.inl v3_32)), (5, .inl v5_32)]) (stₚ := [.inl (-2), .inl (I o (Int.toNat v5_32))]) (hₚ := gc_h sh I J A) (C := (True ∧ True)) rfl ⟨trivial, trivial⟩ ?_
              refine gv_icmp_ne (t := 227) hD rfl rfl ⟨⟨by omega, by omega⟩, ⟨by omega, by omega⟩⟩ (fun c107 => ?_) (fun c107 => ?_)
              · show gv_X _ _ (227, [(0, .inr (.inr (some 86))), (1, .inl v1_6), (3, .inr (.inl v3_32)), (5, .inl v5_32)], [], sh, gc_h sh I J A)
                refine gv_pick [0] rfl ?_
                exact L227 
              · show gv_X _ _ (215, [(0, .inr (.inr (some 86))), (1, .inl v1_6), (3, .inr (.inl v3_32)), (5, .inl v5_32)], [], sh, gc_h sh I J A)
                refine gv_run 5 true hD (pcₚ := 221) (lvₚ := [(0, .inr (.inr (some 86))), (1, .inl v1_6), (3, .inr (.inl v3_32)), (5, .inl v5_32)]) (stₚ := [.inl (v5_32 + 1), .inr (.inl v3_32), .inr (.inr (some 86))]) (hₚ := gc_h sh I J A) (C := (((((True ∧ True) ∧ True) ∧ True) ∧ True) ∧ True)) rfl ⟨⟨⟨⟨⟨trivial, trivial⟩, trivial⟩, trivial⟩, trivial⟩, trivial⟩ ?_
                obtain ⟨r108, h108, E108, P108⟩ := d_X10_openAll (ws0 := ws0) (tb := tb) hws htb sh ro I J A hI  v3_32 (v5_32 + 1) hb   ⟨by omega, by omega⟩ x5 (by omega) (by omega) 
                obtain ⟨I109, J110, rfl, hI109, g108, k108, ⟨z108, rfl, q108⟩⟩ := P108
                have FI109 := gc_frc (W := fun q j => q = 95 ∨ q = 96 ∨ q = 98 ∨ (q = 86 ∧ j = 9) ∨ (q = 86 ∧ j = 16) ∨ (q = 86 ∧ j = 17) ∨ (q = 86 ∧ j = 18) ∨ q = 97 ∨ q = 99) (V := fun q j => q = 95 ∨ q = 96 ∨ q = 98 ∨ (q = 86 ∧ j = 9) ∨ (q = 86 ∧ j = 16) ∨ (q = 86 ∧ j = 17) ∨ q = 97 ∨ q = 99) FI (fun q j h => (h.elim (fun h => (Or.inl h)) (fun h => (h.elim (fun h => (Or.inr (Or.inl h))) (fun h => (h.elim (fun h => (Or.inr (Or.inr (Or.inl h)))) (fun h => (h.elim (fun h => (Or.inr (Or.inr (Or.inr (Or.inl h))))) (fun h => (h.elim (fun h => (Or.inr (Or.inr (Or.inr (Or.inr (Or.inl h)))))) (fun h => (h.elim (fun h => (Or.inr (Or.inr (Or.inr (Or.inr (Or.inr (Or.inl h))))))) (fun h => (h.elim (fun h => (Or.inr (Or.inr (Or.inr (Or.inr (Or.inr (Or.inr (Or.inr (Or.inl h))))))))) (fun h => (Or.inr (Or.inr (Or.inr (Or.inr (Or.inr (Or.inr (Or.inr (Or.inr h))))))))))))))))))))))) g108
                have FJ110 := gc_frc (W := fun q j => q = 94) (V := fun q j => q = 94) FJ (fun q j h => h) k108
                have t111 := (g108 86 1).resolve_left (fun h => h.elim (fun h => absurd h (by decide)) (fun h => h.elim (fun h => absurd h (by decide)) (fun h => h.elim (fun h => absurd h (by decide)) (fun h => h.elim (fun h => absurd h.2 (by decide)) (fun h => h.elim (fun h => absurd h.2 (by decide)) (fun h => h.elim (fun h => absurd h.2 (by decide)) (fun h => h.elim (fun h => absurd h (by decide)) (fun h => absurd h (by decide)))))))))
                have t112 := (g108 86 2).resolve_left (fun h => h.elim (fun h => absurd h (by decide)) (fun h => h.elim (fun h => absurd h (by decide)) (fun h => h.elim (fun h => absurd h (by decide)) (fun h => h.elim (fun h => absurd h.2 (by decide)) (fun h => h.elim (fun h => absurd h.2 (by decide)) (fun h => h.elim (fun h => absurd h.2 (by decide)) (fun h => h.elim (fun h => absurd h (by decide)) (fun h => absurd h (by decide)))))))))
                have f113 := (gc_b_74_9 hI109 R_86)
                have f114 := (gc_b_74_16 hI109 R_86)
                have f115 := (gc_b_74_17 hI109 R_86)
                refine gv_callV hD rfl (As := [.inr (.inl v3_32), .inl (v5_32 + 1)]) (st := []) rfl B_86 S_86 rfl (gc_lV10 hws rfl) (Nat.le_of_ble_eq_true rfl) (gz_Ev_mono (d := 2) (by decide) E108) ?_
                show gv_X _ _ (224, [(0, .inr (.inr (some 86))), (1, .inl v1_6), (3, .inr (.inl v3_32)), (5, .inl v5_32)], [.inl z108], sh, gc_h sh I109 J110 A)
                refine gv_run 1 true hD (pcₚ := 231) (lvₚ := [(0, .inr (.inr (some 86))), (1, .inl v1_6), (3, .inr (.inl v3_32)), (5, .inl v5_32)]) (stₚ := [.inl z108]) (hₚ := gc_h sh I109 J110 A) (C := (True ∧ True)) rfl ⟨trivial, trivial⟩ ?_
                refine gv_pick [] rfl ?_
                exact L231 I109 J110 z108 hI109 FI109 FJ110 (by omega) q108.2.2.1
          have L255 : ∀ (v7_116 : Int) (s0_116 : Int), ((1 ≤ v1_6 ∧ v1_6 ≤ 2) ∧ ((-1) ≤ v7_116 ∧ v7_116 ≤ 399) ∧ ((-1) ≤ s0_116 ∧ s0_116 ≤ 399)) → gv_X (gc_E10 ws0 tb 2 (yX10_lookAt, cX10_lookAt, 10, (some .int)) kX10_lookAt) (gv_Q cX10_lookAt (some .int) sh (fun r hₚ => (∃ (Iₚ : gr_I) (Jₚ : gr_J), hₚ = gc_h sh Iₚ Jₚ A ∧ gc_Inv ro Iₚ ∧ (∀ q j : Nat, (q = 95 ∨ q = 96 ∨ q = 98 ∨ (q = 86 ∧ j = 9) ∨ (q = 86 ∧ j = 16) ∨ (q = 86 ∧ j = 17) ∨ (q = 86 ∧ j = 18) ∨ q = 97 ∨ q = 99) ∨ Iₚ q j = I q j) ∧ (∀ q j : Nat, (q = 94) ∨ Jₚ q j = J q j) ∧ (∃ z : Int, r = some (.inl z) ∧ (-1) ≤ z ∧ z ≤ 1 ∧ (gc_OP Jₚ Iₚ) ∧ (0 ≤ z ∨ (Iₚ 86 17 ≤ Iₚ 86 9 ∧ Iₚ 86 9 ≤ Iₚ 86 16)))))) (255, [(0, .inr (.inr (some 86))), (1, .inl v1_6), (3, .inr (.inl v3_32)), (7, .inl v7_116)], [.inl s0_116], sh, gc_h sh I J A) := d_X10_lookAt_L255 (ws0 := ws0) (tb := tb) hws htb sh ro I J A hI o hb x0 x1 x2 x3 x4 x5 v1_6 v3_32
          have f165 := gw_cmp (v3_32) ((6385252))
          refine gv_run 4 true hD (pcₚ := 111) (lvₚ := [(6, .inl s0_32), (0, .inr (.inr (some 86))), (1, .inl v1_6), (3, .inr (.inl v3_32)), (5, .inl v5_32)]) (stₚ := [.inl ((lg_cmp (v3_32) ((6385252))).toInt)]) (hₚ := gc_h sh I J A) (C := ((((True ∧ True) ∧ True) ∧ True) ∧ True)) rfl ⟨⟨⟨⟨trivial, trivial⟩, trivial⟩, trivial⟩, trivial⟩ ?_
          refine gv_if_eq (t := 130) hD rfl rfl ⟨by omega, by omega⟩ (fun c166 => ?_) (fun c166 => ?_)
          · show gv_X _ _ (130, [(6, .inl s0_32), (0, .inr (.inr (some 86))), (1, .inl v1_6), (3, .inr (.inl v3_32)), (5, .inl v5_32)], [], sh, gc_h sh I J A)
            refine gv_pick [1, 2, 3, 4, 0] rfl ?_
            exact L130 s0_32 (by omega)
          · show gv_X _ _ (114, [(6, .inl s0_32), (0, .inr (.inr (some 86))), (1, .inl v1_6), (3, .inr (.inl v3_32)), (5, .inl v5_32)], [], sh, gc_h sh I J A)
            have f167 := gw_cmp (v3_32) ((28530))
            refine gv_run 3 true hD (pcₚ := 119) (lvₚ := [(6, .inl s0_32), (0, .inr (.inr (some 86))), (1, .inl v1_6), (3, .inr (.inl v3_32)), (5, .inl v5_32)]) (stₚ := [.inl ((lg_cmp (v3_32) ((28530))).toInt)]) (hₚ := gc_h sh I J A) (C := (((True ∧ True) ∧ True) ∧ True)) rfl ⟨⟨⟨trivial, trivial⟩, trivial⟩, trivial⟩ ?_
            refine gv_if_eq (t := 130) hD rfl rfl ⟨by omega, by omega⟩ (fun c168 => ?_) (fun c168 => ?_)
            · show gv_X _ _ (130, [(6, .inl s0_32), (0, .inr (.inr (some 86))), (1, .inl v1_6), (3, .inr (.inl v3_32)), (5, .inl v5_32)], [], sh, gc_h sh I J A)
              refine gv_pick [1, 2, 3, 4, 0] rfl ?_
              exact L130 s0_32 (by omega)
            · show gv_X _ _ (122, [(6, .inl s0_32), (0, .inr (.inr (some 86))), (1, .inl v1_6), (3, .inr (.inl v3_32)), (5, .inl v5_32)], [], sh, gc_h sh I J A)
              have f169 := gw_cmp (v3_32) ((26982))
              refine gv_run 3 true hD (pcₚ := 127) (lvₚ := [(6, .inl s0_32), (0, .inr (.inr (some 86))), (1, .inl v1_6), (3, .inr (.inl v3_32)), (5, .inl v5_32)]) (stₚ := [.inl ((lg_cmp (v3_32) ((26982))).toInt)]) (hₚ := gc_h sh I J A) (C := (((True ∧ True) ∧ True) ∧ True)) rfl ⟨⟨⟨trivial, trivial⟩, trivial⟩, trivial⟩ ?_
              refine gv_if_ne (t := 152) hD rfl rfl ⟨by omega, by omega⟩ (fun c170 => ?_) (fun c170 => ?_)
              · show gv_X _ _ (152, [(6, .inl s0_32), (0, .inr (.inr (some 86))), (1, .inl v1_6), (3, .inr (.inl v3_32)), (5, .inl v5_32)], [], sh, gc_h sh I J A)
                have f171 := gw_cmp (v3_32) ((7237492))
                refine gv_run 3 true hD (pcₚ := 157) (lvₚ := [(6, .inl s0_32), (0, .inr (.inr (some 86))), (1, .inl v1_6), (3, .inr (.inl v3_32)), (5, .inl v5_32)]) (stₚ := [.inl ((lg_cmp (v3_32) ((7237492))).toInt)]) (hₚ := gc_h sh I J A) (C := (((True ∧ True) ∧ True) ∧ True)) rfl ⟨⟨⟨trivial, trivial⟩, trivial⟩, trivial⟩ ?_
                refine gv_if_ne (t := 182) hD rfl rfl ⟨by omega, by omega⟩ (fun c172 => ?_) (fun c172 => ?_)
                · show gv_X _ _ (182, [(6, .inl s0_32), (0, .inr (.inr (some 86))), (1, .inl v1_6), (3, .inr (.inl v3_32)), (5, .inl v5_32)], [], sh, gc_h sh I J A)
                  have f173 := gw_cmp (v3_32) ((6384748))
                  refine gv_run 3 true hD (pcₚ := 187) (lvₚ := [(6, .inl s0_32), (0, .inr (.inr (some 86))), (1, .inl v1_6), (3, .inr (.inl v3_32)), (5, .inl v5_32)]) (stₚ := [.inl ((lg_cmp (v3_32) ((6384748))).toInt)]) (hₚ := gc_h sh I J A) (C := (((True ∧ True) ∧ True) ∧ True)) rfl ⟨⟨⟨trivial, trivial⟩, trivial⟩, trivial⟩ ?_
                  refine gv_if_eq (t := 198) hD rfl rfl ⟨by omega, by omega⟩ (fun c174 => ?_) (fun c174 => ?_)
                  · show gv_X _ _ (198, [(6, .inl s0_32), (0, .inr (.inr (some 86))), (1, .inl v1_6), (3, .inr (.inl v3_32)), (5, .inl v5_32)], [], sh, gc_h sh I J A)
                    refine gv_pick [1, 2, 3, 4] rfl ?_
                    exact L198 (by omega)
                  · show gv_X _ _ (190, [(6, .inl s0_32), (0, .inr (.inr (some 86))), (1, .inl v1_6), (3, .inr (.inl v3_32)), (5, .inl v5_32)], [], sh, gc_h sh I J A)
                    have f175 := gw_cmp (v3_32) ((1936682341))
                    refine gv_run 3 true hD (pcₚ := 195) (lvₚ := [(6, .inl s0_32), (0, .inr (.inr (some 86))), (1, .inl v1_6), (3, .inr (.inl v3_32)), (5, .inl v5_32)]) (stₚ := [.inl ((lg_cmp (v3_32) ((1936682341))).toInt)]) (hₚ := gc_h sh I J A) (C := (((True ∧ True) ∧ True) ∧ True)) rfl ⟨⟨⟨trivial, trivial⟩, trivial⟩, trivial⟩ ?_
                    refine gv_if_ne (t := 232) hD rfl rfl ⟨by omega, by omega⟩ (fun c176 => ?_) (fun c176 => ?_)
                    · show gv_X _ _ (232, [(6, .inl s0_32), (0, .inr (.inr (some 86))), (1, .inl v1_6), (3, .inr (.inl v3_32)), (5, .inl v5_32)], [], sh, gc_h sh I J A)
                      refine gv_run 2 true hD (pcₚ := 235) (lvₚ := [(6, .inl s0_32), (0, .inr (.inr (some 86))), (1, .inl v1_6), (3, .inr (.inl v3_32)), (5, .inl v5_32)]) (stₚ := [.inl v5_32, .inr (.inr (some 86))]) (hₚ := gc_h sh I J A) (C := ((True ∧ True) ∧ True)) rfl ⟨⟨trivial, trivial⟩, trivial⟩ ?_
                      obtain ⟨r177, h177, E177, P177⟩ := d_X10_thingAt (ws0 := ws0) (tb := tb) hws htb sh ro I J A hI  o v5_32 hb   ⟨by omega, by omega⟩ (by omega) (by omega) 
                      obtain ⟨rfl, ⟨z177, rfl, q177⟩⟩ := P177
                      refine gv_callV hD rfl (As := [.inl v5_32]) (st := []) rfl B_86 S_86 rfl (gc_lV10 hws rfl) (Nat.le_of_ble_eq_true rfl) (gz_Ev_mono (d := 2) (by decide) E177) ?_
                      show gv_X _ _ (238, [(6, .inl s0_32), (0, .inr (.inr (some 86))), (1, .inl v1_6), (3, .inr (.inl v3_32)), (5, .inl v5_32)], [.inl z177], sh, gc_h sh I J A)
                      refine gv_run 3 true hD (pcₚ := 242) (lvₚ := [(7, .inl z177), (6, .inl s0_32), (0, .inr (.inr (some 86))), (1, .inl v1_6), (3, .inr (.inl v3_32)), (5, .inl v5_32)]) (stₚ := [.inl 2, .inl v1_6]) (hₚ := gc_h sh I J A) (C := (((True ∧ True) ∧ True) ∧ True)) rfl ⟨⟨⟨trivial, trivial⟩, trivial⟩, trivial⟩ ?_
                      refine gv_icmp_ne (t := 254) hD rfl rfl ⟨⟨by omega, by omega⟩, ⟨by omega, by omega⟩⟩ (fun c178 => ?_) (fun c178 => ?_)
                      · show gv_X _ _ (254, [(7, .inl z177), (6, .inl s0_32), (0, .inr (.inr (some 86))), (1, .inl v1_6), (3, .inr (.inl v3_32)), (5, .inl v5_32)], [], sh, gc_h sh I J A)
                        refine gv_run 1 true hD (pcₚ := 255) (lvₚ := [(7, .inl z177), (6, .inl s0_32), (0, .inr (.inr (some 86))), (1, .inl v1_6), (3, .inr (.inl v3_32)), (5, .inl v5_32)]) (stₚ := [.inl (-1)]) (hₚ := gc_h sh I J A) (C := (True ∧ True)) rfl ⟨trivial, trivial⟩ ?_
                        refine gv_pick [2, 3, 4, 0] rfl ?_
                        exact L255 z177 (-1) (by omega)
                      · show gv_X _ _ (245, [(7, .inl z177), (6, .inl s0_32), (0, .inr (.inr (some 86))), (1, .inl v1_6), (3, .inr (.inl v3_32)), (5, .inl v5_32)], [], sh, gc_h sh I J A)
                        refine gv_run 2 true hD (pcₚ := 248) (lvₚ := [(7, .inl z177), (6, .inl s0_32), (0, .inr (.inr (some 86))), (1, .inl v1_6), (3, .inr (.inl v3_32)), (5, .inl v5_32)]) (stₚ := [.inl s0_32, .inr (.inr (some 86))]) (hₚ := gc_h sh I J A) (C := ((True ∧ True) ∧ True)) rfl ⟨⟨trivial, trivial⟩, trivial⟩ ?_
                        obtain ⟨r179, h179, E179, P179⟩ := d_X10_thingAt (ws0 := ws0) (tb := tb) hws htb sh ro I J A hI  o s0_32 hb   ⟨by omega, by omega⟩ (by omega) (by omega) 
                        obtain ⟨rfl, ⟨z179, rfl, q179⟩⟩ := P179
                        refine gv_callV hD rfl (As := [.inl s0_32]) (st := []) rfl B_86 S_86 rfl (gc_lV10 hws rfl) (Nat.le_of_ble_eq_true rfl) (gz_Ev_mono (d := 2) (by decide) E179) ?_
                        show gv_X _ _ (251, [(7, .inl z177), (6, .inl s0_32), (0, .inr (.inr (some 86))), (1, .inl v1_6), (3, .inr (.inl v3_32)), (5, .inl v5_32)], [.inl z179], sh, gc_h sh I J A)
                        refine gv_run 1 true hD (pcₚ := 255) (lvₚ := [(7, .inl z177), (6, .inl s0_32), (0, .inr (.inr (some 86))), (1, .inl v1_6), (3, .inr (.inl v3_32)), (5, .inl v5_32)]) (stₚ := [.inl z179]) (hₚ := gc_h sh I J A) (C := (True ∧ True)) rfl ⟨trivial, trivial⟩ ?_
                        refine gv_pick [2, 3, 4, 0] rfl ?_
                        exact L255 z177 z179 (by omega)
                    · show gv_X _ _ (198, [(6, .inl s0_32), (0, .inr (.inr (some 86))), (1, .inl v1_6), (3, .inr (.inl v3_32)), (5, .inl v5_32)], [], sh, gc_h sh I J A)
                      refine gv_pick [1, 2, 3, 4] rfl ?_
                      exact L198 (by omega)
                · show gv_X _ _ (160, [(6, .inl s0_32), (0, .inr (.inr (some 86))), (1, .inl v1_6), (3, .inr (.inl v3_32)), (5, .inl v5_32)], [], sh, gc_h sh I J A)
                  refine gv_run 2 true hD (pcₚ := 162) (lvₚ := [(6, .inl s0_32), (0, .inr (.inr (some 86))), (1, .inl v1_6), (3, .inr (.inl v3_32)), (5, .inl v5_32)]) (stₚ := [.inl 1, .inl v1_6]) (hₚ := gc_h sh I J A) (C := ((True ∧ True) ∧ True)) rfl ⟨⟨trivial, trivial⟩, trivial⟩ ?_
                  refine gv_icmp_ne (t := 177) hD rfl rfl ⟨⟨by omega, by omega⟩, ⟨by omega, by omega⟩⟩ (fun c180 => ?_) (fun c180 => ?_)
                  · show gv_X _ _ (177, [(6, .inl s0_32), (0, .inr (.inr (some 86))), (1, .inl v1_6), (3, .inr (.inl v3_32)), (5, .inl v5_32)], [], sh, gc_h sh I J A)
                    refine gv_run 1 true hD (pcₚ := 178) (lvₚ := [(6, .inl s0_32), (0, .inr (.inr (some 86))), (1, .inl v1_6), (3, .inr (.inl v3_32)), (5, .inl v5_32)]) (stₚ := [.inr (.inr (some 86))]) (hₚ := gc_h sh I J A) (C := (True ∧ True)) rfl ⟨trivial, trivial⟩ ?_
                    obtain ⟨r181, h181, E181, P181⟩ := d_X10_stray (ws0 := ws0) (tb := tb) hws htb sh ro I J A hI   hb     
                    obtain ⟨I182, J183, rfl, hI182, g181, k181, ⟨z181, rfl, q181⟩⟩ := P181
                    have FI182 := gc_frc (W := fun q j => q = 95 ∨ q = 96 ∨ q = 98 ∨ (q = 86 ∧ j = 9) ∨ (q = 86 ∧ j = 16) ∨ (q = 86 ∧ j = 17) ∨ (q = 86 ∧ j = 18) ∨ q = 97 ∨ q = 99) (V := fun q j => (q = 86 ∧ j = 18)) FI (fun q j h => (Or.inr (Or.inr (Or.inr (Or.inr (Or.inr (Or.inr (Or.inl h)))))))) g181
                    have t184 := (g181 86 1).resolve_left (fun h => absurd h.2 (by decide))
                    have t185 := (g181 86 2).resolve_left (fun h => absurd h.2 (by decide))
                    have t186 := (g181 86 9).resolve_left (fun h => absurd h.2 (by decide))
                    have t187 := (g181 86 16).resolve_left (fun h => absurd h.2 (by decide))
                    have t188 := (g181 86 17).resolve_left (fun h => absurd h.2 (by decide))
                    obtain rfl : J = J183 := funext fun q => funext fun j => ((k181 q j).resolve_left id).symm
                    refine gv_callV hD rfl (As := []) (st := []) rfl B_86 S_86 rfl (gc_lV10 hws rfl) (Nat.le_of_ble_eq_true rfl) (gz_Ev_mono (d := 1) (by decide) E181) ?_
                    show gv_X _ _ (181, [(6, .inl s0_32), (0, .inr (.inr (some 86))), (1, .inl v1_6), (3, .inr (.inl v3_32)), (5, .inl v5_32)], [.inl z181], sh, gc_h sh I182 J A)
                    refine gv_pick [] rfl ?_
                    exact L181 I182 J z181 hI182 FI182 FJ (by omega) (gc_OP_fr (m := 301) x5 (by omega) (fun k => ((g181 95 k).resolve_left (by omega))) (fun k => ((g181 98 k).resolve_left (by omega))) (fun k _ => ((g181 96 k).resolve_left (by omega))) (fun h => by omega))
                  · show gv_X _ _ (165, [(6, .inl s0_32), (0, .inr (.inr (some 86))), (1, .inl v1_6), (3, .inr (.inl v3_32)), (5, .inl v5_32)], [], sh, gc_h sh I J A)
                    refine gv_run 4 true hD (pcₚ := 171) (lvₚ := [(6, .inl s0_32), (0, .inr (.inr (some 86))), (1, .inl v1_6), (3, .inr (.inl v3_32)), (5, .inl v5_32)]) (stₚ := [.inl s0_32, .inl v5_32, .inr (.inl v3_32), .inr (.inr (some 86))]) (hₚ := gc_h sh I J A) (C := ((((True ∧ True) ∧ True) ∧ True) ∧ True)) rfl ⟨⟨⟨⟨trivial, trivial⟩, trivial⟩, trivial⟩, trivial⟩ ?_
                    obtain ⟨r189, h189, E189, P189⟩ := d_X10_openUp (ws0 := ws0) (tb := tb) hws htb sh ro I J A hI  v3_32 v5_32 s0_32 hb   ⟨by omega, by omega⟩ ⟨by omega, by omega⟩ x5 (Or.inl (gc_cmp0 (y := 7237492) (by omega))) (by omega) (by omega) 
                    obtain ⟨I190, J191, rfl, hI190, g189, k189, ⟨z189, rfl, q189⟩⟩ := P189
                    have FI190 := gc_frc (W := fun q j => q = 95 ∨ q = 96 ∨ q = 98 ∨ (q = 86 ∧ j = 9) ∨ (q = 86 ∧ j = 16) ∨ (q = 86 ∧ j = 17) ∨ (q = 86 ∧ j = 18) ∨ q = 97 ∨ q = 99) (V := fun q j => q = 95 ∨ q = 96 ∨ q = 98 ∨ (q = 86 ∧ j = 9) ∨ (q = 86 ∧ j = 16)) FI (fun q j h => (h.elim (fun h => (Or.inl h)) (fun h => (h.elim (fun h => (Or.inr (Or.inl h))) (fun h => (h.elim (fun h => (Or.inr (Or.inr (Or.inl h)))) (fun h => (h.elim (fun h => (Or.inr (Or.inr (Or.inr (Or.inl h))))) (fun h => (Or.inr (Or.inr (Or.inr (Or.inr (Or.inl h)))))))))))))) g189
                    have FJ191 := gc_frc (W := fun q j => q = 94) (V := fun q j => q = 94) FJ (fun q j h => h) k189
                    have t192 := (g189 86 1).resolve_left (fun h => h.elim (fun h => absurd h (by decide)) (fun h => h.elim (fun h => absurd h (by decide)) (fun h => h.elim (fun h => absurd h (by decide)) (fun h => h.elim (fun h => absurd h.2 (by decide)) (fun h => absurd h.2 (by decide))))))
                    have t193 := (g189 86 2).resolve_left (fun h => h.elim (fun h => absurd h (by decide)) (fun h => h.elim (fun h => absurd h (by decide)) (fun h => h.elim (fun h => absurd h (by decide)) (fun h => h.elim (fun h => absurd h.2 (by decide)) (fun h => absurd h.2 (by decide))))))
                    have t194 := (g189 86 17).resolve_left (fun h => h.elim (fun h => absurd h (by decide)) (fun h => h.elim (fun h => absurd h (by decide)) (fun h => h.elim (fun h => absurd h (by decide)) (fun h => h.elim (fun h => absurd h.2 (by decide)) (fun h => absurd h.2 (by decide))))))
                    have f195 := (gc_b_74_9 hI190 R_86)
                    have f196 := (gc_b_74_16 hI190 R_86)
                    refine gv_callV hD rfl (As := [.inr (.inl v3_32), .inl v5_32, .inl s0_32]) (st := []) rfl B_86 S_86 rfl (gc_lV10 hws rfl) (Nat.le_of_ble_eq_true rfl) (gz_Ev_mono (d := 1) (by decide) E189) ?_
                    show gv_X _ _ (174, [(6, .inl s0_32), (0, .inr (.inr (some 86))), (1, .inl v1_6), (3, .inr (.inl v3_32)), (5, .inl v5_32)], [.inl z189], sh, gc_h sh I190 J191 A)
                    refine gv_run 1 true hD (pcₚ := 181) (lvₚ := [(6, .inl s0_32), (0, .inr (.inr (some 86))), (1, .inl v1_6), (3, .inr (.inl v3_32)), (5, .inl v5_32)]) (stₚ := [.inl z189]) (hₚ := gc_h sh I190 J191 A) (C := (True ∧ True)) rfl ⟨trivial, trivial⟩ ?_
                    refine gv_pick [] rfl ?_
                    exact L181 I190 J191 z189 hI190 FI190 FJ191 (by omega) q189.2.2.1
              · show gv_X _ _ (130, [(6, .inl s0_32), (0, .inr (.inr (some 86))), (1, .inl v1_6), (3, .inr (.inl v3_32)), (5, .inl v5_32)], [], sh, gc_h sh I J A)
                refine gv_pick [1, 2, 3, 4, 0] rfl ?_
                exact L130 s0_32 (by omega)
        refine gv_run 1 true hD (pcₚ := 37) (lvₚ := [(0, .inr (.inr (some 86))), (1, .inl v1_6)]) (stₚ := [.inr (.inr (some 86))]) (hₚ := gc_h sh I J A) (C := (True ∧ True)) rfl ⟨trivial, trivial⟩ ?_
        have f197 := (gc_b_74_16 hI R_86)
        refine gv_get hD rfl rfl S_86 ⟨by decide, B_86⟩ (gc_hI S_86 rfl) ?_
        show gv_X _ _ (40, [(0, .inr (.inr (some 86))), (1, .inl v1_6)], [.inl (I 86 16)], sh, gc_h sh I J A)
        refine gv_run 5 true hD (pcₚ := 45) (lvₚ := [(2, .inl ((I 86 16) + v1_6)), (0, .inr (.inr (some 86))), (1, .inl v1_6)]) (stₚ := [.inr (.inr (some 86)), .inl ((I 86 16) + v1_6)]) (hₚ := gc_h sh I J A) (C := (((((True ∧ True) ∧ True) ∧ True) ∧ True) ∧ True)) rfl ⟨⟨⟨⟨⟨trivial, trivial⟩, trivial⟩, trivial⟩, trivial⟩, trivial⟩ ?_
        have f198 := (gc_b_74_1 hI R_86)
        refine gv_get hD rfl rfl S_86 ⟨by decide, B_86⟩ (gc_hI S_86 rfl) ?_
        show gv_X _ _ (48, [(2, .inl ((I 86 16) + v1_6)), (0, .inr (.inr (some 86))), (1, .inl v1_6)], [.inl (I 86 1), .inl ((I 86 16) + v1_6)], sh, gc_h sh I J A)
        refine gv_icmp_ge (t := 72) hD rfl rfl ⟨⟨by omega, by omega⟩, ⟨by omega, by omega⟩⟩ (fun c199 => ?_) (fun c199 => ?_)
        · show gv_X _ _ (72, [(2, .inl ((I 86 16) + v1_6)), (0, .inr (.inr (some 86))), (1, .inl v1_6)], [], sh, gc_h sh I J A)
          refine gv_pick [1] rfl ?_
          exact L72 
        · show gv_X _ _ (51, [(2, .inl ((I 86 16) + v1_6)), (0, .inr (.inr (some 86))), (1, .inl v1_6)], [], sh, gc_h sh I J A)
          refine gv_run 1 true hD (pcₚ := 52) (lvₚ := [(2, .inl ((I 86 16) + v1_6)), (0, .inr (.inr (some 86))), (1, .inl v1_6)]) (stₚ := [.inr (.inr (some 86))]) (hₚ := gc_h sh I J A) (C := (True ∧ True)) rfl ⟨trivial, trivial⟩ ?_
          refine gv_get hD rfl rfl S_86 ⟨by decide, B_86⟩ (gc_hS (n := 1001) (q := o) S_86 rfl (by omega)) ?_
          show gv_X _ _ (55, [(2, .inl ((I 86 16) + v1_6)), (0, .inr (.inr (some 86))), (1, .inl v1_6)], [.inr (.inr (some o))], sh, gc_h sh I J A)
          refine gv_run 1 true hD (pcₚ := 56) (lvₚ := [(2, .inl ((I 86 16) + v1_6)), (0, .inr (.inr (some 86))), (1, .inl v1_6)]) (stₚ := [.inl ((I 86 16) + v1_6), .inr (.inr (some o))]) (hₚ := gc_h sh I J A) (C := (True ∧ True)) rfl ⟨trivial, trivial⟩ ?_
          have f200 := (show (-3) ≤ I o (Int.toNat (((I 86 16) + v1_6))) ∧ I o (Int.toNat (((I 86 16) + v1_6))) ≤ 1000000 from gc_in2 hI R_o rfl rfl rfl)
          refine gv_iald hD rfl S_o rfl ⟨by decide, B_o⟩ ⟨by omega, by omega⟩ (gc_iI S_o rfl) ?_
          show gv_X _ _ (57, [(2, .inl ((I 86 16) + v1_6)), (0, .inr (.inr (some 86))), (1, .inl v1_6)], [.inl (I o (Int.toNat (((I 86 16) + v1_6))))], sh, gc_h sh I J A)
          refine gv_run 1 true hD (pcₚ := 59) (lvₚ := [(2, .inl ((I 86 16) + v1_6)), (0, .inr (.inr (some 86))), (1, .inl v1_6)]) (stₚ := [.inl (-3), .inl (I o (Int.toNat (((I 86 16) + v1_6))))]) (hₚ := gc_h sh I J A) (C := (True ∧ True)) rfl ⟨trivial, trivial⟩ ?_
          refine gv_icmp_ne (t := 72) hD rfl rfl ⟨⟨by omega, by omega⟩, ⟨by omega, by omega⟩⟩ (fun c201 => ?_) (fun c201 => ?_)
          · show gv_X _ _ (72, [(2, .inl ((I 86 16) + v1_6)), (0, .inr (.inr (some 86))), (1, .inl v1_6)], [], sh, gc_h sh I J A)
            refine gv_pick [1] rfl ?_
            exact L72 
          · show gv_X _ _ (62, [(2, .inl ((I 86 16) + v1_6)), (0, .inr (.inr (some 86))), (1, .inl v1_6)], [], sh, gc_h sh I J A)
            refine gv_run 2 true hD (pcₚ := 64) (lvₚ := [(2, .inl ((I 86 16) + v1_6)), (0, .inr (.inr (some 86))), (1, .inl v1_6)]) (stₚ := [.inl 1, .inl v1_6]) (hₚ := gc_h sh I J A) (C := ((True ∧ True) ∧ True)) rfl ⟨⟨trivial, trivial⟩, trivial⟩ ?_
            refine gv_icmp_lt (t := 72) hD rfl rfl ⟨⟨by omega, by omega⟩, ⟨by omega, by omega⟩⟩ (fun c202 => ?_) (fun c202 => ?_)
            · show gv_X _ _ (72, [(2, .inl ((I 86 16) + v1_6)), (0, .inr (.inr (some 86))), (1, .inl v1_6)], [], sh, gc_h sh I J A)
              refine gv_pick [1] rfl ?_
              exact L72 
            · show gv_X _ _ (67, [(2, .inl ((I 86 16) + v1_6)), (0, .inr (.inr (some 86))), (1, .inl v1_6)], [], sh, gc_h sh I J A)
              refine gv_run 2 true hD (pcₚ := 69) (lvₚ := [(2, .inl ((I 86 16) + v1_6)), (0, .inr (.inr (some 86))), (1, .inl v1_6)]) (stₚ := [.inl 2, .inl v1_6]) (hₚ := gc_h sh I J A) (C := ((True ∧ True) ∧ True)) rfl ⟨⟨trivial, trivial⟩, trivial⟩ ?_
              refine gv_icmp_le (t := 77) hD rfl rfl ⟨⟨by omega, by omega⟩, ⟨by omega, by omega⟩⟩ (fun c203 => ?_) (fun c203 => ?_)
              · show gv_X _ _ (77, [(2, .inl ((I 86 16) + v1_6)), (0, .inr (.inr (some 86))), (1, .inl v1_6)], [], sh, gc_h sh I J A)
                have t204 := gc_N_nx (f := I o) (v := (((I 86 16) + v1_6))) (by omega)
                have t205 := gc_nwc (I o (Int.toNat (((I 86 16) + v1_6))))
                have t206 := x2.2.1 (Int.toNat (I 86 16)) (by omega)
                have t207 := gc_TC_lt x2 (v := (((I 86 16) + v1_6)) + 1) (by omega) (by omega)
                refine gv_run 1 true hD (pcₚ := 78) (lvₚ := [(2, .inl ((I 86 16) + v1_6)), (0, .inr (.inr (some 86))), (1, .inl v1_6)]) (stₚ := [.inr (.inr (some 86))]) (hₚ := gc_h sh I J A) (C := (True ∧ True)) rfl ⟨trivial, trivial⟩ ?_
                have f209 := (gc_b_74_3 hI R_86)
                obtain ⟨f208_, hq_f208_, S_f208, R_f208, B_f208, D_f208⟩ := gc_sw (p := 86) (d := 2) (s := 2) (z := I 86 3) (gc_b_74_3 hI R_86) S_88 R_88 B_88 S_90 R_90 B_90
                refine gv_get hD rfl rfl S_86 ⟨by decide, B_86⟩ (gc_hS (n := 1002) S_86 rfl hq_f208_) ?_
                show gv_X _ _ (81, [(2, .inl ((I 86 16) + v1_6)), (0, .inr (.inr (some 86))), (1, .inl v1_6)], [.inr (.inr (some f208_))], sh, gc_h sh I J A)
                refine gv_run 1 true hD (pcₚ := 82) (lvₚ := [(2, .inl ((I 86 16) + v1_6)), (0, .inr (.inr (some 86))), (1, .inl v1_6)]) (stₚ := [.inl ((I 86 16) + v1_6), .inr (.inr (some f208_))]) (hₚ := gc_h sh I J A) (C := (True ∧ True)) rfl ⟨trivial, trivial⟩ ?_
                refine gv_lald hD rfl S_f208 rfl ⟨by decide, B_f208⟩ ⟨by omega, by omega⟩ (gc_jJ S_f208 rfl) ?_
                show gv_X _ _ (83, [(2, .inl ((I 86 16) + v1_6)), (0, .inr (.inr (some 86))), (1, .inl v1_6)], [.inr (.inl (J f208_ (Int.toNat (((I 86 16) + v1_6)))))], sh, gc_h sh I J A)
                refine gv_run 7 true hD (pcₚ := 91) (lvₚ := [(5, .inl (((I 86 16) + v1_6) + 1)), (3, .inr (.inl (J f208_ (Int.toNat (((I 86 16) + v1_6)))))), (2, .inl ((I 86 16) + v1_6)), (0, .inr (.inr (some 86))), (1, .inl v1_6)]) (stₚ := [.inl 2, .inl v1_6]) (hₚ := gc_h sh I J A) (C := (((((((True ∧ True) ∧ True) ∧ True) ∧ True) ∧ True) ∧ True) ∧ True)) rfl ⟨⟨⟨⟨⟨⟨⟨trivial, trivial⟩, trivial⟩, trivial⟩, trivial⟩, trivial⟩, trivial⟩, trivial⟩ ?_
                refine gv_icmp_ne (t := 103) hD rfl rfl ⟨⟨by omega, by omega⟩, ⟨by omega, by omega⟩⟩ (fun c210 => ?_) (fun c210 => ?_)
                · show gv_X _ _ (103, [(5, .inl (((I 86 16) + v1_6) + 1)), (3, .inr (.inl (J f208_ (Int.toNat (((I 86 16) + v1_6)))))), (2, .inl ((I 86 16) + v1_6)), (0, .inr (.inr (some 86))), (1, .inl v1_6)], [], sh, gc_h sh I J A)
                  refine gv_run 1 true hD (pcₚ := 104) (lvₚ := [(5, .inl (((I 86 16) + v1_6) + 1)), (3, .inr (.inl (J f208_ (Int.toNat (((I 86 16) + v1_6)))))), (2, .inl ((I 86 16) + v1_6)), (0, .inr (.inr (some 86))), (1, .inl v1_6)]) (stₚ := [.inl (-1)]) (hₚ := gc_h sh I J A) (C := (True ∧ True)) rfl ⟨trivial, trivial⟩ ?_
                  refine gv_pick [3, 4, 1, 0] rfl ?_
                  exact L104 ((J f208_ (Int.toNat (((I 86 16) + v1_6))))) ((((I 86 16) + v1_6) + 1)) (-1) (by omega)
                · show gv_X _ _ (94, [(5, .inl (((I 86 16) + v1_6) + 1)), (3, .inr (.inl (J f208_ (Int.toNat (((I 86 16) + v1_6)))))), (2, .inl ((I 86 16) + v1_6)), (0, .inr (.inr (some 86))), (1, .inl v1_6)], [], sh, gc_h sh I J A)
                  refine gv_run 2 true hD (pcₚ := 97) (lvₚ := [(5, .inl (((I 86 16) + v1_6) + 1)), (3, .inr (.inl (J f208_ (Int.toNat (((I 86 16) + v1_6)))))), (2, .inl ((I 86 16) + v1_6)), (0, .inr (.inr (some 86))), (1, .inl v1_6)]) (stₚ := [.inl (((I 86 16) + v1_6) + 1), .inr (.inr (some 86))]) (hₚ := gc_h sh I J A) (C := ((True ∧ True) ∧ True)) rfl ⟨⟨trivial, trivial⟩, trivial⟩ ?_
                  obtain ⟨r211, h211, E211, P211⟩ := d_X10_endOf (ws0 := ws0) (tb := tb) hws htb sh ro I J A hI  o ((((I 86 16) + v1_6) + 1)) hb   ⟨by omega, by omega⟩ (by omega) (by omega) x2 (by omega) 
                  obtain ⟨rfl, ⟨z211, rfl, q211⟩⟩ := P211
                  refine gv_callV hD rfl (As := [.inl (((I 86 16) + v1_6) + 1)]) (st := []) rfl B_86 S_86 rfl (gc_lV10 hws rfl) (Nat.le_of_ble_eq_true rfl) (gz_Ev_mono (d := 1) (by decide) E211) ?_
                  show gv_X _ _ (100, [(5, .inl (((I 86 16) + v1_6) + 1)), (3, .inr (.inl (J f208_ (Int.toNat (((I 86 16) + v1_6)))))), (2, .inl ((I 86 16) + v1_6)), (0, .inr (.inr (some 86))), (1, .inl v1_6)], [.inl z211], sh, gc_h sh I J A)
                  refine gv_run 1 true hD (pcₚ := 104) (lvₚ := [(5, .inl (((I 86 16) + v1_6) + 1)), (3, .inr (.inl (J f208_ (Int.toNat (((I 86 16) + v1_6)))))), (2, .inl ((I 86 16) + v1_6)), (0, .inr (.inr (some 86))), (1, .inl v1_6)]) (stₚ := [.inl z211]) (hₚ := gc_h sh I J A) (C := (True ∧ True)) rfl ⟨trivial, trivial⟩ ?_
                  refine gv_pick [3, 4, 1, 0] rfl ?_
                  exact L104 ((J f208_ (Int.toNat (((I 86 16) + v1_6))))) ((((I 86 16) + v1_6) + 1)) z211 (by omega)
              · show gv_X _ _ (72, [(2, .inl ((I 86 16) + v1_6)), (0, .inr (.inr (some 86))), (1, .inl v1_6)], [], sh, gc_h sh I J A)
                refine gv_pick [1] rfl ?_
                exact L72 
      refine gv_run 1 true hD (pcₚ := 3) (lvₚ := [(0, .inr (.inr (some 86))), (1, .inl v1_6)]) (stₚ := [.inr (.inr (some 86))]) (hₚ := gc_h sh I J A) (C := (True ∧ True)) rfl ⟨trivial, trivial⟩ ?_
      have f212 := (gc_b_74_16 hI R_86)
      refine gv_get hD rfl rfl S_86 ⟨by decide, B_86⟩ (gc_hI S_86 rfl) ?_
      show gv_X _ _ (6, [(0, .inr (.inr (some 86))), (1, .inl v1_6)], [.inl (I 86 16)], sh, gc_h sh I J A)
      refine gv_run 3 true hD (pcₚ := 9) (lvₚ := [(0, .inr (.inr (some 86))), (1, .inl v1_6)]) (stₚ := [.inr (.inr (some 86)), .inl ((I 86 16) + v1_6)]) (hₚ := gc_h sh I J A) (C := (((True ∧ True) ∧ True) ∧ True)) rfl ⟨⟨⟨trivial, trivial⟩, trivial⟩, trivial⟩ ?_
      have f213 := (gc_b_74_1 hI R_86)
      refine gv_get hD rfl rfl S_86 ⟨by decide, B_86⟩ (gc_hI S_86 rfl) ?_
      show gv_X _ _ (12, [(0, .inr (.inr (some 86))), (1, .inl v1_6)], [.inl (I 86 1), .inl ((I 86 16) + v1_6)], sh, gc_h sh I J A)
      refine gv_icmp_ge (t := 36) hD rfl rfl ⟨⟨by omega, by omega⟩, ⟨by omega, by omega⟩⟩ (fun c214 => ?_) (fun c214 => ?_)
      · show gv_X _ _ (36, [(0, .inr (.inr (some 86))), (1, .inl v1_6)], [], sh, gc_h sh I J A)
        exact L36 (by omega)
      · show gv_X _ _ (15, [(0, .inr (.inr (some 86))), (1, .inl v1_6)], [], sh, gc_h sh I J A)
        have t215 := gc_N_n2 (f := I o) (a := I 86 16) (v := v1_6) (by omega)
        have t216 := gc_nwc (I o (Int.toNat (I 86 16 + v1_6)))
        refine gv_run 1 true hD (pcₚ := 16) (lvₚ := [(0, .inr (.inr (some 86))), (1, .inl v1_6)]) (stₚ := [.inr (.inr (some 86))]) (hₚ := gc_h sh I J A) (C := (True ∧ True)) rfl ⟨trivial, trivial⟩ ?_
        refine gv_get hD rfl rfl S_86 ⟨by decide, B_86⟩ (gc_hS (n := 1001) (q := o) S_86 rfl (by omega)) ?_
        show gv_X _ _ (19, [(0, .inr (.inr (some 86))), (1, .inl v1_6)], [.inr (.inr (some o))], sh, gc_h sh I J A)
        refine gv_run 1 true hD (pcₚ := 20) (lvₚ := [(0, .inr (.inr (some 86))), (1, .inl v1_6)]) (stₚ := [.inr (.inr (some 86)), .inr (.inr (some o))]) (hₚ := gc_h sh I J A) (C := (True ∧ True)) rfl ⟨trivial, trivial⟩ ?_
        have f217 := (gc_b_74_16 hI R_86)
        refine gv_get hD rfl rfl S_86 ⟨by decide, B_86⟩ (gc_hI S_86 rfl) ?_
        show gv_X _ _ (23, [(0, .inr (.inr (some 86))), (1, .inl v1_6)], [.inl (I 86 16), .inr (.inr (some o))], sh, gc_h sh I J A)
        refine gv_run 2 true hD (pcₚ := 25) (lvₚ := [(0, .inr (.inr (some 86))), (1, .inl v1_6)]) (stₚ := [.inl ((I 86 16) + v1_6), .inr (.inr (some o))]) (hₚ := gc_h sh I J A) (C := ((True ∧ True) ∧ True)) rfl ⟨⟨trivial, trivial⟩, trivial⟩ ?_
        have f218 := (show (-3) ≤ I o (Int.toNat (((I 86 16) + v1_6))) ∧ I o (Int.toNat (((I 86 16) + v1_6))) ≤ 1000000 from gc_in2 hI R_o rfl rfl rfl)
        refine gv_iald hD rfl S_o rfl ⟨by decide, B_o⟩ ⟨by omega, by omega⟩ (gc_iI S_o rfl) ?_
        show gv_X _ _ (26, [(0, .inr (.inr (some 86))), (1, .inl v1_6)], [.inl (I o (Int.toNat (((I 86 16) + v1_6))))], sh, gc_h sh I J A)
        refine gv_run 1 true hD (pcₚ := 27) (lvₚ := [(0, .inr (.inr (some 86))), (1, .inl v1_6)]) (stₚ := [.inl (-1), .inl (I o (Int.toNat (((I 86 16) + v1_6))))]) (hₚ := gc_h sh I J A) (C := (True ∧ True)) rfl ⟨trivial, trivial⟩ ?_
        refine gv_icmp_ne (t := 36) hD rfl rfl ⟨⟨by omega, by omega⟩, ⟨by omega, by omega⟩⟩ (fun c219 => ?_) (fun c219 => ?_)
        · show gv_X _ _ (36, [(0, .inr (.inr (some 86))), (1, .inl v1_6)], [], sh, gc_h sh I J A)
          exact L36 (by omega)
        · show gv_X _ _ (30, [(0, .inr (.inr (some 86))), (1, .inl v1_6)], [], sh, gc_h sh I J A)
          refine gv_run 2 true hD (pcₚ := 2) (lvₚ := [(1, .inl (v1_6 + 1)), (0, .inr (.inr (some 86)))]) (stₚ := []) (hₚ := gc_h sh I J A) (C := ((True ∧ True) ∧ True)) rfl ⟨⟨trivial, trivial⟩, trivial⟩ ?_
          refine gv_pick [1, 0] rfl ?_
          exact ih2 (v1_6 + 1) (by omega) (by omega)
  have t220 := (show gc_N (I o) (Int.toNat (I 86 16 + 0)) = gc_N (I o) (Int.toNat (I 86 16)) from by rw [Int.add_zero])
  refine gv_run 2 true hD (pcₚ := 2) (lvₚ := [(1, .inl 0), (0, .inr (.inr (some 86)))]) (stₚ := []) (hₚ := gc_h sh I J A) (C := ((True ∧ True) ∧ True)) rfl ⟨⟨trivial, trivial⟩, trivial⟩ ?_
  refine gv_pick [1, 0] rfl ?_
  exact L2 _ 0 (Nat.lt_succ_self _) (by omega)
