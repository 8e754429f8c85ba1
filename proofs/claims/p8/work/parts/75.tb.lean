set_option maxHeartbeats 8000000 in
set_option maxRecDepth 100000 in
theorem d_X10_paste {ws0 : List Cond} {tb : String → gz_T} (hws : gc_Ws ws0) (htb : gc_tbs tb) (sh : gz_Sh) (ro : Nat → Nat) (I : gr_I) (J : gr_J) (A : gc_A) (hI : gc_Inv ro I) (o : Nat) (u : Nat) (B : Int) (a1 : Int) (a2 : Int) (a3 : Int) (a4 : Int) (hb : gc_Base sh ro A) (ha1 : 0 ≤ a1 ∧ a1 ≤ 300) (ha2 : 0 ≤ a2 ∧ a2 ≤ 300) (ha3 : 0 ≤ a3 ∧ a3 ≤ 300) (ha4 : 0 ≤ a4 ∧ a4 ≤ 300) (x0 : 86 + 1 + 2 * Int.toNat (I 86 2) = o) (x1 : 86 + 1 + 2 * Int.toNat (I 86 4) = u) (x2 : o = 87 ∨ o = 89) (x3 : o + u = 176) (x4 : gc_sg (I o) a1 a2) (x5 : gc_tg (I u) a4 B) (x6 : gc_ub (I o) (I 86 1) (B - 300)) (x7 : 1 ≤ gc_N (I u) (Int.toNat a4)) (x8 : a1 ≤ a2 ∧ a2 ≤ I 86 1) (x9 : 300 ≤ B ∧ B ≤ 600000) : ∃ r hₚ, gz_Ev ws0 tb 1 (yX10_paste, cX10_paste, 10, (some .int)) [.inr (.inr (some 86)), .inl a1, .inl a2, .inl a3, .inl a4] sh (gc_h sh I J A) r sh hₚ 0 0 ∧ (∃ (Iₚ : gr_I) (Jₚ : gr_J), hₚ = gc_h sh Iₚ Jₚ A ∧ gc_Inv ro Iₚ ∧ (∀ q j : Nat, (q = u ∨ q = 93) ∨ Iₚ q j = I q j) ∧ (∀ q j : Nat, (q = 88 ∨ q = 90) ∨ Jₚ q j = J q j) ∧ (∃ z : Int, r = some (.inl z) ∧ (-1) ≤ z ∧ z ≤ 300 ∧ (z = -1 ∨ z = a4 + a2 - a1) ∧ (z = -1 ∨ gc_tg (Iₚ u) z B) ∧ (z = -1 ∨ gc_N (Iₚ u) (Int.toNat z) = gc_N (I u) (Int.toNat a4) + gc_N (I o) (Int.toNat a2) - gc_N (I o) (Int.toNat a1)))) := by
  have FI : ∀ q j : Nat, (q = u ∨ q = 93) ∨ I q j = I q j := fun _ _ => Or.inr rfl
  have FJ : ∀ q j : Nat, (q = 88 ∨ q = 90) ∨ J q j = J q j := fun _ _ => Or.inr rfl
  have A_86_8 : A 86 8 = some 93 := gc_bA_86_8 hb
  have B_86 : 86 < 1000000 := by decide
  have B_88 : 88 < 1000000 := by decide
  have B_90 : 90 < 1000000 := by decide
  have B_93 : 93 < 1000000 := by decide
  have R_86 : ro 86 = 74 := gc_bR_86 hb
  have R_88 : ro 88 = 0 := gc_bR_88 hb
  have R_90 : ro 90 = 0 := gc_bR_90 hb
  have R_93 : ro 93 = 60 := gc_bR_93 hb
  have S_86 : sh[86]? = some (false, 10, 19) := gc_bS_86 hb
  have S_88 : sh[88]? = some (true, 2, 300) := gc_bS_88 hb
  have S_90 : sh[90]? = some (true, 2, 300) := gc_bS_90 hb
  have S_93 : sh[93]? = some (true, 1, 300) := gc_bS_93 hb
  have S_o : sh[o]? = some (true, 1, 300) := by
    rcases (show o = 87 ∨ o = 89 from by omega) with h9 | h9 <;> rw [h9] <;> exact gc_bS hb rfl
  have R_o : ro o = 77 := by
    rcases (show o = 87 ∨ o = 89 from by omega) with h9 | h9 <;> rw [h9] <;> exact gc_bR hb (by decide) rfl
  have B_o : o < 1000000 := by omega
  have S_u : sh[u]? = some (true, 1, 300) := by
    rcases (show u = 87 ∨ u = 89 from by omega) with h9 | h9 <;> rw [h9] <;> exact gc_bS hb rfl
  have R_u : ro u = 77 := by
    rcases (show u = 87 ∨ u = 89 from by omega) with h9 | h9 <;> rw [h9] <;> exact gc_bR hb (by decide) rfl
  have B_u : u < 1000000 := by omega
  have hD : gv_D (gc_E10 ws0 tb 0 (yX10_paste, cX10_paste, 10, (some .int)) kX10_paste) := gq_of oX10_paste
  refine gc_ev10 (d := 0) (l := kX10_paste) (Po := fun r hₚ => (∃ (Iₚ : gr_I) (Jₚ : gr_J), hₚ = gc_h sh Iₚ Jₚ A ∧ gc_Inv ro Iₚ ∧ (∀ q j : Nat, (q = u ∨ q = 93) ∨ Iₚ q j = I q j) ∧ (∀ q j : Nat, (q = 88 ∨ q = 90) ∨ Jₚ q j = J q j) ∧ (∃ z : Int, r = some (.inl z) ∧ (-1) ≤ z ∧ z ≤ 300 ∧ (z = -1 ∨ z = a4 + a2 - a1) ∧ (z = -1 ∨ gc_tg (Iₚ u) z B) ∧ (z = -1 ∨ gc_N (Iₚ u) (Int.toNat z) = gc_N (I u) (Int.toNat a4) + gc_N (I o) (Int.toNat a2) - gc_N (I o) (Int.toNat a1))))) htb rfl (Nat.le_of_ble_eq_true rfl) ?_
  have N_86__u : ¬ (86 = u) := by omega
  have f1 := (gc_b_74_1 hI R_86)
  have f2 := (gc_b_74_2 hI R_86)
  have f3 := (gc_b_74_4 hI R_86)
  have L27 : ∀ (n9 : Nat) (I4 : gr_I) (J5 : gr_J) (v5_6 : Int) (v6_6 : Int) (v7_6 : Int) (v8_6 : Int), (301 - v8_6).toNat < n9 → gc_Inv ro I4 → (∀ q j : Nat, (q = u ∨ q = 93) ∨ I4 q j = I q j) → (∀ q j : Nat, (q = 88 ∨ q = 90) ∨ J5 q j = J q j) → ((0 ≤ a2 ∧ a2 ≤ 300) ∧ (0 ≤ a3 ∧ a3 ≤ 300) ∧ (0 ≤ v5_6 ∧ v5_6 ≤ 300) ∧ (0 ≤ v6_6 ∧ v6_6 ≤ 300) ∧ (0 ≤ v7_6 ∧ v7_6 ≤ 300) ∧ (0 ≤ v8_6 ∧ v8_6 ≤ 300) ∧ (v5_6 - a4 = v8_6 - a1) ∧ (v6_6 ≤ v8_6) ∧ (v7_6 ≤ v8_6 - a1) ∧ (a1 ≤ v8_6) ∧ (v8_6 ≤ a2) ∧ (a4 + a2 - a1 ≤ 300) ∧ (I4 86 1 = I 86 1) ∧ (I4 86 2 = I 86 2) ∧ (I4 86 4 = I 86 4)) → (gc_tg (I4 u) v5_6 B) → (gc_N (I4 u) (Int.toNat v5_6) = gc_N (I u) (Int.toNat a4) + gc_N (I o) (Int.toNat (v8_6)) - gc_N (I o) (Int.toNat a1)) → (gc_rg 93 I4 v7_6 0 (v8_6)) → gv_X (gc_E10 ws0 tb 0 (yX10_paste, cX10_paste, 10, (some .int)) kX10_paste) (gv_Q cX10_paste (some .int) sh (fun r hₚ => (∃ (Iₚ : gr_I) (Jₚ : gr_J), hₚ = gc_h sh Iₚ Jₚ A ∧ gc_Inv ro Iₚ ∧ (∀ q j : Nat, (q = u ∨ q = 93) ∨ Iₚ q j = I q j) ∧ (∀ q j : Nat, (q = 88 ∨ q = 90) ∨ Jₚ q j = J q j) ∧ (∃ z : Int, r = some (.inl z) ∧ (-1) ≤ z ∧ z ≤ 300 ∧ (z = -1 ∨ z = a4 + a2 - a1) ∧ (z = -1 ∨ gc_tg (Iₚ u) z B) ∧ (z = -1 ∨ gc_N (Iₚ u) (Int.toNat z) = gc_N (I u) (Int.toNat a4) + gc_N (I o) (Int.toNat a2) - gc_N (I o) (Int.toNat a1)))))) (27, [(0, .inr (.inr (some 86))), (2, .inl a2), (3, .inl a3), (5, .inl v5_6), (6, .inl v6_6), (7, .inl v7_6), (8, .inl v8_6)], [], sh, gc_h sh I4 J5 A) := by
    intro n9
    induction n9 with
    | zero => intro I4 J5 v5_6 v6_6 v7_6 v8_6 hn; omega
    | succ n9 ih27 =>
      intro I4 J5 v5_6 v6_6 v7_6 v8_6 hn hI4 FI4 FJ5 m_6 e0_6 e1_6 e2_6
      obtain ⟨ha2_6, ha3_6, hv5_6, hv6_6, hv7_6, hv8_6, e3_6, e4_6, e5_6, e6_6, e7_6, e8_6, e9_6, e10_6, e11_6⟩ := m_6
      have f7 := (gc_b_74_1 hI4 R_86)
      have f8 := (gc_b_74_2 hI4 R_86)
      have f9 := (gc_b_74_4 hI4 R_86)
      have L133 : ∀ (I10 : gr_I) (J11 : gr_J) (v5_12 : Int) (v6_12 : Int) (v7_12 : Int), gc_Inv ro I10 → (∀ q j : Nat, (q = u ∨ q = 93) ∨ I10 q j = I q j) → (∀ q j : Nat, (q = 88 ∨ q = 90) ∨ J11 q j = J q j) → ((1 ≤ a2 ∧ a2 ≤ 300) ∧ (0 ≤ a3 ∧ a3 ≤ 300) ∧ (1 ≤ v5_12 ∧ v5_12 ≤ 300) ∧ (0 ≤ v6_12 ∧ v6_12 ≤ 300) ∧ (0 ≤ v7_12 ∧ v7_12 ≤ 300) ∧ (0 ≤ v8_6 ∧ v8_6 ≤ 299) ∧ (v5_12 - a4 = v8_6 + 1 - a1) ∧ (v6_12 ≤ v8_6 + 1) ∧ (v7_12 ≤ v8_6 + 1 - a1) ∧ (a1 ≤ v8_6) ∧ (v8_6 < a2) ∧ (a4 + a2 - a1 ≤ 300) ∧ (I10 86 1 = I 86 1) ∧ (I10 86 2 = I 86 2) ∧ (I10 86 4 = I 86 4)) → (gc_tg (I10 u) v5_12 B) → (gc_N (I10 u) (Int.toNat v5_12) = gc_N (I u) (Int.toNat a4) + gc_N (I o) (Int.toNat (v8_6 + 1)) - gc_N (I o) (Int.toNat a1)) → (gc_rg 93 I10 v7_12 0 (v8_6 + 1)) → gv_X (gc_E10 ws0 tb 0 (yX10_paste, cX10_paste, 10, (some .int)) kX10_paste) (gv_Q cX10_paste (some .int) sh (fun r hₚ => (∃ (Iₚ : gr_I) (Jₚ : gr_J), hₚ = gc_h sh Iₚ Jₚ A ∧ gc_Inv ro Iₚ ∧ (∀ q j : Nat, (q = u ∨ q = 93) ∨ Iₚ q j = I q j) ∧ (∀ q j : Nat, (q = 88 ∨ q = 90) ∨ Jₚ q j = J q j) ∧ (∃ z : Int, r = some (.inl z) ∧ (-1) ≤ z ∧ z ≤ 300 ∧ (z = -1 ∨ z = a4 + a2 - a1) ∧ (z = -1 ∨ gc_tg (Iₚ u) z B) ∧ (z = -1 ∨ gc_N (Iₚ u) (Int.toNat z) = gc_N (I u) (Int.toNat a4) + gc_N (I o) (Int.toNat a2) - gc_N (I o) (Int.toNat a1)))))) (133, [(0, .inr (.inr (some 86))), (2, .inl a2), (3, .inl a3), (5, .inl v5_12), (6, .inl v6_12), (7, .inl v7_12), (8, .inl v8_6)], [], sh, gc_h sh I10 J11 A) := by
        intro I10 J11 v5_12 v6_12 v7_12 hI10 FI10 FJ11 m_12 e0_12 e1_12 e2_12
        clear ha2_6 ha3_6 hv5_6 hv6_6 hv7_6 hv8_6 e3_6 e4_6 e5_6 e6_6 e7_6 e8_6 e9_6 e10_6 e11_6 f7 f8 f9
        obtain ⟨ha2_12, ha3_12, hv5_12, hv6_12, hv7_12, hv8_6_12, e3_12, e4_12, e5_12, e6_12, e7_12, e8_12, e9_12, e10_12, e11_12⟩ := m_12
        have f13 := (gc_b_74_1 hI10 R_86)
        have f14 := (gc_b_74_2 hI10 R_86)
        have f15 := (gc_b_74_4 hI10 R_86)
        refine gv_run 2 true hD (pcₚ := 27) (lvₚ := [(8, .inl (v8_6 + 1)), (0, .inr (.inr (some 86))), (2, .inl a2), (3, .inl a3), (5, .inl v5_12), (6, .inl v6_12), (7, .inl v7_12)]) (stₚ := []) (hₚ := gc_h sh I10 J11 A) (C := ((True ∧ True) ∧ True)) rfl ⟨⟨trivial, trivial⟩, trivial⟩ ?_
        refine gv_pick [1, 2, 3, 4, 5, 6, 0] rfl ?_
        exact ih27 I10 J11 v5_12 v6_12 v7_12 (v8_6 + 1) (by omega) hI10 FI10 FJ11 (by omega) e0_12 e1_12 e2_12
      refine gv_run 2 true hD (pcₚ := 30) (lvₚ := [(0, .inr (.inr (some 86))), (2, .inl a2), (3, .inl a3), (5, .inl v5_6), (6, .inl v6_6), (7, .inl v7_6), (8, .inl v8_6)]) (stₚ := [.inl a2, .inl v8_6]) (hₚ := gc_h sh I4 J5 A) (C := ((True ∧ True) ∧ True)) rfl ⟨⟨trivial, trivial⟩, trivial⟩ ?_
      refine gv_icmp_ge (t := 139) hD rfl rfl ⟨⟨by omega, by omega⟩, ⟨by omega, by omega⟩⟩ (fun c16 => ?_) (fun c16 => ?_)
      · show gv_X _ _ (139, [(0, .inr (.inr (some 86))), (2, .inl a2), (3, .inl a3), (5, .inl v5_6), (6, .inl v6_6), (7, .inl v7_6), (8, .inl v8_6)], [], sh, gc_h sh I4 J5 A)
        refine gv_run 1 true hD (pcₚ := 141) (lvₚ := [(0, .inr (.inr (some 86))), (2, .inl a2), (3, .inl a3), (5, .inl v5_6), (6, .inl v6_6), (7, .inl v7_6), (8, .inl v8_6)]) (stₚ := [.inl v5_6]) (hₚ := gc_h sh I4 J5 A) (C := (True ∧ True)) rfl ⟨trivial, trivial⟩ ?_
        exact gv_iret hD rfl ⟨I4, J5, rfl, hI4, FI4, FJ5, ⟨_, rfl, by omega, by omega, by omega, (Or.inr e0_6), (Or.inr (by rw [show a2 = v8_6 from by omega]; exact e1_6))⟩⟩
      · show gv_X _ _ (33, [(0, .inr (.inr (some 86))), (2, .inl a2), (3, .inl a3), (5, .inl v5_6), (6, .inl v6_6), (7, .inl v7_6), (8, .inl v8_6)], [], sh, gc_h sh I4 J5 A)
        have t17 := gc_N_nx (f := I o) (v := v8_6) (by omega)
        have t18 := gc_nwc (I o (Int.toNat v8_6))
        have t19 := x4 (Int.toNat v8_6) (by omega) (by omega)
        have t20 := (FI4 o (Int.toNat v8_6)).resolve_left (by omega)
        have t21 := x6 (Int.toNat v8_6) (by omega)
        refine gv_run 1 true hD (pcₚ := 34) (lvₚ := [(0, .inr (.inr (some 86))), (2, .inl a2), (3, .inl a3), (5, .inl v5_6), (6, .inl v6_6), (7, .inl v7_6), (8, .inl v8_6)]) (stₚ := [.inr (.inr (some 86))]) (hₚ := gc_h sh I4 J5 A) (C := (True ∧ True)) rfl ⟨trivial, trivial⟩ ?_
        refine gv_get hD rfl rfl S_86 ⟨by decide, B_86⟩ (gc_hS (n := 1001) (q := o) S_86 rfl (by omega)) ?_
        show gv_X _ _ (37, [(0, .inr (.inr (some 86))), (2, .inl a2), (3, .inl a3), (5, .inl v5_6), (6, .inl v6_6), (7, .inl v7_6), (8, .inl v8_6)], [.inr (.inr (some o))], sh, gc_h sh I4 J5 A)
        refine gv_run 1 true hD (pcₚ := 39) (lvₚ := [(0, .inr (.inr (some 86))), (2, .inl a2), (3, .inl a3), (5, .inl v5_6), (6, .inl v6_6), (7, .inl v7_6), (8, .inl v8_6)]) (stₚ := [.inl v8_6, .inr (.inr (some o))]) (hₚ := gc_h sh I4 J5 A) (C := (True ∧ True)) rfl ⟨trivial, trivial⟩ ?_
        have f22 := (show (-3) ≤ I4 o (Int.toNat v8_6) ∧ I4 o (Int.toNat v8_6) ≤ 1000000 from gc_in2 hI4 R_o rfl rfl rfl)
        refine gv_iald hD rfl S_o rfl ⟨by decide, B_o⟩ ⟨by omega, by omega⟩ (gc_iI S_o rfl) ?_
        show gv_X _ _ (40, [(0, .inr (.inr (some 86))), (2, .inl a2), (3, .inl a3), (5, .inl v5_6), (6, .inl v6_6), (7, .inl v7_6), (8, .inl v8_6)], [.inl (I4 o (Int.toNat v8_6))], sh, gc_h sh I4 J5 A)
        refine gv_run 2 true hD (pcₚ := 43) (lvₚ := [(9, .inl (I4 o (Int.toNat v8_6))), (0, .inr (.inr (some 86))), (2, .inl a2), (3, .inl a3), (5, .inl v5_6), (6, .inl v6_6), (7, .inl v7_6), (8, .inl v8_6)]) (stₚ := [.inr (.inr (some 86))]) (hₚ := gc_h sh I4 J5 A) (C := ((True ∧ True) ∧ True)) rfl ⟨⟨trivial, trivial⟩, trivial⟩ ?_
        refine gv_get hD rfl rfl S_86 ⟨by decide, B_86⟩ (gc_hS (n := 1001) (q := u) S_86 rfl (by omega)) ?_
        show gv_X _ _ (46, [(9, .inl (I4 o (Int.toNat v8_6))), (0, .inr (.inr (some 86))), (2, .inl a2), (3, .inl a3), (5, .inl v5_6), (6, .inl v6_6), (7, .inl v7_6), (8, .inl v8_6)], [.inr (.inr (some u))], sh, gc_h sh I4 J5 A)
        refine gv_run 3 true hD (pcₚ := 52) (lvₚ := [(9, .inl (I4 o (Int.toNat v8_6))), (0, .inr (.inr (some 86))), (2, .inl a2), (3, .inl a3), (5, .inl v5_6), (6, .inl v6_6), (7, .inl v7_6), (8, .inl v8_6)]) (stₚ := [.inl v6_6, .inl (I4 o (Int.toNat v8_6)), .inl v5_6, .inr (.inr (some u))]) (hₚ := gc_h sh I4 J5 A) (C := (((True ∧ True) ∧ True) ∧ True)) rfl ⟨⟨⟨trivial, trivial⟩, trivial⟩, trivial⟩ ?_
        refine gv_icmp_lt (t := 62) hD rfl rfl ⟨⟨by omega, by omega⟩, ⟨by omega, by omega⟩⟩ (fun c23 => ?_) (fun c23 => ?_)
        · show gv_X _ _ (62, [(9, .inl (I4 o (Int.toNat v8_6))), (0, .inr (.inr (some 86))), (2, .inl a2), (3, .inl a3), (5, .inl v5_6), (6, .inl v6_6), (7, .inl v7_6), (8, .inl v8_6)], [.inl v5_6, .inr (.inr (some u))], sh, gc_h sh I4 J5 A)
          refine gv_run 1 true hD (pcₚ := 64) (lvₚ := [(9, .inl (I4 o (Int.toNat v8_6))), (0, .inr (.inr (some 86))), (2, .inl a2), (3, .inl a3), (5, .inl v5_6), (6, .inl v6_6), (7, .inl v7_6), (8, .inl v8_6)]) (stₚ := [.inl (I4 o (Int.toNat v8_6)), .inl v5_6, .inr (.inr (some u))]) (hₚ := gc_h sh I4 J5 A) (C := (True ∧ True)) rfl ⟨trivial, trivial⟩ ?_
          have t24 := gc_N_nx (f := I o) (v := v8_6) (by omega)
          have t25 := x4 (Int.toNat v8_6) (by omega) (by omega)
          have t26 := gc_nwc ((I4 o (Int.toNat v8_6)))
          have t27 := gc_nwc ((I4 o (Int.toNat v8_6)))
          refine gv_iast hD rfl S_u ⟨by decide, B_u⟩ ⟨by omega, by omega⟩ ?_
          refine gc_st hI4 S_u rfl R_u (lo := (-3)) (hi := 1000000) rfl rfl (by omega) (by omega) (fun I28 hI28 q29 p29 => ?_)
          have FI28 := gc_frs (W := fun q j => q = u ∨ q = 93) FI4 (Or.inl rfl) p29
          have t30 := p29 86 1 (fun h => absurd h.1 N_86__u)
          have t31 := p29 86 2 (fun h => absurd h.1 N_86__u)
          have t32 := p29 86 4 (fun h => absurd h.1 N_86__u)
          show gv_X _ _ (65, [(9, .inl (I4 o (Int.toNat v8_6))), (0, .inr (.inr (some 86))), (2, .inl a2), (3, .inl a3), (5, .inl v5_6), (6, .inl v6_6), (7, .inl v7_6), (8, .inl v8_6)], [], sh, gc_h sh I28 J5 A)
          refine gv_run 1 true hD (pcₚ := 66) (lvₚ := [(9, .inl (I4 o (Int.toNat v8_6))), (0, .inr (.inr (some 86))), (2, .inl a2), (3, .inl a3), (5, .inl v5_6), (6, .inl v6_6), (7, .inl v7_6), (8, .inl v8_6)]) (stₚ := [.inr (.inr (some 86))]) (hₚ := gc_h sh I28 J5 A) (C := (True ∧ True)) rfl ⟨trivial, trivial⟩ ?_
          have f34 := (gc_b_74_5 hI28 R_86)
          obtain ⟨f33_, hq_f33_, S_f33, R_f33, B_f33, D_f33⟩ := gc_sw (p := 86) (d := 2) (s := 2) (z := I28 86 5) (gc_b_74_5 hI28 R_86) S_88 R_88 B_88 S_90 R_90 B_90
          refine gv_get hD rfl rfl S_86 ⟨by decide, B_86⟩ (gc_hS (n := 1002) S_86 rfl hq_f33_) ?_
          show gv_X _ _ (69, [(9, .inl (I4 o (Int.toNat v8_6))), (0, .inr (.inr (some 86))), (2, .inl a2), (3, .inl a3), (5, .inl v5_6), (6, .inl v6_6), (7, .inl v7_6), (8, .inl v8_6)], [.inr (.inr (some f33_))], sh, gc_h sh I28 J5 A)
          refine gv_run 3 true hD (pcₚ := 75) (lvₚ := [(5, .inl (v5_6 + 1)), (9, .inl (I4 o (Int.toNat v8_6))), (0, .inr (.inr (some 86))), (2, .inl a2), (3, .inl a3), (6, .inl v6_6), (7, .inl v7_6), (8, .inl v8_6)]) (stₚ := [.inr (.inr (some 86)), .inl v5_6, .inr (.inr (some f33_))]) (hₚ := gc_h sh I28 J5 A) (C := (((True ∧ True) ∧ True) ∧ True)) rfl ⟨⟨⟨trivial, trivial⟩, trivial⟩, trivial⟩ ?_
          have f36 := (gc_b_74_3 hI28 R_86)
          obtain ⟨f35_, hq_f35_, S_f35, R_f35, B_f35, D_f35⟩ := gc_sw (p := 86) (d := 2) (s := 2) (z := I28 86 3) (gc_b_74_3 hI28 R_86) S_88 R_88 B_88 S_90 R_90 B_90
          refine gv_get hD rfl rfl S_86 ⟨by decide, B_86⟩ (gc_hS (n := 1002) S_86 rfl hq_f35_) ?_
          show gv_X _ _ (78, [(5, .inl (v5_6 + 1)), (9, .inl (I4 o (Int.toNat v8_6))), (0, .inr (.inr (some 86))), (2, .inl a2), (3, .inl a3), (6, .inl v6_6), (7, .inl v7_6), (8, .inl v8_6)], [.inr (.inr (some f35_)), .inl v5_6, .inr (.inr (some f33_))], sh, gc_h sh I28 J5 A)
          refine gv_run 1 true hD (pcₚ := 80) (lvₚ := [(5, .inl (v5_6 + 1)), (9, .inl (I4 o (Int.toNat v8_6))), (0, .inr (.inr (some 86))), (2, .inl a2), (3, .inl a3), (6, .inl v6_6), (7, .inl v7_6), (8, .inl v8_6)]) (stₚ := [.inl v8_6, .inr (.inr (some f35_)), .inl v5_6, .inr (.inr (some f33_))]) (hₚ := gc_h sh I28 J5 A) (C := (True ∧ True)) rfl ⟨trivial, trivial⟩ ?_
          refine gv_lald hD rfl S_f35 rfl ⟨by decide, B_f35⟩ ⟨by omega, by omega⟩ (gc_jJ S_f35 rfl) ?_
          show gv_X _ _ (81, [(5, .inl (v5_6 + 1)), (9, .inl (I4 o (Int.toNat v8_6))), (0, .inr (.inr (some 86))), (2, .inl a2), (3, .inl a3), (6, .inl v6_6), (7, .inl v7_6), (8, .inl v8_6)], [.inr (.inl (J5 f35_ (Int.toNat v8_6))), .inl v5_6, .inr (.inr (some f33_))], sh, gc_h sh I28 J5 A)
          refine gv_last hD rfl S_f33 ⟨by decide, B_f33⟩ ⟨by omega, by omega⟩ ?_
          refine gc_stJ S_f33 rfl (fun J37 q38 p38 => ?_)
          have FJ37 := gc_frs (W := fun q j => q = 88 ∨ q = 90) FJ5 (show f33_ = 88 ∨ f33_ = 90 from by omega) p38
          show gv_X _ _ (82, [(5, .inl (v5_6 + 1)), (9, .inl (I4 o (Int.toNat v8_6))), (0, .inr (.inr (some 86))), (2, .inl a2), (3, .inl a3), (6, .inl v6_6), (7, .inl v7_6), (8, .inl v8_6)], [], sh, gc_h sh I28 J37 A)
          refine gv_run 2 true hD (pcₚ := 85) (lvₚ := [(5, .inl (v5_6 + 1)), (9, .inl (I4 o (Int.toNat v8_6))), (0, .inr (.inr (some 86))), (2, .inl a2), (3, .inl a3), (6, .inl v6_6), (7, .inl v7_6), (8, .inl v8_6)]) (stₚ := [.inl (-1), .inl (I4 o (Int.toNat v8_6))]) (hₚ := gc_h sh I28 J37 A) (C := ((True ∧ True) ∧ True)) rfl ⟨⟨trivial, trivial⟩, trivial⟩ ?_
          refine gv_icmp_ne (t := 103) hD rfl rfl ⟨⟨by omega, by omega⟩, ⟨by omega, by omega⟩⟩ (fun c39 => ?_) (fun c39 => ?_)
          · show gv_X _ _ (103, [(5, .inl (v5_6 + 1)), (9, .inl (I4 o (Int.toNat v8_6))), (0, .inr (.inr (some 86))), (2, .inl a2), (3, .inl a3), (6, .inl v6_6), (7, .inl v7_6), (8, .inl v8_6)], [], sh, gc_h sh I28 J37 A)
            refine gv_run 2 true hD (pcₚ := 107) (lvₚ := [(5, .inl (v5_6 + 1)), (9, .inl (I4 o (Int.toNat v8_6))), (0, .inr (.inr (some 86))), (2, .inl a2), (3, .inl a3), (6, .inl v6_6), (7, .inl v7_6), (8, .inl v8_6)]) (stₚ := [.inl (-2), .inl (I4 o (Int.toNat v8_6))]) (hₚ := gc_h sh I28 J37 A) (C := ((True ∧ True) ∧ True)) rfl ⟨⟨trivial, trivial⟩, trivial⟩ ?_
            refine gv_icmp_ne (t := 116) hD rfl rfl ⟨⟨by omega, by omega⟩, ⟨by omega, by omega⟩⟩ (fun c40 => ?_) (fun c40 => ?_)
            · show gv_X _ _ (116, [(5, .inl (v5_6 + 1)), (9, .inl (I4 o (Int.toNat v8_6))), (0, .inr (.inr (some 86))), (2, .inl a2), (3, .inl a3), (6, .inl v6_6), (7, .inl v7_6), (8, .inl v8_6)], [], sh, gc_h sh I28 J37 A)
              refine gv_run 1 true hD (pcₚ := 118) (lvₚ := [(5, .inl (v5_6 + 1)), (9, .inl (I4 o (Int.toNat v8_6))), (0, .inr (.inr (some 86))), (2, .inl a2), (3, .inl a3), (6, .inl v6_6), (7, .inl v7_6), (8, .inl v8_6)]) (stₚ := [.inl v7_6]) (hₚ := gc_h sh I28 J37 A) (C := (True ∧ True)) rfl ⟨trivial, trivial⟩ ?_
              refine gv_if_le (t := 133) hD rfl rfl ⟨by omega, by omega⟩ (fun c41 => ?_) (fun c41 => ?_)
              · show gv_X _ _ (133, [(5, .inl (v5_6 + 1)), (9, .inl (I4 o (Int.toNat v8_6))), (0, .inr (.inr (some 86))), (2, .inl a2), (3, .inl a3), (6, .inl v6_6), (7, .inl v7_6), (8, .inl v8_6)], [], sh, gc_h sh I28 J37 A)
                refine gv_pick [2, 3, 4, 0, 5, 6, 7] rfl ?_
                exact L133 I28 J37 (v5_6 + 1) v6_6 v7_6 hI28 FI28 FJ37 (by omega) (by exact gc_tg_st e0_6 (by omega) p29 (by omega) (by omega)) (by show gc_N (I28 u) (Int.toNat (v5_6 + 1)) = _; rw [gc_N_st (by omega) p29, q29]; omega) (gc_rg_hi (gc_rg_fr e2_6 (fun k => p29 93 k (fun h => absurd h.1 (by omega)))) (by omega))
              · show gv_X _ _ (121, [(5, .inl (v5_6 + 1)), (9, .inl (I4 o (Int.toNat v8_6))), (0, .inr (.inr (some 86))), (2, .inl a2), (3, .inl a3), (6, .inl v6_6), (7, .inl v7_6), (8, .inl v8_6)], [], sh, gc_h sh I28 J37 A)
                refine gv_run 1 true hD (pcₚ := 122) (lvₚ := [(5, .inl (v5_6 + 1)), (9, .inl (I4 o (Int.toNat v8_6))), (0, .inr (.inr (some 86))), (2, .inl a2), (3, .inl a3), (6, .inl v6_6), (7, .inl v7_6), (8, .inl v8_6)]) (stₚ := [.inr (.inr (some 86))]) (hₚ := gc_h sh I28 J37 A) (C := (True ∧ True)) rfl ⟨trivial, trivial⟩ ?_
                refine gv_get hD rfl rfl S_86 ⟨by decide, B_86⟩ (gc_hA S_86 rfl A_86_8) ?_
                show gv_X _ _ (125, [(5, .inl (v5_6 + 1)), (9, .inl (I4 o (Int.toNat v8_6))), (0, .inr (.inr (some 86))), (2, .inl a2), (3, .inl a3), (6, .inl v6_6), (7, .inl v7_6), (8, .inl v8_6)], [.inr (.inr (some 93))], sh, gc_h sh I28 J37 A)
                refine gv_run 2 true hD (pcₚ := 130) (lvₚ := [(7, .inl (v7_6 + (-1))), (5, .inl (v5_6 + 1)), (9, .inl (I4 o (Int.toNat v8_6))), (0, .inr (.inr (some 86))), (2, .inl a2), (3, .inl a3), (6, .inl v6_6), (8, .inl v8_6)]) (stₚ := [.inl (v7_6 + (-1)), .inr (.inr (some 93))]) (hₚ := gc_h sh I28 J37 A) (C := ((True ∧ True) ∧ True)) rfl ⟨⟨trivial, trivial⟩, trivial⟩ ?_
                have t42 := (gc_rg_fr e2_6 (fun k => p29 93 k (fun h => absurd h.1 (by omega)))) ((v7_6 + (-1))) (by omega) (by omega)
                have f43 := (gc_b_60 hI28 R_93 (Int.toNat ((v7_6 + (-1)))))
                refine gv_iald hD rfl S_93 rfl ⟨by decide, B_93⟩ ⟨by omega, by omega⟩ (gc_iI S_93 rfl) ?_
                show gv_X _ _ (131, [(7, .inl (v7_6 + (-1))), (5, .inl (v5_6 + 1)), (9, .inl (I4 o (Int.toNat v8_6))), (0, .inr (.inr (some 86))), (2, .inl a2), (3, .inl a3), (6, .inl v6_6), (8, .inl v8_6)], [.inl (I28 93 (Int.toNat ((v7_6 + (-1)))))], sh, gc_h sh I28 J37 A)
                refine gv_run 1 true hD (pcₚ := 133) (lvₚ := [(6, .inl (I28 93 (Int.toNat ((v7_6 + (-1)))))), (7, .inl (v7_6 + (-1))), (5, .inl (v5_6 + 1)), (9, .inl (I4 o (Int.toNat v8_6))), (0, .inr (.inr (some 86))), (2, .inl a2), (3, .inl a3), (8, .inl v8_6)]) (stₚ := []) (hₚ := gc_h sh I28 J37 A) (C := (True ∧ True)) rfl ⟨trivial, trivial⟩ ?_
                refine gv_pick [4, 5, 6, 2, 0, 1, 7] rfl ?_
                exact L133 I28 J37 (v5_6 + 1) ((I28 93 (Int.toNat ((v7_6 + (-1)))))) ((v7_6 + (-1))) hI28 FI28 FJ37 (by omega) (by exact gc_tg_st e0_6 (by omega) p29 (by omega) (by omega)) (by show gc_N (I28 u) (Int.toNat (v5_6 + 1)) = _; rw [gc_N_st (by omega) p29, q29]; omega) (gc_rg_hi (gc_rg_m (gc_rg_fr e2_6 (fun k => p29 93 k (fun h => absurd h.1 (by omega)))) (by omega)) (by omega))
            · show gv_X _ _ (110, [(5, .inl (v5_6 + 1)), (9, .inl (I4 o (Int.toNat v8_6))), (0, .inr (.inr (some 86))), (2, .inl a2), (3, .inl a3), (6, .inl v6_6), (7, .inl v7_6), (8, .inl v8_6)], [], sh, gc_h sh I28 J37 A)
              refine gv_run 2 true hD (pcₚ := 133) (lvₚ := [(6, .inl (v6_6 + 1)), (5, .inl (v5_6 + 1)), (9, .inl (I4 o (Int.toNat v8_6))), (0, .inr (.inr (some 86))), (2, .inl a2), (3, .inl a3), (7, .inl v7_6), (8, .inl v8_6)]) (stₚ := []) (hₚ := gc_h sh I28 J37 A) (C := ((True ∧ True) ∧ True)) rfl ⟨⟨trivial, trivial⟩, trivial⟩ ?_
              refine gv_pick [3, 4, 5, 1, 0, 6, 7] rfl ?_
              exact L133 I28 J37 (v5_6 + 1) (v6_6 + 1) v7_6 hI28 FI28 FJ37 (by omega) (by exact gc_tg_st e0_6 (by omega) p29 (by omega) (by omega)) (by show gc_N (I28 u) (Int.toNat (v5_6 + 1)) = _; rw [gc_N_st (by omega) p29, q29]; omega) (gc_rg_hi (gc_rg_fr e2_6 (fun k => p29 93 k (fun h => absurd h.1 (by omega)))) (by omega))
          · show gv_X _ _ (88, [(5, .inl (v5_6 + 1)), (9, .inl (I4 o (Int.toNat v8_6))), (0, .inr (.inr (some 86))), (2, .inl a2), (3, .inl a3), (6, .inl v6_6), (7, .inl v7_6), (8, .inl v8_6)], [], sh, gc_h sh I28 J37 A)
            refine gv_run 1 true hD (pcₚ := 89) (lvₚ := [(5, .inl (v5_6 + 1)), (9, .inl (I4 o (Int.toNat v8_6))), (0, .inr (.inr (some 86))), (2, .inl a2), (3, .inl a3), (6, .inl v6_6), (7, .inl v7_6), (8, .inl v8_6)]) (stₚ := [.inr (.inr (some 86))]) (hₚ := gc_h sh I28 J37 A) (C := (True ∧ True)) rfl ⟨trivial, trivial⟩ ?_
            refine gv_get hD rfl rfl S_86 ⟨by decide, B_86⟩ (gc_hA S_86 rfl A_86_8) ?_
            show gv_X _ _ (92, [(5, .inl (v5_6 + 1)), (9, .inl (I4 o (Int.toNat v8_6))), (0, .inr (.inr (some 86))), (2, .inl a2), (3, .inl a3), (6, .inl v6_6), (7, .inl v7_6), (8, .inl v8_6)], [.inr (.inr (some 93))], sh, gc_h sh I28 J37 A)
            refine gv_run 3 true hD (pcₚ := 99) (lvₚ := [(7, .inl (v7_6 + 1)), (5, .inl (v5_6 + 1)), (9, .inl (I4 o (Int.toNat v8_6))), (0, .inr (.inr (some 86))), (2, .inl a2), (3, .inl a3), (6, .inl v6_6), (8, .inl v8_6)]) (stₚ := [.inl v6_6, .inl v7_6, .inr (.inr (some 93))]) (hₚ := gc_h sh I28 J37 A) (C := (((True ∧ True) ∧ True) ∧ True)) rfl ⟨⟨⟨trivial, trivial⟩, trivial⟩, trivial⟩ ?_
            refine gv_iast hD rfl S_93 ⟨by decide, B_93⟩ ⟨by omega, by omega⟩ ?_
            refine gc_st hI28 S_93 rfl R_93 (lo := 0) (hi := 400) rfl rfl (by omega) (by omega) (fun I44 hI44 q45 p45 => ?_)
            have FI44 := gc_frs (W := fun q j => q = u ∨ q = 93) FI28 (Or.inr rfl) p45
            have t46 := p45 86 1 (fun h => absurd h.1 (by decide))
            have t47 := p45 86 2 (fun h => absurd h.1 (by decide))
            have t48 := p45 86 4 (fun h => absurd h.1 (by decide))
            show gv_X _ _ (100, [(7, .inl (v7_6 + 1)), (5, .inl (v5_6 + 1)), (9, .inl (I4 o (Int.toNat v8_6))), (0, .inr (.inr (some 86))), (2, .inl a2), (3, .inl a3), (6, .inl v6_6), (8, .inl v8_6)], [], sh, gc_h sh I44 J37 A)
            refine gv_run 1 true hD (pcₚ := 133) (lvₚ := [(7, .inl (v7_6 + 1)), (5, .inl (v5_6 + 1)), (9, .inl (I4 o (Int.toNat v8_6))), (0, .inr (.inr (some 86))), (2, .inl a2), (3, .inl a3), (6, .inl v6_6), (8, .inl v8_6)]) (stₚ := []) (hₚ := gc_h sh I44 J37 A) (C := (True ∧ True)) rfl ⟨trivial, trivial⟩ ?_
            refine gv_pick [3, 4, 5, 1, 6, 0, 7] rfl ?_
            exact L133 I44 J37 (v5_6 + 1) v6_6 (v7_6 + 1) hI44 FI44 FJ37 (by omega) (by rw [show I44 u = I28 u from funext (fun k => (p45 u k (fun h => absurd h.1 (by omega))))]; exact gc_tg_st e0_6 (by omega) p29 (by omega) (by omega)) (by rw [show I44 u = I28 u from funext (fun k => (p45 u k (fun h => absurd h.1 (by omega))))]; show gc_N (I28 u) (Int.toNat (v5_6 + 1)) = _; rw [gc_N_st (by omega) p29, q29]; omega) (gc_rg_hi (gc_rg_push (gc_rg_fr e2_6 (fun k => p29 93 k (fun h => absurd h.1 (by omega)))) (by omega) p45 (by omega)) (by omega))
        · show gv_X _ _ (55, [(9, .inl (I4 o (Int.toNat v8_6))), (0, .inr (.inr (some 86))), (2, .inl a2), (3, .inl a3), (5, .inl v5_6), (6, .inl v6_6), (7, .inl v7_6), (8, .inl v8_6)], [.inl v5_6, .inr (.inr (some u))], sh, gc_h sh I4 J5 A)
          refine gv_run 3 true hD (pcₚ := 59) (lvₚ := [(9, .inl (I4 o (Int.toNat v8_6))), (0, .inr (.inr (some 86))), (2, .inl a2), (3, .inl a3), (5, .inl v5_6), (6, .inl v6_6), (7, .inl v7_6), (8, .inl v8_6)]) (stₚ := [.inl ((I4 o (Int.toNat v8_6)) + a3), .inl v5_6, .inr (.inr (some u))]) (hₚ := gc_h sh I4 J5 A) (C := (((True ∧ True) ∧ True) ∧ True)) rfl ⟨⟨⟨trivial, trivial⟩, trivial⟩, trivial⟩ ?_
          have t49 := gc_nwc (((I4 o (Int.toNat v8_6)) + a3))
          have t50 := gc_nwc ((I4 o (Int.toNat v8_6)))
          refine gv_run 1 true hD (pcₚ := 64) (lvₚ := [(9, .inl (I4 o (Int.toNat v8_6))), (0, .inr (.inr (some 86))), (2, .inl a2), (3, .inl a3), (5, .inl v5_6), (6, .inl v6_6), (7, .inl v7_6), (8, .inl v8_6)]) (stₚ := [.inl ((I4 o (Int.toNat v8_6)) + a3), .inl v5_6, .inr (.inr (some u))]) (hₚ := gc_h sh I4 J5 A) (C := (True ∧ True)) rfl ⟨trivial, trivial⟩ ?_
          have t51 := gc_N_nx (f := I o) (v := v8_6) (by omega)
          have t52 := x4 (Int.toNat v8_6) (by omega) (by omega)
          have t53 := gc_nwc (((I4 o (Int.toNat v8_6)) + a3))
          have t54 := gc_nwc ((I4 o (Int.toNat v8_6)))
          refine gv_iast hD rfl S_u ⟨by decide, B_u⟩ ⟨by omega, by omega⟩ ?_
          refine gc_st hI4 S_u rfl R_u (lo := (-3)) (hi := 1000000) rfl rfl (by omega) (by omega) (fun I55 hI55 q56 p56 => ?_)
          have FI55 := gc_frs (W := fun q j => q = u ∨ q = 93) FI4 (Or.inl rfl) p56
          have t57 := p56 86 1 (fun h => absurd h.1 N_86__u)
          have t58 := p56 86 2 (fun h => absurd h.1 N_86__u)
          have t59 := p56 86 4 (fun h => absurd h.1 N_86__u)
          show gv_X _ _ (65, [(9, .inl (I4 o (Int.toNat v8_6))), (0, .inr (.inr (some 86))), (2, .inl a2), (3, .inl a3), (5, .inl v5_6), (6, .inl v6_6), (7, .inl v7_6), (8, .inl v8_6)], [], sh, gc_h sh I55 J5 A)
          refine gv_run 1 true hD (pcₚ := 66) (lvₚ := [(9, .inl (I4 o (Int.toNat v8_6))), (0, .inr (.inr (some 86))), (2, .inl a2), (3, .inl a3), (5, .inl v5_6), (6, .inl v6_6), (7, .inl v7_6), (8, .inl v8_6)]) (stₚ := [.inr (.inr (some 86))]) (hₚ := gc_h sh I55 J5 A) (C := (True ∧ True)) rfl ⟨trivial, trivial⟩ ?_
          have f61 := (gc_b_74_5 hI55 R_86)
          obtain ⟨f60_, hq_f60_, S_f60, R_f60, B_f60, D_f60⟩ := gc_sw (p := 86) (d := 2) (s := 2) (z := I55 86 5) (gc_b_74_5 hI55 R_86) S_88 R_88 B_88 S_90 R_90 B_90
          refine gv_get hD rfl rfl S_86 ⟨by decide, B_86⟩ (gc_hS (n := 1002) S_86 rfl hq_f60_) ?_
          show gv_X _ _ (69, [(9, .inl (I4 o (Int.toNat v8_6))), (0, .inr (.inr (some 86))), (2, .inl a2), (3, .inl a3), (5, .inl v5_6), (6, .inl v6_6), (7, .inl v7_6), (8, .inl v8_6)], [.inr (.inr (some f60_))], sh, gc_h sh I55 J5 A)
          refine gv_run 3 true hD (pcₚ := 75) (lvₚ := [(5, .inl (v5_6 + 1)), (9, .inl (I4 o (Int.toNat v8_6))), (0, .inr (.inr (some 86))), (2, .inl a2), (3, .inl a3), (6, .inl v6_6), (7, .inl v7_6), (8, .inl v8_6)]) (stₚ := [.inr (.inr (some 86)), .inl v5_6, .inr (.inr (some f60_))]) (hₚ := gc_h sh I55 J5 A) (C := (((True ∧ True) ∧ True) ∧ True)) rfl ⟨⟨⟨trivial, trivial⟩, trivial⟩, trivial⟩ ?_
          have f63 := (gc_b_74_3 hI55 R_86)
          obtain ⟨f62_, hq_f62_, S_f62, R_f62, B_f62, D_f62⟩ := gc_sw (p := 86) (d := 2) (s := 2) (z := I55 86 3) (gc_b_74_3 hI55 R_86) S_88 R_88 B_88 S_90 R_90 B_90
          refine gv_get hD rfl rfl S_86 ⟨by decide, B_86⟩ (gc_hS (n := 1002) S_86 rfl hq_f62_) ?_
          show gv_X _ _ (78, [(5, .inl (v5_6 + 1)), (9, .inl (I4 o (Int.toNat v8_6))), (0, .inr (.inr (some 86))), (2, .inl a2), (3, .inl a3), (6, .inl v6_6), (7, .inl v7_6), (8, .inl v8_6)], [.inr (.inr (some f62_)), .inl v5_6, .inr (.inr (some f60_))], sh, gc_h sh I55 J5 A)
          refine gv_run 1 true hD (pcₚ := 80) (lvₚ := [(5, .inl (v5_6 + 1)), (9, .inl (I4 o (Int.toNat v8_6))), (0, .inr (.inr (some 86))), (2, .inl a2), (3, .inl a3), (6, .inl v6_6), (7, .inl v7_6), (8, .inl v8_6)]) (stₚ := [.inl v8_6, .inr (.inr (some f62_)), .inl v5_6, .inr (.inr (some f60_))]) (hₚ := gc_h sh I55 J5 A) (C := (True ∧ True)) rfl ⟨trivial, trivial⟩ ?_
          refine gv_lald hD rfl S_f62 rfl ⟨by decide, B_f62⟩ ⟨by omega, by omega⟩ (gc_jJ S_f62 rfl) ?_
          show gv_X _ _ (81, [(5, .inl (v5_6 + 1)), (9, .inl (I4 o (Int.toNat v8_6))), (0, .inr (.inr (some 86))), (2, .inl a2), (3, .inl a3), (6, .inl v6_6), (7, .inl v7_6), (8, .inl v8_6)], [.inr (.inl (J5 f62_ (Int.toNat v8_6))), .inl v5_6, .inr (.inr (some f60_))], sh, gc_h sh I55 J5 A)
          refine gv_last hD rfl S_f60 ⟨by decide, B_f60⟩ ⟨by omega, by omega⟩ ?_
          refine gc_stJ S_f60 rfl (fun J64 q65 p65 => ?_)
          have FJ64 := gc_frs (W := fun q j => q = 88 ∨ q = 90) FJ5 (show f60_ = 88 ∨ f60_ = 90 from by omega) p65
          show gv_X _ _ (82, [(5, .inl (v5_6 + 1)), (9, .inl (I4 o (Int.toNat v8_6))), (0, .inr (.inr (some 86))), (2, .inl a2), (3, .inl a3), (6, .inl v6_6), (7, .inl v7_6), (8, .inl v8_6)], [], sh, gc_h sh I55 J64 A)
          refine gv_run 2 true hD (pcₚ := 85) (lvₚ := [(5, .inl (v5_6 + 1)), (9, .inl (I4 o (Int.toNat v8_6))), (0, .inr (.inr (some 86))), (2, .inl a2), (3, .inl a3), (6, .inl v6_6), (7, .inl v7_6), (8, .inl v8_6)]) (stₚ := [.inl (-1), .inl (I4 o (Int.toNat v8_6))]) (hₚ := gc_h sh I55 J64 A) (C := ((True ∧ True) ∧ True)) rfl ⟨⟨trivial, trivial⟩, trivial⟩ ?_
          refine gv_icmp_ne (t := 103) hD rfl rfl ⟨⟨by omega, by omega⟩, ⟨by omega, by omega⟩⟩ (fun c66 => ?_) (fun c66 => ?_)
          · show gv_X _ _ (103, [(5, .inl (v5_6 + 1)), (9, .inl (I4 o (Int.toNat v8_6))), (0, .inr (.inr (some 86))), (2, .inl a2), (3, .inl a3), (6, .inl v6_6), (7, .inl v7_6), (8, .inl v8_6)], [], sh, gc_h sh I55 J64 A)
            refine gv_run 2 true hD (pcₚ := 107) (lvₚ := [(5, .inl (v5_6 + 1)), (9, .inl (I4 o (Int.toNat v8_6))), (0, .inr (.inr (some 86))), (2, .inl a2), (3, .inl a3), (6, .inl v6_6), (7, .inl v7_6), (8, .inl v8_6)]) (stₚ := [.inl (-2), .inl (I4 o (Int.toNat v8_6))]) (hₚ := gc_h sh I55 J64 A) (C := ((True ∧ True) ∧ True)) rfl ⟨⟨trivial, trivial⟩, trivial⟩ ?_
            refine gv_icmp_ne (t := 116) hD rfl rfl ⟨⟨by omega, by omega⟩, ⟨by omega, by omega⟩⟩ (fun c67 => ?_) (fun c67 => ?_)
            · show gv_X _ _ (116, [(5, .inl (v5_6 + 1)), (9, .inl (I4 o (Int.toNat v8_6))), (0, .inr (.inr (some 86))), (2, .inl a2), (3, .inl a3), (6, .inl v6_6), (7, .inl v7_6), (8, .inl v8_6)], [], sh, gc_h sh I55 J64 A)
              refine gv_run 1 true hD (pcₚ := 118) (lvₚ := [(5, .inl (v5_6 + 1)), (9, .inl (I4 o (Int.toNat v8_6))), (0, .inr (.inr (some 86))), (2, .inl a2), (3, .inl a3), (6, .inl v6_6), (7, .inl v7_6), (8, .inl v8_6)]) (stₚ := [.inl v7_6]) (hₚ := gc_h sh I55 J64 A) (C := (True ∧ True)) rfl ⟨trivial, trivial⟩ ?_
              refine gv_if_le (t := 133) hD rfl rfl ⟨by omega, by omega⟩ (fun c68 => ?_) (fun c68 => ?_)
              · show gv_X _ _ (133, [(5, .inl (v5_6 + 1)), (9, .inl (I4 o (Int.toNat v8_6))), (0, .inr (.inr (some 86))), (2, .inl a2), (3, .inl a3), (6, .inl v6_6), (7, .inl v7_6), (8, .inl v8_6)], [], sh, gc_h sh I55 J64 A)
                refine gv_pick [2, 3, 4, 0, 5, 6, 7] rfl ?_
                exact L133 I55 J64 (v5_6 + 1) v6_6 v7_6 hI55 FI55 FJ64 (by omega) (by exact gc_tg_st e0_6 (by omega) p56 (by omega) (by omega)) (by show gc_N (I55 u) (Int.toNat (v5_6 + 1)) = _; rw [gc_N_st (by omega) p56, q56]; omega) (gc_rg_hi (gc_rg_fr e2_6 (fun k => p56 93 k (fun h => absurd h.1 (by omega)))) (by omega))
              · show gv_X _ _ (121, [(5, .inl (v5_6 + 1)), (9, .inl (I4 o (Int.toNat v8_6))), (0, .inr (.inr (some 86))), (2, .inl a2), (3, .inl a3), (6, .inl v6_6), (7, .inl v7_6), (8, .inl v8_6)], [], sh, gc_h sh I55 J64 A)
                refine gv_run 1 true hD (pcₚ := 122) (lvₚ := [(5, .inl (v5_6 + 1)), (9, .inl (I4 o (Int.toNat v8_6))), (0, .inr (.inr (some 86))), (2, .inl a2), (3, .inl a3), (6, .inl v6_6), (7, .inl v7_6), (8, .inl v8_6)]) (stₚ := [.inr (.inr (some 86))]) (hₚ := gc_h sh I55 J64 A) (C := (True ∧ True)) rfl ⟨trivial, trivial⟩ ?_
                refine gv_get hD rfl rfl S_86 ⟨by decide, B_86⟩ (gc_hA S_86 rfl A_86_8) ?_
                show gv_X _ _ (125, [(5, .inl (v5_6 + 1)), (9, .inl (I4 o (Int.toNat v8_6))), (0, .inr (.inr (some 86))), (2, .inl a2), (3, .inl a3), (6, .inl v6_6), (7, .inl v7_6), (8, .inl v8_6)], [.inr (.inr (some 93))], sh, gc_h sh I55 J64 A)
                refine gv_run 2 true hD (pcₚ := 130) (lvₚ := [(7, .inl (v7_6 + (-1))), (5, .inl (v5_6 + 1)), (9, .inl (I4 o (Int.toNat v8_6))), (0, .inr (.inr (some 86))), (2, .inl a2), (3, .inl a3), (6, .inl v6_6), (8, .inl v8_6)]) (stₚ := [.inl (v7_6 + (-1)), .inr (.inr (some 93))]) (hₚ := gc_h sh I55 J64 A) (C := ((True ∧ True) ∧ True)) rfl ⟨⟨trivial, trivial⟩, trivial⟩ ?_
                have t69 := (gc_rg_fr e2_6 (fun k => p56 93 k (fun h => absurd h.1 (by omega)))) ((v7_6 + (-1))) (by omega) (by omega)
                have f70 := (gc_b_60 hI55 R_93 (Int.toNat ((v7_6 + (-1)))))
                refine gv_iald hD rfl S_93 rfl ⟨by decide, B_93⟩ ⟨by omega, by omega⟩ (gc_iI S_93 rfl) ?_
                show gv_X _ _ (131, [(7, .inl (v7_6 + (-1))), (5, .inl (v5_6 + 1)), (9, .inl (I4 o (Int.toNat v8_6))), (0, .inr (.inr (some 86))), (2, .inl a2), (3, .inl a3), (6, .inl v6_6), (8, .inl v8_6)], [.inl (I55 93 (Int.toNat ((v7_6 + (-1)))))], sh, gc_h sh I55 J64 A)
                refine gv_run 1 true hD (pcₚ := 133) (lvₚ := [(6, .inl (I55 93 (Int.toNat ((v7_6 + (-1)))))), (7, .inl (v7_6 + (-1))), (5, .inl (v5_6 + 1)), (9, .inl (I4 o (Int.toNat v8_6))), (0, .inr (.inr (some 86))), (2, .inl a2), (3, .inl a3), (8, .inl v8_6)]) (stₚ := []) (hₚ := gc_h sh I55 J64 A) (C := (True ∧ True)) rfl ⟨trivial, trivial⟩ ?_
                refine gv_pick [4, 5, 6, 2, 0, 1, 7] rfl ?_
                exact L133 I55 J64 (v5_6 + 1) ((I55 93 (Int.toNat ((v7_6 + (-1)))))) ((v7_6 + (-1))) hI55 FI55 FJ64 (by omega) (by exact gc_tg_st e0_6 (by omega) p56 (by omega) (by omega)) (by show gc_N (I55 u) (Int.toNat (v5_6 + 1)) = _; rw [gc_N_st (by omega) p56, q56]; omega) (gc_rg_hi (gc_rg_m (gc_rg_fr e2_6 (fun k => p56 93 k (fun h => absurd h.1 (by omega)))) (by omega)) (by omega))
            · exfalso; omega
          · exfalso; omega
  refine gv_run 6 true hD (pcₚ := 9) (lvₚ := [(0, .inr (.inr (some 86))), (1, .inl a1), (2, .inl a2), (3, .inl a3), (4, .inl a4)]) (stₚ := [.inl 300, .inl ((a4 + a2) - a1)]) (hₚ := gc_h sh I J A) (C := ((((((True ∧ True) ∧ True) ∧ True) ∧ True) ∧ True) ∧ True)) rfl ⟨⟨⟨⟨⟨⟨trivial, trivial⟩, trivial⟩, trivial⟩, trivial⟩, trivial⟩, trivial⟩ ?_
  refine gv_icmp_le (t := 14) hD rfl rfl ⟨⟨by omega, by omega⟩, ⟨by omega, by omega⟩⟩ (fun c71 => ?_) (fun c71 => ?_)
  · show gv_X _ _ (14, [(0, .inr (.inr (some 86))), (1, .inl a1), (2, .inl a2), (3, .inl a3), (4, .inl a4)], [], sh, gc_h sh I J A)
    refine gv_run 7 true hD (pcₚ := 25) (lvₚ := [(7, .inl 0), (6, .inl 0), (5, .inl a4), (0, .inr (.inr (some 86))), (1, .inl a1), (2, .inl a2), (3, .inl a3), (4, .inl a4)]) (stₚ := [.inl a1]) (hₚ := gc_h sh I J A) (C := (((((((True ∧ True) ∧ True) ∧ True) ∧ True) ∧ True) ∧ True) ∧ True)) rfl ⟨⟨⟨⟨⟨⟨⟨trivial, trivial⟩, trivial⟩, trivial⟩, trivial⟩, trivial⟩, trivial⟩, trivial⟩ ?_
    refine gv_run 1 true hD (pcₚ := 27) (lvₚ := [(8, .inl a1), (7, .inl 0), (6, .inl 0), (5, .inl a4), (0, .inr (.inr (some 86))), (1, .inl a1), (2, .inl a2), (3, .inl a3), (4, .inl a4)]) (stₚ := []) (hₚ := gc_h sh I J A) (C := (True ∧ True)) rfl ⟨trivial, trivial⟩ ?_
    refine gv_pick [4, 6, 7, 3, 2, 1, 0] rfl ?_
    exact L27 _ I J a4 0 0 a1 (Nat.lt_succ_self _) hI FI FJ (by omega) x5 (by omega) (fun k a b => by omega)
  · show gv_X _ _ (12, [(0, .inr (.inr (some 86))), (1, .inl a1), (2, .inl a2), (3, .inl a3), (4, .inl a4)], [], sh, gc_h sh I J A)
    refine gv_run 1 true hD (pcₚ := 13) (lvₚ := [(0, .inr (.inr (some 86))), (1, .inl a1), (2, .inl a2), (3, .inl a3), (4, .inl a4)]) (stₚ := [.inl (-1)]) (hₚ := gc_h sh I J A) (C := (True ∧ True)) rfl ⟨trivial, trivial⟩ ?_
    exact gv_iret hD rfl ⟨I, J, rfl, hI, FI, FJ, ⟨_, rfl, by omega, by omega, by omega, (Or.inl rfl), (Or.inl rfl)⟩⟩
set_option maxHeartbeats 8000000 in
set_option maxRecDepth 100000 in
theorem d_X10_takeRest {ws0 : List Cond} {tb : String → gz_T} (hws : gc_Ws ws0) (htb : gc_tbs tb) (sh : gz_Sh) (ro : Nat → Nat) (I : gr_I) (J : gr_J) (A : gc_A) (hI : gc_Inv ro I) (o : Nat) (u : Nat) (B : Int) (a1 : Int) (a2 : Int) (hb : gc_Base sh ro A) (ha1 : 0 ≤ a1 ∧ a1 ≤ 300) (ha2 : 0 ≤ a2 ∧ a2 ≤ 300) (x0 : 86 + 1 + 2 * Int.toNat (I 86 2) = o) (x1 : 86 + 1 + 2 * Int.toNat (I 86 4) = u) (x2 : o = 87 ∨ o = 89) (x3 : o + u = 176) (x4 : a1 ≤ I 86 1) (x5 : gc_TC (I o) (I 86 1)) (x6 : gc_ub (I o) (I 86 1) B) (x7 : gc_tg (I u) a2 B) (x8 : gc_N (I u) (Int.toNat a2) = gc_N (I o) (Int.toNat a1)) : ∃ r hₚ, gz_Ev ws0 tb 2 (yX10_takeRest, cX10_takeRest, 6, (some .boolean)) [.inr (.inr (some 86)), .inl a1, .inl a2] sh (gc_h sh I J A) r sh hₚ 0 0 ∧ (∃ (Iₚ : gr_I) (Jₚ : gr_J), hₚ = gc_h sh Iₚ Jₚ A ∧ gc_Inv ro Iₚ ∧ (∀ q j : Nat, (q = u ∨ (q = 86 ∧ j = 1) ∨ (q = 86 ∧ j = 2) ∨ (q = 86 ∧ j = 3) ∨ (q = 86 ∧ j = 4) ∨ (q = 86 ∧ j = 5)) ∨ Iₚ q j = I q j) ∧ (∀ q j : Nat, (q = 88 ∨ q = 90) ∨ Jₚ q j = J q j) ∧ (∃ z : Int, r = some (.inl z) ∧ 0 ≤ z ∧ z ≤ 1 ∧ ((z = 0 ∧ Iₚ 86 2 = I 86 2 ∧ Iₚ 86 4 = I 86 4) ∨ (Iₚ 86 2 = I 86 4 ∧ Iₚ 86 4 = I 86 2)) ∧ (z = 0 ∨ gc_TC (Iₚ u) (Iₚ 86 1)) ∧ (z = 0 ∨ gc_ub (Iₚ u) (Iₚ 86 1) B))) := by
  have FI : ∀ q j : Nat, (q = u ∨ (q = 86 ∧ j = 1) ∨ (q = 86 ∧ j = 2) ∨ (q = 86 ∧ j = 3) ∨ (q = 86 ∧ j = 4) ∨ (q = 86 ∧ j = 5)) ∨ I q j = I q j := fun _ _ => Or.inr rfl
  have FJ : ∀ q j : Nat, (q = 88 ∨ q = 90) ∨ J q j = J q j := fun _ _ => Or.inr rfl
  have B_86 : 86 < 1000000 := by decide
  have B_88 : 88 < 1000000 := by decide
  have B_90 : 90 < 1000000 := by decide
  have R_86 : ro 86 = 74 := gc_bR_86 hb
  have R_88 : ro 88 = 0 := gc_bR_88 hb
  have R_90 : ro 90 = 0 := gc_bR_90 hb
  have S_86 : sh[86]? = some (false, 10, 19) := gc_bS_86 hb
  have S_88 : sh[88]? = some (true, 2, 300) := gc_bS_88 hb
  have S_90 : sh[90]? = some (true, 2, 300) := gc_bS_90 hb
  have S_o : sh[o]? = some (true, 1, 300) := by
    rcases (show o = 87 ∨ o = 89 from by omega) with h9 | h9 <;> rw [h9] <;> exact gc_bS hb rfl
  have R_o : ro o = 77 := by
    rcases (show o = 87 ∨ o = 89 from by omega) with h9 | h9 <;> rw [h9] <;> exact gc_bR hb (by decide) rfl
  have B_o : o < 1000000 := by omega
  have S_u : sh[u]? = some (true, 1, 300) := by
    rcases (show u = 87 ∨ u = 89 from by omega) with h9 | h9 <;> rw [h9] <;> exact gc_bS hb rfl
  have R_u : ro u = 77 := by
    rcases (show u = 87 ∨ u = 89 from by omega) with h9 | h9 <;> rw [h9] <;> exact gc_bR hb (by decide) rfl
  have B_u : u < 1000000 := by omega
  have hD : gv_D (gc_E10 ws0 tb 1 (yX10_takeRest, cX10_takeRest, 6, (some .boolean)) kX10_takeRest) := gq_of oX10_takeRest
  refine gc_ev10 (d := 1) (l := kX10_takeRest) (Po := fun r hₚ => (∃ (Iₚ : gr_I) (Jₚ : gr_J), hₚ = gc_h sh Iₚ Jₚ A ∧ gc_Inv ro Iₚ ∧ (∀ q j : Nat, (q = u ∨ (q = 86 ∧ j = 1) ∨ (q = 86 ∧ j = 2) ∨ (q = 86 ∧ j = 3) ∨ (q = 86 ∧ j = 4) ∨ (q = 86 ∧ j = 5)) ∨ Iₚ q j = I q j) ∧ (∀ q j : Nat, (q = 88 ∨ q = 90) ∨ Jₚ q j = J q j) ∧ (∃ z : Int, r = some (.inl z) ∧ 0 ≤ z ∧ z ≤ 1 ∧ ((z = 0 ∧ Iₚ 86 2 = I 86 2 ∧ Iₚ 86 4 = I 86 4) ∨ (Iₚ 86 2 = I 86 4 ∧ Iₚ 86 4 = I 86 2)) ∧ (z = 0 ∨ gc_TC (Iₚ u) (Iₚ 86 1)) ∧ (z = 0 ∨ gc_ub (Iₚ u) (Iₚ 86 1) B)))) htb rfl (Nat.le_of_ble_eq_true rfl) ?_
  have N_86__u : ¬ (86 = u) := by omega
  have f1 := (gc_b_74_1 hI R_86)
  have f2 := (gc_b_74_2 hI R_86)
  have f3 := (gc_b_74_4 hI R_86)
  have f4 := (gc_b_74_3 hI R_86)
  have f5 := (gc_b_74_5 hI R_86)
  refine gv_run 1 true hD (pcₚ := 1) (lvₚ := [(0, .inr (.inr (some 86))), (1, .inl a1), (2, .inl a2)]) (stₚ := [.inr (.inr (some 86))]) (hₚ := gc_h sh I J A) (C := (True ∧ True)) rfl ⟨trivial, trivial⟩ ?_
  have f6 := (gc_b_74_1 hI R_86)
  refine gv_get hD rfl rfl S_86 ⟨by decide, B_86⟩ (gc_hI S_86 rfl) ?_
  show gv_X _ _ (4, [(0, .inr (.inr (some 86))), (1, .inl a1), (2, .inl a2)], [.inl (I 86 1)], sh, gc_h sh I J A)
  refine gv_run 7 true hD (pcₚ := 13) (lvₚ := [(3, .inl ((I 86 1) - a1)), (0, .inr (.inr (some 86))), (1, .inl a1), (2, .inl a2)]) (stₚ := [.inl 300, .inl (a2 + ((I 86 1) - a1))]) (hₚ := gc_h sh I J A) (C := (((((((True ∧ True) ∧ True) ∧ True) ∧ True) ∧ True) ∧ True) ∧ True)) rfl ⟨⟨⟨⟨⟨⟨⟨trivial, trivial⟩, trivial⟩, trivial⟩, trivial⟩, trivial⟩, trivial⟩, trivial⟩ ?_
  refine gv_icmp_le (t := 18) hD rfl rfl ⟨⟨by omega, by omega⟩, ⟨by omega, by omega⟩⟩ (fun c7 => ?_) (fun c7 => ?_)
  · show gv_X _ _ (18, [(3, .inl ((I 86 1) - a1)), (0, .inr (.inr (some 86))), (1, .inl a1), (2, .inl a2)], [], sh, gc_h sh I J A)
    refine gv_run 1 true hD (pcₚ := 19) (lvₚ := [(3, .inl ((I 86 1) - a1)), (0, .inr (.inr (some 86))), (1, .inl a1), (2, .inl a2)]) (stₚ := [.inr (.inr (some 86))]) (hₚ := gc_h sh I J A) (C := (True ∧ True)) rfl ⟨trivial, trivial⟩ ?_
    refine gv_get hD rfl rfl S_86 ⟨by decide, B_86⟩ (gc_hS (n := 1001) (q := o) S_86 rfl (by omega)) ?_
    show gv_X _ _ (22, [(3, .inl ((I 86 1) - a1)), (0, .inr (.inr (some 86))), (1, .inl a1), (2, .inl a2)], [.inr (.inr (some o))], sh, gc_h sh I J A)
    refine gv_run 2 true hD (pcₚ := 24) (lvₚ := [(3, .inl ((I 86 1) - a1)), (0, .inr (.inr (some 86))), (1, .inl a1), (2, .inl a2)]) (stₚ := [.inr (.inr (some 86)), .inl a1, .inr (.inr (some o))]) (hₚ := gc_h sh I J A) (C := ((True ∧ True) ∧ True)) rfl ⟨⟨trivial, trivial⟩, trivial⟩ ?_
    refine gv_get hD rfl rfl S_86 ⟨by decide, B_86⟩ (gc_hS (n := 1001) (q := u) S_86 rfl (by omega)) ?_
    show gv_X _ _ (27, [(3, .inl ((I 86 1) - a1)), (0, .inr (.inr (some 86))), (1, .inl a1), (2, .inl a2)], [.inr (.inr (some u)), .inl a1, .inr (.inr (some o))], sh, gc_h sh I J A)
    refine gv_run 2 true hD (pcₚ := 29) (lvₚ := [(3, .inl ((I 86 1) - a1)), (0, .inr (.inr (some 86))), (1, .inl a1), (2, .inl a2)]) (stₚ := [.inl ((I 86 1) - a1), .inl a2, .inr (.inr (some u)), .inl a1, .inr (.inr (some o))]) (hₚ := gc_h sh I J A) (C := ((True ∧ True) ∧ True)) rfl ⟨⟨trivial, trivial⟩, trivial⟩ ?_
    refine gv_copy hD rfl (gc_lC10_92 hws) (Nat.le_of_ble_eq_true rfl) ⟨B_o, B_u⟩ S_o S_u (by decide) ⟨by decide, by decide⟩ ⟨by omega, by omega, by omega⟩ (by omega) (by omega) (fun h => absurd h (by decide)) ?_
    refine gc_cp hI S_o S_u (by decide) (fun j hj => by have h9 := (show (-3) ≤ I o (Int.toNat a1 + j) ∧ I o (Int.toNat a1 + j) ≤ 1000000 from gc_in2 hI R_o rfl rfl rfl); rw [R_u]; exact ⟨by show (-3) ≤ _; omega, by show _ ≤ 1000000; omega⟩) (fun I9 hI9 p8 q8 => ?_)
    have FI9 := gc_frp (W := fun q j => q = u ∨ (q = 86 ∧ j = 1) ∨ (q = 86 ∧ j = 2) ∨ (q = 86 ∧ j = 3) ∨ (q = 86 ∧ j = 4) ∨ (q = 86 ∧ j = 5)) (V := fun q j => q = u ∧ Int.toNat a2 ≤ j ∧ j < Int.toNat a2 + Int.toNat (((I 86 1) - a1))) FI (fun q j h => (Or.inl h.1)) p8
    have t11 := p8 86 1 (fun h => absurd h.1 N_86__u)
    have t12 := p8 86 2 (fun h => absurd h.1 N_86__u)
    have t13 := p8 86 4 (fun h => absurd h.1 N_86__u)
    have t14 := p8 86 3 (fun h => absurd h.1 N_86__u)
    have t15 := p8 86 5 (fun h => absurd h.1 N_86__u)
    have f16 := (gc_b_74_1 hI9 R_86)
    have f17 := (gc_b_74_2 hI9 R_86)
    have f18 := (gc_b_74_4 hI9 R_86)
    have f19 := (gc_b_74_3 hI9 R_86)
    have f20 := (gc_b_74_5 hI9 R_86)
    show gv_X _ _ (32, [(3, .inl ((I 86 1) - a1)), (0, .inr (.inr (some 86))), (1, .inl a1), (2, .inl a2)], [], sh, gc_h sh I9 J A)
    refine gv_run 1 true hD (pcₚ := 33) (lvₚ := [(3, .inl ((I 86 1) - a1)), (0, .inr (.inr (some 86))), (1, .inl a1), (2, .inl a2)]) (stₚ := [.inr (.inr (some 86))]) (hₚ := gc_h sh I9 J A) (C := (True ∧ True)) rfl ⟨trivial, trivial⟩ ?_
    have f22 := (gc_b_74_3 hI9 R_86)
    obtain ⟨f21_, hq_f21_, S_f21, R_f21, B_f21, D_f21⟩ := gc_sw (p := 86) (d := 2) (s := 2) (z := I9 86 3) (gc_b_74_3 hI9 R_86) S_88 R_88 B_88 S_90 R_90 B_90
    refine gv_get hD rfl rfl S_86 ⟨by decide, B_86⟩ (gc_hS (n := 1002) S_86 rfl hq_f21_) ?_
    show gv_X _ _ (36, [(3, .inl ((I 86 1) - a1)), (0, .inr (.inr (some 86))), (1, .inl a1), (2, .inl a2)], [.inr (.inr (some f21_))], sh, gc_h sh I9 J A)
    refine gv_run 2 true hD (pcₚ := 38) (lvₚ := [(3, .inl ((I 86 1) - a1)), (0, .inr (.inr (some 86))), (1, .inl a1), (2, .inl a2)]) (stₚ := [.inr (.inr (some 86)), .inl a1, .inr (.inr (some f21_))]) (hₚ := gc_h sh I9 J A) (C := ((True ∧ True) ∧ True)) rfl ⟨⟨trivial, trivial⟩, trivial⟩ ?_
    have f24 := (gc_b_74_5 hI9 R_86)
    obtain ⟨f23_, hq_f23_, S_f23, R_f23, B_f23, D_f23⟩ := gc_sw (p := 86) (d := 2) (s := 2) (z := I9 86 5) (gc_b_74_5 hI9 R_86) S_88 R_88 B_88 S_90 R_90 B_90
    refine gv_get hD rfl rfl S_86 ⟨by decide, B_86⟩ (gc_hS (n := 1002) S_86 rfl hq_f23_) ?_
    show gv_X _ _ (41, [(3, .inl ((I 86 1) - a1)), (0, .inr (.inr (some 86))), (1, .inl a1), (2, .inl a2)], [.inr (.inr (some f23_)), .inl a1, .inr (.inr (some f21_))], sh, gc_h sh I9 J A)
    refine gv_run 2 true hD (pcₚ := 43) (lvₚ := [(3, .inl ((I 86 1) - a1)), (0, .inr (.inr (some 86))), (1, .inl a1), (2, .inl a2)]) (stₚ := [.inl ((I 86 1) - a1), .inl a2, .inr (.inr (some f23_)), .inl a1, .inr (.inr (some f21_))]) (hₚ := gc_h sh I9 J A) (C := ((True ∧ True) ∧ True)) rfl ⟨⟨trivial, trivial⟩, trivial⟩ ?_
    refine gv_copy hD rfl (gc_lC10_92 hws) (Nat.le_of_ble_eq_true rfl) ⟨B_f21, B_f23⟩ S_f21 S_f23 (by decide) ⟨by decide, by decide⟩ ⟨by omega, by omega, by omega⟩ (by omega) (by omega) (fun h => absurd h (by decide)) ?_
    refine gc_cpJ S_f21 S_f23 (fun J27 p25 q25 => ?_)
    have FJ27 := gc_frp (W := fun q j => q = 88 ∨ q = 90) (V := fun q j => q = f23_ ∧ Int.toNat a2 ≤ j ∧ j < Int.toNat a2 + Int.toNat (((I 86 1) - a1))) FJ (fun q j h => (show q = 88 ∨ q = 90 from by have := h.1; omega)) p25
    show gv_X _ _ (46, [(3, .inl ((I 86 1) - a1)), (0, .inr (.inr (some 86))), (1, .inl a1), (2, .inl a2)], [], sh, gc_h sh I9 J27 A)
    refine gv_run 4 true hD (pcₚ := 50) (lvₚ := [(3, .inl ((I 86 1) - a1)), (0, .inr (.inr (some 86))), (1, .inl a1), (2, .inl a2)]) (stₚ := [.inl (a2 + ((I 86 1) - a1)), .inr (.inr (some 86))]) (hₚ := gc_h sh I9 J27 A) (C := ((((True ∧ True) ∧ True) ∧ True) ∧ True)) rfl ⟨⟨⟨⟨trivial, trivial⟩, trivial⟩, trivial⟩, trivial⟩ ?_
    refine gv_put hD rfl rfl S_86 ⟨by decide, B_86⟩ rfl trivial ?_
    refine gc_st (k := 1) hI9 S_86 rfl R_86 (lo := 0) (hi := 300) rfl rfl (by omega) (by omega) (fun I28 hI28 q29 p29 => ?_)
    have FI28 := gc_frs (W := fun q j => q = u ∨ (q = 86 ∧ j = 1) ∨ (q = 86 ∧ j = 2) ∨ (q = 86 ∧ j = 3) ∨ (q = 86 ∧ j = 4) ∨ (q = 86 ∧ j = 5)) FI9 (Or.inr (Or.inl ⟨rfl, rfl⟩)) p29
    have t30 := p29 86 2 (fun h => absurd h.2 (by decide))
    have t31 := p29 86 4 (fun h => absurd h.2 (by decide))
    have t32 := p29 86 3 (fun h => absurd h.2 (by decide))
    have t33 := p29 86 5 (fun h => absurd h.2 (by decide))
    have f34 := (gc_b_74_1 hI28 R_86)
    show gv_X _ _ (53, [(3, .inl ((I 86 1) - a1)), (0, .inr (.inr (some 86))), (1, .inl a1), (2, .inl a2)], [], sh, gc_h sh I28 J27 A)
    refine gv_run 1 true hD (pcₚ := 54) (lvₚ := [(3, .inl ((I 86 1) - a1)), (0, .inr (.inr (some 86))), (1, .inl a1), (2, .inl a2)]) (stₚ := [.inr (.inr (some 86))]) (hₚ := gc_h sh I28 J27 A) (C := (True ∧ True)) rfl ⟨trivial, trivial⟩ ?_
    refine gv_get hD rfl rfl S_86 ⟨by decide, B_86⟩ (gc_hS (n := 1001) (q := o) S_86 rfl (by omega)) ?_
    show gv_X _ _ (57, [(3, .inl ((I 86 1) - a1)), (0, .inr (.inr (some 86))), (1, .inl a1), (2, .inl a2)], [.inr (.inr (some o))], sh, gc_h sh I28 J27 A)
    refine gv_run 3 true hD (pcₚ := 61) (lvₚ := [(4, .inr (.inr (some o))), (3, .inl ((I 86 1) - a1)), (0, .inr (.inr (some 86))), (1, .inl a1), (2, .inl a2)]) (stₚ := [.inr (.inr (some 86)), .inr (.inr (some 86))]) (hₚ := gc_h sh I28 J27 A) (C := (((True ∧ True) ∧ True) ∧ True)) rfl ⟨⟨⟨trivial, trivial⟩, trivial⟩, trivial⟩ ?_
    refine gv_get hD rfl rfl S_86 ⟨by decide, B_86⟩ (gc_hS (n := 1001) (q := u) S_86 rfl (by omega)) ?_
    show gv_X _ _ (64, [(4, .inr (.inr (some o))), (3, .inl ((I 86 1) - a1)), (0, .inr (.inr (some 86))), (1, .inl a1), (2, .inl a2)], [.inr (.inr (some u)), .inr (.inr (some 86))], sh, gc_h sh I28 J27 A)
    refine gv_put hD rfl rfl S_86 ⟨by decide, B_86⟩ rfl trivial ?_
    refine gc_stS (n := 1001) (b0 := (u - (86 + 1)) / 2) hI28 S_86 rfl (by omega) R_86 (lo := 0) (hi := 1) rfl rfl (by omega) (by omega) (fun I35 hI35 q36 p36 => ?_)
    have FI35 := gc_frs (W := fun q j => q = u ∨ (q = 86 ∧ j = 1) ∨ (q = 86 ∧ j = 2) ∨ (q = 86 ∧ j = 3) ∨ (q = 86 ∧ j = 4) ∨ (q = 86 ∧ j = 5)) FI28 (Or.inr (Or.inr (Or.inl ⟨rfl, rfl⟩))) p36
    have t37 := p36 86 1 (fun h => absurd h.2 (by decide))
    have t38 := p36 86 4 (fun h => absurd h.2 (by decide))
    have t39 := p36 86 3 (fun h => absurd h.2 (by decide))
    have t40 := p36 86 5 (fun h => absurd h.2 (by decide))
    have f41 := (gc_b_74_2 hI35 R_86)
    show gv_X _ _ (67, [(4, .inr (.inr (some o))), (3, .inl ((I 86 1) - a1)), (0, .inr (.inr (some 86))), (1, .inl a1), (2, .inl a2)], [], sh, gc_h sh I35 J27 A)
    refine gv_run 2 true hD (pcₚ := 70) (lvₚ := [(4, .inr (.inr (some o))), (3, .inl ((I 86 1) - a1)), (0, .inr (.inr (some 86))), (1, .inl a1), (2, .inl a2)]) (stₚ := [.inr (.inr (some o)), .inr (.inr (some 86))]) (hₚ := gc_h sh I35 J27 A) (C := ((True ∧ True) ∧ True)) rfl ⟨⟨trivial, trivial⟩, trivial⟩ ?_
    refine gv_put hD rfl rfl S_86 ⟨by decide, B_86⟩ rfl trivial ?_
    refine gc_stS (n := 1001) (b0 := (o - (86 + 1)) / 2) hI35 S_86 rfl (by omega) R_86 (lo := 0) (hi := 1) rfl rfl (by omega) (by omega) (fun I42 hI42 q43 p43 => ?_)
    have FI42 := gc_frs (W := fun q j => q = u ∨ (q = 86 ∧ j = 1) ∨ (q = 86 ∧ j = 2) ∨ (q = 86 ∧ j = 3) ∨ (q = 86 ∧ j = 4) ∨ (q = 86 ∧ j = 5)) FI35 (Or.inr (Or.inr (Or.inr (Or.inr (Or.inl ⟨rfl, rfl⟩))))) p43
    have t44 := p43 86 1 (fun h => absurd h.2 (by decide))
    have t45 := p43 86 2 (fun h => absurd h.2 (by decide))
    have t46 := p43 86 3 (fun h => absurd h.2 (by decide))
    have t47 := p43 86 5 (fun h => absurd h.2 (by decide))
    have f48 := (gc_b_74_4 hI42 R_86)
    show gv_X _ _ (73, [(4, .inr (.inr (some o))), (3, .inl ((I 86 1) - a1)), (0, .inr (.inr (some 86))), (1, .inl a1), (2, .inl a2)], [], sh, gc_h sh I42 J27 A)
    refine gv_run 1 true hD (pcₚ := 74) (lvₚ := [(4, .inr (.inr (some o))), (3, .inl ((I 86 1) - a1)), (0, .inr (.inr (some 86))), (1, .inl a1), (2, .inl a2)]) (stₚ := [.inr (.inr (some 86))]) (hₚ := gc_h sh I42 J27 A) (C := (True ∧ True)) rfl ⟨trivial, trivial⟩ ?_
    have f50 := (gc_b_74_3 hI42 R_86)
    obtain ⟨f49_, hq_f49_, S_f49, R_f49, B_f49, D_f49⟩ := gc_sw (p := 86) (d := 2) (s := 2) (z := I42 86 3) (gc_b_74_3 hI42 R_86) S_88 R_88 B_88 S_90 R_90 B_90
    refine gv_get hD rfl rfl S_86 ⟨by decide, B_86⟩ (gc_hS (n := 1002) S_86 rfl hq_f49_) ?_
    show gv_X _ _ (77, [(4, .inr (.inr (some o))), (3, .inl ((I 86 1) - a1)), (0, .inr (.inr (some 86))), (1, .inl a1), (2, .inl a2)], [.inr (.inr (some f49_))], sh, gc_h sh I42 J27 A)
    refine gv_run 3 true hD (pcₚ := 81) (lvₚ := [(5, .inr (.inr (some f49_))), (4, .inr (.inr (some o))), (3, .inl ((I 86 1) - a1)), (0, .inr (.inr (some 86))), (1, .inl a1), (2, .inl a2)]) (stₚ := [.inr (.inr (some 86)), .inr (.inr (some 86))]) (hₚ := gc_h sh I42 J27 A) (C := (((True ∧ True) ∧ True) ∧ True)) rfl ⟨⟨⟨trivial, trivial⟩, trivial⟩, trivial⟩ ?_
    have f52 := (gc_b_74_5 hI42 R_86)
    obtain ⟨f51_, hq_f51_, S_f51, R_f51, B_f51, D_f51⟩ := gc_sw (p := 86) (d := 2) (s := 2) (z := I42 86 5) (gc_b_74_5 hI42 R_86) S_88 R_88 B_88 S_90 R_90 B_90
    refine gv_get hD rfl rfl S_86 ⟨by decide, B_86⟩ (gc_hS (n := 1002) S_86 rfl hq_f51_) ?_
    show gv_X _ _ (84, [(5, .inr (.inr (some f49_))), (4, .inr (.inr (some o))), (3, .inl ((I 86 1) - a1)), (0, .inr (.inr (some 86))), (1, .inl a1), (2, .inl a2)], [.inr (.inr (some f51_)), .inr (.inr (some 86))], sh, gc_h sh I42 J27 A)
    refine gv_put hD rfl rfl S_86 ⟨by decide, B_86⟩ rfl trivial ?_
    refine gc_stS (n := 1002) (b0 := (f51_ - (86 + 2)) / 2) hI42 S_86 rfl (by omega) R_86 (lo := 0) (hi := 1) rfl rfl (by omega) (by omega) (fun I53 hI53 q54 p54 => ?_)
    have FI53 := gc_frs (W := fun q j => q = u ∨ (q = 86 ∧ j = 1) ∨ (q = 86 ∧ j = 2) ∨ (q = 86 ∧ j = 3) ∨ (q = 86 ∧ j = 4) ∨ (q = 86 ∧ j = 5)) FI42 (Or.inr (Or.inr (Or.inr (Or.inl ⟨rfl, rfl⟩)))) p54
    have t55 := p54 86 1 (fun h => absurd h.2 (by decide))
    have t56 := p54 86 2 (fun h => absurd h.2 (by decide))
    have t57 := p54 86 4 (fun h => absurd h.2 (by decide))
    have t58 := p54 86 5 (fun h => absurd h.2 (by decide))
    have f59 := (gc_b_74_3 hI53 R_86)
    show gv_X _ _ (87, [(5, .inr (.inr (some f49_))), (4, .inr (.inr (some o))), (3, .inl ((I 86 1) - a1)), (0, .inr (.inr (some 86))), (1, .inl a1), (2, .inl a2)], [], sh, gc_h sh I53 J27 A)
    refine gv_run 2 true hD (pcₚ := 90) (lvₚ := [(5, .inr (.inr (some f49_))), (4, .inr (.inr (some o))), (3, .inl ((I 86 1) - a1)), (0, .inr (.inr (some 86))), (1, .inl a1), (2, .inl a2)]) (stₚ := [.inr (.inr (some f49_)), .inr (.inr (some 86))]) (hₚ := gc_h sh I53 J27 A) (C := ((True ∧ True) ∧ True)) rfl ⟨⟨trivial, trivial⟩, trivial⟩ ?_
    refine gv_put hD rfl rfl S_86 ⟨by decide, B_86⟩ rfl trivial ?_
    refine gc_stS (n := 1002) (b0 := (f49_ - (86 + 2)) / 2) hI53 S_86 rfl (by omega) R_86 (lo := 0) (hi := 1) rfl rfl (by omega) (by omega) (fun I60 hI60 q61 p61 => ?_)
    have FI60 := gc_frs (W := fun q j => q = u ∨ (q = 86 ∧ j = 1) ∨ (q = 86 ∧ j = 2) ∨ (q = 86 ∧ j = 3) ∨ (q = 86 ∧ j = 4) ∨ (q = 86 ∧ j = 5)) FI53 (Or.inr (Or.inr (Or.inr (Or.inr (Or.inr ⟨rfl, rfl⟩))))) p61
    have t62 := p61 86 1 (fun h => absurd h.2 (by decide))
    have t63 := p61 86 2 (fun h => absurd h.2 (by decide))
    have t64 := p61 86 4 (fun h => absurd h.2 (by decide))
    have t65 := p61 86 3 (fun h => absurd h.2 (by decide))
    have f66 := (gc_b_74_5 hI60 R_86)
    show gv_X _ _ (93, [(5, .inr (.inr (some f49_))), (4, .inr (.inr (some o))), (3, .inl ((I 86 1) - a1)), (0, .inr (.inr (some 86))), (1, .inl a1), (2, .inl a2)], [], sh, gc_h sh I60 J27 A)
    refine gv_run 1 true hD (pcₚ := 94) (lvₚ := [(5, .inr (.inr (some f49_))), (4, .inr (.inr (some o))), (3, .inl ((I 86 1) - a1)), (0, .inr (.inr (some 86))), (1, .inl a1), (2, .inl a2)]) (stₚ := [.inl 1]) (hₚ := gc_h sh I60 J27 A) (C := (True ∧ True)) rfl ⟨trivial, trivial⟩ ?_
    exact gv_zret hD rfl (by omega) ⟨I60, J27, rfl, hI60, FI60, FJ27, ⟨_, rfl, by omega, by omega, by omega, (Or.inr (by rw [show I60 u = I9 u from funext (fun k => (((((p61 u k (fun h => absurd h.1 (by omega))).trans (p54 u k (fun h => absurd h.1 (by omega)))).trans (p43 u k (fun h => absurd h.1 (by omega)))).trans (p36 u k (fun h => absurd h.1 (by omega)))).trans (p29 u k (fun h => absurd h.1 (by omega))))), show I60 86 1 = a2 + (I 86 1 - a1) from by omega]; exact (gc_TC_cp (g := I u) x5 x6 x7 x8 (by omega) (fun k hk => p8 u k (fun h => by have := h.2; omega)) (fun j hj => q8 j (by omega))).1)), (Or.inr (by rw [show I60 u = I9 u from funext (fun k => (((((p61 u k (fun h => absurd h.1 (by omega))).trans (p54 u k (fun h => absurd h.1 (by omega)))).trans (p43 u k (fun h => absurd h.1 (by omega)))).trans (p36 u k (fun h => absurd h.1 (by omega)))).trans (p29 u k (fun h => absurd h.1 (by omega))))), show I60 86 1 = a2 + (I 86 1 - a1) from by omega]; exact (gc_TC_cp (g := I u) x5 x6 x7 x8 (by omega) (fun k hk => p8 u k (fun h => by have := h.2; omega)) (fun j hj => q8 j (by omega))).2))⟩⟩
  · show gv_X _ _ (16, [(3, .inl ((I 86 1) - a1)), (0, .inr (.inr (some 86))), (1, .inl a1), (2, .inl a2)], [], sh, gc_h sh I J A)
    refine gv_run 1 true hD (pcₚ := 17) (lvₚ := [(3, .inl ((I 86 1) - a1)), (0, .inr (.inr (some 86))), (1, .inl a1), (2, .inl a2)]) (stₚ := [.inl 0]) (hₚ := gc_h sh I J A) (C := (True ∧ True)) rfl ⟨trivial, trivial⟩ ?_
    exact gv_zret hD rfl (by omega) ⟨I, J, rfl, hI, FI, FJ, ⟨_, rfl, by omega, by omega, by omega, (Or.inl rfl), (Or.inl rfl)⟩⟩
