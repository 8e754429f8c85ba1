set_option maxHeartbeats 32000000 in
set_option maxRecDepth 100000 in
theorem r_said_p {ws0 : List Cond} {tb : String → gz_T} (hws : ∀ w ∈ gr_ws, w ∈ ws0) (htb : tb RX13 = gr_T) (ext : gz_Sh) (β : Int → Int) (N9 : Int) (p9 : Int) (I : gr_I) (J : gr_J) (hI : gr_Inv I) (a1 : Int) (ha1 : 0 ≤ a1 ∧ a1 ≤ 95) (x0 : I 0 71 = 5 ∨ I 0 73 ≤ I 0 69) (x1 : I 0 72 ≤ I 0 69) (x2 : I 0 71 = 0 ∨ (I 0 72 < I 0 73 ∧ I 0 72 < I 0 69)) (x3 : I 0 71 = 3 → 2 ≤ I 0 73 - I 0 72 ∧ I 0 73 - I 0 72 ≤ 14) (x4 : I 0 72 ≤ I 0 73) (x5 : 0 ≤ I 0 6) (x6 : gr_R1 a1 I) (x7 : gr_ATp β N9 p9 I J) (x8 : 0 ≤ p9) (x9 : gr_KW J) : ∃ r h', gz_Ev ws0 tb 12 (yX13_said, cX13_said, 3, (some .boolean)) [.inr (.inr (some 0)), .inl a1] (gr_sh ++ ext) (gr_h I J) r (gr_sh ++ ext) h' 0 0 ∧ (∃ (I' : gr_I) (J' : gr_J), h' = gr_h I' J' ∧ gr_Inv I' ∧ gr_fr [71, 72, 73, 74, 75, 76, 77, 119, 120] [70, 71, 72, 73] I I' ∧ gr_fj [71, 72, 73, 74, 75, 76, 77, 119, 120] [70, 71, 72, 73] J J' ∧ (∃ z : Int, r = some (.inl z) ∧ 0 ≤ z ∧ z ≤ 1 ∧ (I' 0 71 = 5 ∨ I' 0 73 ≤ I' 0 69) ∧ (I' 0 72 ≤ I' 0 69) ∧ (I' 0 71 = 0 ∨ (I' 0 72 < I' 0 73 ∧ I' 0 72 < I' 0 69)) ∧ (I' 0 71 = 3 → 2 ≤ I' 0 73 - I' 0 72 ∧ I' 0 73 - I' 0 72 ≤ 14) ∧ (I' 0 72 ≤ I' 0 73) ∧ (I' 0 69 = I 0 69) ∧ (I 0 73 ≤ I' 0 73) ∧ (I 0 72 ≤ I' 0 72) ∧ (gr_o (z = 0) (gr_R1 a1 I')) ∧ (gs_Or z (0 ≤ (gs_said β N9 I J (I 6 (Int.toNat a1)) (I 0 119) (gs_a4 (I 74)) p9) ∧ gr_ATp β N9 (gs_said β N9 I J (I 6 (Int.toNat a1)) (I 0 119) (gs_a4 (I 74)) p9) I' J' ∧ I' 0 119 = I 0 119 + 1) ((gs_said β N9 I J (I 6 (Int.toNat a1)) (I 0 119) (gs_a4 (I 74)) p9) < 0 ∧ I' 0 77 = -1 - (gs_said β N9 I J (I 6 (Int.toNat a1)) (I 0 119) (gs_a4 (I 74)) p9))))) := by
  have FI : gr_fr [71, 72, 73, 74, 75, 76, 77, 119, 120] [70, 71, 72, 73] I I := fun _ _ _ => rfl
  have FJ : gr_fj [71, 72, 73, 74, 75, 76, 77, 119, 120] [70, 71, 72, 73] J J := fun _ _ _ => rfl
  have hD : gv_D (gr_E ws0 tb 11 (yX13_said, cX13_said, 3, (some .boolean)) kX13_said) := gq_of oX13_said
  refine gr_ev (d := 11) (l := kX13_said) (Po := fun r h' => (∃ (I' : gr_I) (J' : gr_J), h' = gr_h I' J' ∧ gr_Inv I' ∧ gr_fr [71, 72, 73, 74, 75, 76, 77, 119, 120] [70, 71, 72, 73] I I' ∧ gr_fj [71, 72, 73, 74, 75, 76, 77, 119, 120] [70, 71, 72, 73] J J' ∧ (∃ z : Int, r = some (.inl z) ∧ 0 ≤ z ∧ z ≤ 1 ∧ (I' 0 71 = 5 ∨ I' 0 73 ≤ I' 0 69) ∧ (I' 0 72 ≤ I' 0 69) ∧ (I' 0 71 = 0 ∨ (I' 0 72 < I' 0 73 ∧ I' 0 72 < I' 0 69)) ∧ (I' 0 71 = 3 → 2 ≤ I' 0 73 - I' 0 72 ∧ I' 0 73 - I' 0 72 ≤ 14) ∧ (I' 0 72 ≤ I' 0 73) ∧ (I' 0 69 = I 0 69) ∧ (I 0 73 ≤ I' 0 73) ∧ (I 0 72 ≤ I' 0 72) ∧ (gr_o (z = 0) (gr_R1 a1 I')) ∧ (gs_Or z (0 ≤ (gs_said β N9 I J (I 6 (Int.toNat a1)) (I 0 119) (gs_a4 (I 74)) p9) ∧ gr_ATp β N9 (gs_said β N9 I J (I 6 (Int.toNat a1)) (I 0 119) (gs_a4 (I 74)) p9) I' J' ∧ I' 0 119 = I 0 119 + 1) ((gs_said β N9 I J (I 6 (Int.toNat a1)) (I 0 119) (gs_a4 (I 74)) p9) < 0 ∧ I' 0 77 = -1 - (gs_said β N9 I J (I 6 (Int.toNat a1)) (I 0 119) (gs_a4 (I 74)) p9)))))) htb rfl (Nat.le_of_ble_eq_true rfl) ?_
  have tAT := gr_ATp_l x7
  clear x0 x2 x3
  have KW := x9
  have f1 := (gr_b_0_71 hI)
  have f2 := (gr_b_0_72 hI)
  have f3 := (gr_b_0_73 hI)
  have f4 := (gr_b_0_69 hI)
  have f5 := (gr_b_0_6 hI)
  have f6 := (gr_b_0_119 hI)
  have f7 := (gr_b_0_118 hI)
  have f8 := (gr_b_0_120 hI)
  have L28 : ((0 ≤ a1 ∧ a1 ≤ 95) ∧ (I 0 119 = I 0 119) ∧ (I 0 71 = 1) ∧ (0 ≤ p9) ∧ (I 0 72 ≤ I 0 69) ∧ (I 0 72 ≤ I 0 73) ∧ (I 0 69 = I 0 69) ∧ (I 0 73 ≤ I 0 73) ∧ (I 0 72 ≤ I 0 72) ∧ (I 0 6 = I 0 6)) → (gr_R1 a1 I) → (gr_ATp β N9 p9 I J) → ((gs_said β N9 I J (I 6 (Int.toNat a1)) (I 0 119) (gs_a4 (I 74)) p9) = gs_said1 β N9 I J (I 6 (Int.toNat a1)) (I 0 119) (gs_a4 (I 74)) p9) → (I 0 119 = I 0 119) → gv_X (gr_E ws0 tb 11 (yX13_said, cX13_said, 3, (some .boolean)) kX13_said) (gv_Q cX13_said (some .boolean) (gr_sh ++ ext) (fun r h' => (∃ (I' : gr_I) (J' : gr_J), h' = gr_h I' J' ∧ gr_Inv I' ∧ gr_fr [71, 72, 73, 74, 75, 76, 77, 119, 120] [70, 71, 72, 73] I I' ∧ gr_fj [71, 72, 73, 74, 75, 76, 77, 119, 120] [70, 71, 72, 73] J J' ∧ (∃ z : Int, r = some (.inl z) ∧ 0 ≤ z ∧ z ≤ 1 ∧ (I' 0 71 = 5 ∨ I' 0 73 ≤ I' 0 69) ∧ (I' 0 72 ≤ I' 0 69) ∧ (I' 0 71 = 0 ∨ (I' 0 72 < I' 0 73 ∧ I' 0 72 < I' 0 69)) ∧ (I' 0 71 = 3 → 2 ≤ I' 0 73 - I' 0 72 ∧ I' 0 73 - I' 0 72 ≤ 14) ∧ (I' 0 72 ≤ I' 0 73) ∧ (I' 0 69 = I 0 69) ∧ (I 0 73 ≤ I' 0 73) ∧ (I 0 72 ≤ I' 0 72) ∧ (gr_o (z = 0) (gr_R1 a1 I')) ∧ (gs_Or z (0 ≤ (gs_said β N9 I J (I 6 (Int.toNat a1)) (I 0 119) (gs_a4 (I 74)) p9) ∧ gr_ATp β N9 (gs_said β N9 I J (I 6 (Int.toNat a1)) (I 0 119) (gs_a4 (I 74)) p9) I' J' ∧ I' 0 119 = I 0 119 + 1) ((gs_said β N9 I J (I 6 (Int.toNat a1)) (I 0 119) (gs_a4 (I 74)) p9) < 0 ∧ I' 0 77 = -1 - (gs_said β N9 I J (I 6 (Int.toNat a1)) (I 0 119) (gs_a4 (I 74)) p9))))))) (28, [(0, .inr (.inr (some 0))), (1, .inl a1)], [], gr_sh ++ ext, gr_h I J) := by
    intro m_9 e2_9 e4_9 e5_9 e6_9
    obtain ⟨ha1_9, e0_9, e1_9, e3_9, e7_9, e8_9, e9_9, e10_9, e11_9, e12_9⟩ := m_9
    have f10 := (gr_b_0_71 hI)
    have f11 := (gr_b_0_72 hI)
    have f12 := (gr_b_0_73 hI)
    have f13 := (gr_b_0_69 hI)
    have f14 := (gr_b_0_6 hI)
    have f15 := (gr_b_0_119 hI)
    have f16 := (gr_b_0_118 hI)
    have f17 := (gr_b_0_120 hI)
    have t18 := gr_ATp_l x7
    have L43 : ((0 ≤ a1 ∧ a1 ≤ 95) ∧ (I 0 119 ≤ 5) ∧ (I 0 71 = 1) ∧ (0 ≤ p9) ∧ (I 0 72 ≤ I 0 69) ∧ (I 0 72 ≤ I 0 73) ∧ (I 0 69 = I 0 69) ∧ (I 0 73 ≤ I 0 73) ∧ (I 0 72 ≤ I 0 72) ∧ (I 0 6 = I 0 6)) → (gr_R1 a1 I) → (gr_ATp β N9 p9 I J) → ((gs_said β N9 I J (I 6 (Int.toNat a1)) (I 0 119) (gs_a4 (I 74)) p9) = gs_said2 β N9 I J (I 6 (Int.toNat a1)) (gs_a4 (I 74)) p9) → (I 0 119 = I 0 119) → gv_X (gr_E ws0 tb 11 (yX13_said, cX13_said, 3, (some .boolean)) kX13_said) (gv_Q cX13_said (some .boolean) (gr_sh ++ ext) (fun r h' => (∃ (I' : gr_I) (J' : gr_J), h' = gr_h I' J' ∧ gr_Inv I' ∧ gr_fr [71, 72, 73, 74, 75, 76, 77, 119, 120] [70, 71, 72, 73] I I' ∧ gr_fj [71, 72, 73, 74, 75, 76, 77, 119, 120] [70, 71, 72, 73] J J' ∧ (∃ z : Int, r = some (.inl z) ∧ 0 ≤ z ∧ z ≤ 1 ∧ (I' 0 71 = 5 ∨ I' 0 73 ≤ I' 0 69) ∧ (I' 0 72 ≤ I' 0 69) ∧ (I' 0 71 = 0 ∨ (I' 0 72 < I' 0 73 ∧ I' 0 72 < I' 0 69)) ∧ (I' 0 71 = 3 → 2 ≤ I' 0 73 - I' 0 72 ∧ I' 0 73 - I' 0 72 ≤ 14) ∧ (I' 0 72 ≤ I' 0 73) ∧ (I' 0 69 = I 0 69) ∧ (I 0 73 ≤ I' 0 73) ∧ (I 0 72 ≤ I' 0 72) ∧ (gr_o (z = 0) (gr_R1 a1 I')) ∧ (gs_Or z (0 ≤ (gs_said β N9 I J (I 6 (Int.toNat a1)) (I 0 119) (gs_a4 (I 74)) p9) ∧ gr_ATp β N9 (gs_said β N9 I J (I 6 (Int.toNat a1)) (I 0 119) (gs_a4 (I 74)) p9) I' J' ∧ I' 0 119 = I 0 119 + 1) ((gs_said β N9 I J (I 6 (Int.toNat a1)) (I 0 119) (gs_a4 (I 74)) p9) < 0 ∧ I' 0 77 = -1 - (gs_said β N9 I J (I 6 (Int.toNat a1)) (I 0 119) (gs_a4 (I 74)) p9))))))) (43, [(0, .inr (.inr (some 0))), (1, .inl a1)], [], gr_sh ++ ext, gr_h I J) := by
      intro m_19 e2_19 e4_19 e5_19 e6_19
      obtain ⟨ha1_19, e0_19, e1_19, e3_19, e7_19, e8_19, e9_19, e10_19, e11_19, e12_19⟩ := m_19
      have f20 := (gr_b_0_71 hI)
      have f21 := (gr_b_0_72 hI)
      have f22 := (gr_b_0_73 hI)
      have f23 := (gr_b_0_69 hI)
      have f24 := (gr_b_0_6 hI)
      have f25 := (gr_b_0_119 hI)
      have f26 := (gr_b_0_118 hI)
      have f27 := (gr_b_0_120 hI)
      have t28 := gr_ATp_l x7
      have L284 : ∀ (I29 : gr_I) (J30 : gr_J) (p_31 : Int), gr_Inv I29 → gr_fr [71, 72, 73, 74, 75, 76, 77, 119, 120] [70, 71, 72, 73] I I29 → gr_fj [71, 72, 73, 74, 75, 76, 77, 119, 120] [70, 71, 72, 73] J J30 → ((I29 0 119 ≤ 5) ∧ (0 ≤ p_31) ∧ (I29 0 72 ≤ I29 0 69) ∧ (I29 0 72 ≤ I29 0 73) ∧ (I29 0 69 = I 0 69) ∧ (I 0 73 ≤ I29 0 73) ∧ (I 0 72 ≤ I29 0 72) ∧ (I29 0 6 = I 0 6)) → (gr_R1 a1 I29) → (gr_S3 I29) → (gr_ATp β N9 p_31 I29 J30) → ((gs_said β N9 I J (I 6 (Int.toNat a1)) (I 0 119) (gs_a4 (I 74)) p9) = p_31) → (I29 0 119 = I 0 119) → gv_X (gr_E ws0 tb 11 (yX13_said, cX13_said, 3, (some .boolean)) kX13_said) (gv_Q cX13_said (some .boolean) (gr_sh ++ ext) (fun r h' => (∃ (I' : gr_I) (J' : gr_J), h' = gr_h I' J' ∧ gr_Inv I' ∧ gr_fr [71, 72, 73, 74, 75, 76, 77, 119, 120] [70, 71, 72, 73] I I' ∧ gr_fj [71, 72, 73, 74, 75, 76, 77, 119, 120] [70, 71, 72, 73] J J' ∧ (∃ z : Int, r = some (.inl z) ∧ 0 ≤ z ∧ z ≤ 1 ∧ (I' 0 71 = 5 ∨ I' 0 73 ≤ I' 0 69) ∧ (I' 0 72 ≤ I' 0 69) ∧ (I' 0 71 = 0 ∨ (I' 0 72 < I' 0 73 ∧ I' 0 72 < I' 0 69)) ∧ (I' 0 71 = 3 → 2 ≤ I' 0 73 - I' 0 72 ∧ I' 0 73 - I' 0 72 ≤ 14) ∧ (I' 0 72 ≤ I' 0 73) ∧ (I' 0 69 = I 0 69) ∧ (I 0 73 ≤ I' 0 73) ∧ (I 0 72 ≤ I' 0 72) ∧ (gr_o (z = 0) (gr_R1 a1 I')) ∧ (gs_Or z (0 ≤ (gs_said β N9 I J (I 6 (Int.toNat a1)) (I 0 119) (gs_a4 (I 74)) p9) ∧ gr_ATp β N9 (gs_said β N9 I J (I 6 (Int.toNat a1)) (I 0 119) (gs_a4 (I 74)) p9) I' J' ∧ I' 0 119 = I 0 119 + 1) ((gs_said β N9 I J (I 6 (Int.toNat a1)) (I 0 119) (gs_a4 (I 74)) p9) < 0 ∧ I' 0 77 = -1 - (gs_said β N9 I J (I 6 (Int.toNat a1)) (I 0 119) (gs_a4 (I 74)) p9))))))) (284, [(0, .inr (.inr (some 0)))], [], gr_sh ++ ext, gr_h I29 J30) := by
        intro I29 J30 p_31 hI29 FI29 FJ30 m_31 e1_31 e2_31 e4_31 e5_31 e6_31
        clear ha1_19 e0_19 e1_19 e3_19 e7_19 e8_19 e9_19 e10_19 e11_19 e12_19 f20 f21 f22 f23 f24 f25 f26 f27 t28 ha1_9 e0_9 e1_9 e3_9 e7_9 e8_9 e9_9 e10_9 e11_9 e12_9 f10 f11 f12 f13 f14 f15 f16 f17 t18
        obtain ⟨e0_31, e3_31, e7_31, e8_31, e9_31, e10_31, e11_31, e12_31⟩ := m_31
        have f32 := (gr_b_0_71 hI29)
        have f33 := (gr_b_0_72 hI29)
        have f34 := (gr_b_0_73 hI29)
        have f35 := (gr_b_0_69 hI29)
        have f36 := (gr_b_0_6 hI29)
        have f37 := (gr_b_0_119 hI29)
        have f38 := (gr_b_0_118 hI29)
        have f39 := (gr_b_0_120 hI29)
        have t40 := gr_ATp_l e4_31
        have f41 := (gr_b_0_119 hI29)
        refine gv_run 5 true hD (pc' := 291) (lv' := [(0, .inr (.inr (some 0)))]) (st' := [.inl ((I29 0 119) + 1), .inr (.inr (some 0))]) (h' := gr_h I29 J30) (C := (((((True ∧ True) ∧ True) ∧ True) ∧ True) ∧ True)) rfl ⟨⟨⟨⟨⟨trivial, trivial⟩, trivial⟩, trivial⟩, trivial⟩, trivial⟩ ?_
        refine gv_run 1 true hD (pc' := 294) (lv' := [(0, .inr (.inr (some 0)))]) (st' := []) (h' := gz_up (gr_h I29 J30) 0 119 (.inl (((I29 0 119) + 1)))) (C := (True ∧ True)) rfl ⟨trivial, trivial⟩ ?_
        refine gr_st hI29 FI29 rfl rfl ⟨⟨by show 0 ≤ _; exact gz_m 0 (by omega), by show _ ≤ 6; exact gz_m 1 (by omega)⟩, trivial⟩ (fun I42 hI42 FI42 q43 p43 => ?_)
        have t44 := p43 0 71 (by decide)
        have t45 := p43 0 72 (by decide)
        have t46 := p43 0 73 (by decide)
        have t47 := p43 0 69 (by decide)
        have t48 := p43 0 6 (by decide)
        have t49 := p43 0 118 (by decide)
        have t50 := p43 0 120 (by decide)
        have f51 := (gr_b_0_71 hI42)
        have f52 := (gr_b_0_72 hI42)
        have f53 := (gr_b_0_73 hI42)
        have f54 := (gr_b_0_69 hI42)
        have f55 := (gr_b_0_6 hI42)
        have f56 := (gr_b_0_119 hI42)
        have f57 := (gr_b_0_118 hI42)
        have f58 := (gr_b_0_120 hI42)
        have A59 := gr_ATp_sf e4_31 p43 rfl
        refine gv_run 1 true hD (pc' := 295) (lv' := [(0, .inr (.inr (some 0)))]) (st' := [.inl 1]) (h' := gr_h I42 J30) (C := (True ∧ True)) rfl ⟨trivial, trivial⟩ ?_
        have b60 : (I42 0 69 = I 0 69) ∧ (I 0 73 ≤ I42 0 73) ∧ (I 0 72 ≤ I42 0 72) := by exact gz_m 2 (by omega)
        exact gv_zret hD rfl (by exact gz_m 3 (by omega)) ⟨I42, J30, rfl, hI42, FI42, FJ30, ⟨_, rfl, by exact gz_m 4 (by omega), by exact gz_m 5 (by omega), (gr_ATp_rr A59).1, (gr_ATp_rr A59).2.1, (gr_ATp_rr A59).2.2.1, (gr_ATp_rr A59).2.2.2.1, (gr_ATp_rr A59).2.2.2.2, b60.1, b60.2.1, b60.2.2, (gr_o_b (gr_R1_n e1_31 p43 (by exact gz_m 6 (by omega)) e2_31)), (Or.inl ⟨by exact gz_m 7 (by omega), by rw [e5_31]; exact ⟨by exact gz_m 8 (by omega), A59, by exact gz_m 9 (by omega)⟩⟩)⟩⟩
      have L78 : ∀ (I61 : gr_I) (J62 : gr_J) (p_63 : Int), gr_Inv I61 → gr_fr [71, 72, 73, 74, 75, 76, 77, 119, 120] [70, 71, 72, 73] I I61 → gr_fj [71, 72, 73, 74, 75, 76, 77, 119, 120] [70, 71, 72, 73] J J62 → ((0 ≤ a1 ∧ a1 ≤ 95) ∧ (I61 0 119 ≤ 5) ∧ (0 ≤ p_63) ∧ (I61 0 72 ≤ I61 0 69) ∧ (I61 0 72 ≤ I61 0 73) ∧ (I61 0 69 = I 0 69) ∧ (I 0 73 ≤ I61 0 73) ∧ (I 0 72 ≤ I61 0 72) ∧ (I61 0 6 = I 0 6)) → (gr_R1 a1 I61) → (gr_ATp β N9 p_63 I61 J62) → ((gs_said β N9 I J (I 6 (Int.toNat a1)) (I 0 119) (gs_a4 (I 74)) p9) = gs_sa1 β N9 I J (I 6 (Int.toNat a1)) (gs_a4 (I 74)) p_63) → (I61 0 119 = I 0 119) → gv_X (gr_E ws0 tb 11 (yX13_said, cX13_said, 3, (some .boolean)) kX13_said) (gv_Q cX13_said (some .boolean) (gr_sh ++ ext) (fun r h' => (∃ (I' : gr_I) (J' : gr_J), h' = gr_h I' J' ∧ gr_Inv I' ∧ gr_fr [71, 72, 73, 74, 75, 76, 77, 119, 120] [70, 71, 72, 73] I I' ∧ gr_fj [71, 72, 73, 74, 75, 76, 77, 119, 120] [70, 71, 72, 73] J J' ∧ (∃ z : Int, r = some (.inl z) ∧ 0 ≤ z ∧ z ≤ 1 ∧ (I' 0 71 = 5 ∨ I' 0 73 ≤ I' 0 69) ∧ (I' 0 72 ≤ I' 0 69) ∧ (I' 0 71 = 0 ∨ (I' 0 72 < I' 0 73 ∧ I' 0 72 < I' 0 69)) ∧ (I' 0 71 = 3 → 2 ≤ I' 0 73 - I' 0 72 ∧ I' 0 73 - I' 0 72 ≤ 14) ∧ (I' 0 72 ≤ I' 0 73) ∧ (I' 0 69 = I 0 69) ∧ (I 0 73 ≤ I' 0 73) ∧ (I 0 72 ≤ I' 0 72) ∧ (gr_o (z = 0) (gr_R1 a1 I')) ∧ (gs_Or z (0 ≤ (gs_said β N9 I J (I 6 (Int.toNat a1)) (I 0 119) (gs_a4 (I 74)) p9) ∧ gr_ATp β N9 (gs_said β N9 I J (I 6 (Int.toNat a1)) (I 0 119) (gs_a4 (I 74)) p9) I' J' ∧ I' 0 119 = I 0 119 + 1) ((gs_said β N9 I J (I 6 (Int.toNat a1)) (I 0 119) (gs_a4 (I 74)) p9) < 0 ∧ I' 0 77 = -1 - (gs_said β N9 I J (I 6 (Int.toNat a1)) (I 0 119) (gs_a4 (I 74)) p9))))))) (78, [(0, .inr (.inr (some 0))), (1, .inl a1)], [], gr_sh ++ ext, gr_h I61 J62) := by
        intro I61 J62 p_63 hI61 FI61 FJ62 m_63 e1_63 e3_63 e4_63 e5_63
        clear ha1_19 e0_19 e1_19 e3_19 e7_19 e8_19 e9_19 e10_19 e11_19 e12_19 f20 f21 f22 f23 f24 f25 f26 f27 t28 ha1_9 e0_9 e1_9 e3_9 e7_9 e8_9 e9_9 e10_9 e11_9 e12_9 f10 f11 f12 f13 f14 f15 f16 f17 t18
        obtain ⟨ha1_63, e0_63, e2_63, e6_63, e7_63, e8_63, e9_63, e10_63, e11_63⟩ := m_63
        have f64 := (gr_b_0_71 hI61)
        have f65 := (gr_b_0_72 hI61)
        have f66 := (gr_b_0_73 hI61)
        have f67 := (gr_b_0_69 hI61)
        have f68 := (gr_b_0_6 hI61)
        have f69 := (gr_b_0_119 hI61)
        have f70 := (gr_b_0_118 hI61)
        have f71 := (gr_b_0_120 hI61)
        have t72 := gr_ATp_l e3_63
        have L101 : ∀ (I73 : gr_I) (J74 : gr_J) (p_75 : Int), gr_Inv I73 → gr_fr [71, 72, 73, 74, 75, 76, 77, 119, 120] [70, 71, 72, 73] I I73 → gr_fj [71, 72, 73, 74, 75, 76, 77, 119, 120] [70, 71, 72, 73] J J74 → ((I73 0 119 ≤ 5) ∧ (0 ≤ p_75) ∧ (I73 0 72 ≤ I73 0 69) ∧ (I73 0 72 ≤ I73 0 73) ∧ (I73 0 69 = I 0 69) ∧ (I 0 73 ≤ I73 0 73) ∧ (I 0 72 ≤ I73 0 72) ∧ (I73 0 6 = I 0 6)) → (gr_R1 a1 I73) → (gr_S3a I73) → (gr_ATp β N9 p_75 I73 J74) → ((gs_said β N9 I J (I 6 (Int.toNat a1)) (I 0 119) (gs_a4 (I 74)) p9) = gs_sa2 β N9 I J p_75) → (I73 0 119 = I 0 119) → gv_X (gr_E ws0 tb 11 (yX13_said, cX13_said, 3, (some .boolean)) kX13_said) (gv_Q cX13_said (some .boolean) (gr_sh ++ ext) (fun r h' => (∃ (I' : gr_I) (J' : gr_J), h' = gr_h I' J' ∧ gr_Inv I' ∧ gr_fr [71, 72, 73, 74, 75, 76, 77, 119, 120] [70, 71, 72, 73] I I' ∧ gr_fj [71, 72, 73, 74, 75, 76, 77, 119, 120] [70, 71, 72, 73] J J' ∧ (∃ z : Int, r = some (.inl z) ∧ 0 ≤ z ∧ z ≤ 1 ∧ (I' 0 71 = 5 ∨ I' 0 73 ≤ I' 0 69) ∧ (I' 0 72 ≤ I' 0 69) ∧ (I' 0 71 = 0 ∨ (I' 0 72 < I' 0 73 ∧ I' 0 72 < I' 0 69)) ∧ (I' 0 71 = 3 → 2 ≤ I' 0 73 - I' 0 72 ∧ I' 0 73 - I' 0 72 ≤ 14) ∧ (I' 0 72 ≤ I' 0 73) ∧ (I' 0 69 = I 0 69) ∧ (I 0 73 ≤ I' 0 73) ∧ (I 0 72 ≤ I' 0 72) ∧ (gr_o (z = 0) (gr_R1 a1 I')) ∧ (gs_Or z (0 ≤ (gs_said β N9 I J (I 6 (Int.toNat a1)) (I 0 119) (gs_a4 (I 74)) p9) ∧ gr_ATp β N9 (gs_said β N9 I J (I 6 (Int.toNat a1)) (I 0 119) (gs_a4 (I 74)) p9) I' J' ∧ I' 0 119 = I 0 119 + 1) ((gs_said β N9 I J (I 6 (Int.toNat a1)) (I 0 119) (gs_a4 (I 74)) p9) < 0 ∧ I' 0 77 = -1 - (gs_said β N9 I J (I 6 (Int.toNat a1)) (I 0 119) (gs_a4 (I 74)) p9))))))) (101, [(0, .inr (.inr (some 0)))], [], gr_sh ++ ext, gr_h I73 J74) := by
          intro I73 J74 p_75 hI73 FI73 FJ74 m_75 e1_75 e2_75 e4_75 e5_75 e6_75
          clear ha1_63 e0_63 e2_63 e6_63 e7_63 e8_63 e9_63 e10_63 e11_63 f64 f65 f66 f67 f68 f69 f70 f71 t72
          obtain ⟨e0_75, e3_75, e7_75, e8_75, e9_75, e10_75, e11_75, e12_75⟩ := m_75
          have f76 := (gr_b_0_71 hI73)
          have f77 := (gr_b_0_72 hI73)
          have f78 := (gr_b_0_73 hI73)
          have f79 := (gr_b_0_69 hI73)
          have f80 := (gr_b_0_6 hI73)
          have f81 := (gr_b_0_119 hI73)
          have f82 := (gr_b_0_118 hI73)
          have f83 := (gr_b_0_120 hI73)
          have t84 := gr_ATp_l e4_75
          have f85 := (gr_b_0_119 hI73)
          have f86 := (gr_b_0_120 hI73)
          refine gv_run 6 true hD (pc' := 113) (lv' := [(0, .inr (.inr (some 0)))]) (st' := [.inl (I73 0 120), .inl (I73 0 119), .inr (.inr (some 72))]) (h' := gr_h I73 J74) (C := ((((((True ∧ True) ∧ True) ∧ True) ∧ True) ∧ True) ∧ True)) rfl ⟨⟨⟨⟨⟨⟨trivial, trivial⟩, trivial⟩, trivial⟩, trivial⟩, trivial⟩, trivial⟩ ?_
          refine gv_run 1 true hD (pc' := 114) (lv' := [(0, .inr (.inr (some 0)))]) (st' := []) (h' := gz_up (gr_h I73 J74) 72 (Int.toNat ((I73 0 119))) (.inl (I73 0 120))) (C := (True ∧ (0 ≤ (I73 0 119) ∧ (I73 0 119) < ((6 : Nat) : Int)))) rfl ⟨trivial, ⟨by exact gz_m 10 (by omega), by exact gz_m 11 (by omega)⟩⟩ ?_
          refine gr_st hI73 FI73 rfl rfl ⟨⟨by show 0 ≤ _; exact gz_m 12 (by omega), by show _ ≤ 3; exact gz_m 13 (by omega)⟩, trivial⟩ (fun I87 hI87 FI87 q88 p88 => ?_)
          have t89 := p88 0 71 (fun q => absurd q.1 (by decide))
          have t90 := p88 0 72 (fun q => absurd q.1 (by decide))
          have t91 := p88 0 73 (fun q => absurd q.1 (by decide))
          have t92 := p88 0 69 (fun q => absurd q.1 (by decide))
          have t93 := p88 0 6 (fun q => absurd q.1 (by decide))
          have t94 := p88 0 119 (fun q => absurd q.1 (by decide))
          have t95 := p88 0 118 (fun q => absurd q.1 (by decide))
          have t96 := p88 0 120 (fun q => absurd q.1 (by decide))
          have f97 := (gr_b_0_71 hI87)
          have f98 := (gr_b_0_72 hI87)
          have f99 := (gr_b_0_73 hI87)
          have f100 := (gr_b_0_69 hI87)
          have f101 := (gr_b_0_6 hI87)
          have f102 := (gr_b_0_119 hI87)
          have f103 := (gr_b_0_118 hI87)
          have f104 := (gr_b_0_120 hI87)
          have A105 := gr_ATp_sr e4_75 p88 rfl
          refine gv_run 1 true hD (pc' := 115) (lv' := [(0, .inr (.inr (some 0)))]) (st' := [.inr (.inr (some 0))]) (h' := gr_h I87 J74) (C := (True ∧ True)) rfl ⟨trivial, trivial⟩ ?_
          obtain ⟨r106, h106, E106, P106⟩ := r_featureOf_p (ws0 := ws0) (tb := tb) hws htb ext β N9 p_75 I87 J74 hI87   (gr_ATp_rr A105).1 (gr_ATp_rr A105).2.1 (gr_ATp_rr A105).2.2.1 (gr_ATp_rr A105).2.2.2.1 (gr_ATp_rr A105).2.2.2.2 (by exact gz_m 14 (by omega)) (by exact gz_m 15 (by omega)) A105 (by exact gz_m 16 (by omega))
          obtain ⟨I107, J108, rfl, hI107, g106, k106, ⟨z106, rfl, q106⟩⟩ := P106
          have FI107 := gr_frt FI87 g106 rfl rfl
          have FJ108 := gr_fjt FJ74 k106 rfl rfl
          have t109 := g106 0 69 rfl
          have t110 := g106 0 6 rfl
          have t111 := g106 0 119 rfl
          have t112 := g106 0 118 rfl
          have t113 := g106 0 120 rfl
          have f114 := (gr_b_0_71 hI107)
          have f115 := (gr_b_0_72 hI107)
          have f116 := (gr_b_0_73 hI107)
          have f117 := (gr_b_0_69 hI107)
          have f118 := (gr_b_0_6 hI107)
          have f119 := (gr_b_0_119 hI107)
          have f120 := (gr_b_0_118 hI107)
          have f121 := (gr_b_0_120 hI107)
          refine gv_callV hD rfl (As := []) (st := []) rfl (by decide) rfl rfl (gr_lV hws rfl) (Nat.le_of_ble_eq_true rfl) (gz_Ev_mono (d := 11) (by decide) E106) ?_
          show gv_X _ _ (118, [(0, .inr (.inr (some 0)))], [.inl z106], gr_sh ++ ext, gr_h I107 J108)
          refine gv_if_ne (t := 284) hD rfl rfl ⟨by exact gz_m 17 (by omega), by exact gz_m 18 (by omega)⟩ (fun c122 => ?_) (fun c122 => ?_)
          · have Q123 := q106.2.2.2.2.2.2.2.2.2.2
            rw [gs_fo_eq (FI87 0 6 rfl) (fun k => (FI87 13 k rfl)) (fun k => (FJ74 20 k rfl))] at Q123
            obtain ⟨u123, A123⟩ := gs_or1 Q123 (by exact gz_m 19 (by omega))
            have t124 := gr_ATp_l A123
            obtain ⟨_, _, -, _, -, -, _, _, _, _, -⟩ := q106
            exact L284 I107 J108 (gs_fo β N9 I J p_75) hI107 FI107 FJ108 (by exact gz_m 20 (by omega)) (gr_R1_fr (gr_R1_fr e1_75 (fun k => p88 68 k (fun q => absurd q.1 (by decide))) (fun k => p88 74 k (fun q => absurd q.1 (by decide))) (fun k => p88 6 k (fun q => absurd q.1 (by decide))) (fun k => p88 70 k (fun q => absurd q.1 (by decide))) (fun k => p88 71 k (fun q => absurd q.1 (by decide))) (p88 0 118 (fun q => absurd q.1 (by decide))) (p88 0 119 (fun q => absurd q.1 (by decide)))) (fun k => g106 68 k rfl) (fun k => g106 74 k rfl) (fun k => g106 6 k rfl) (fun k => g106 70 k rfl) (fun k => g106 71 k rfl) (g106 0 118 rfl) (g106 0 119 rfl)) (Or.inr (gr_S3a_fr (gr_S3a_fr e2_75 (fun k => p88 71 k (fun q => absurd q.1 (by decide))) (p88 0 119 (fun q => absurd q.1 (by decide)))) (fun k => g106 71 k rfl) (g106 0 119 rfl))) A123 (by rw [e5_75]; unfold gs_sa2; (repeat first | rw [if_pos (by exact gz_m 21 (by omega))] | rw [if_neg (by exact gz_m 22 (by omega))])) (((g106 0 119 rfl).trans (p88 0 119 (fun q => absurd q.1 (by decide)))).trans (e6_75))
          · have Q125 := q106.2.2.2.2.2.2.2.2.2.2
            rw [gs_fo_eq (FI87 0 6 rfl) (fun k => (FI87 13 k rfl)) (fun k => (FJ74 20 k rfl))] at Q125
            obtain ⟨u125, u125_⟩ := gs_or0 Q125 (by exact gz_m 23 (by omega))
            refine gv_run 1 true hD (pc' := 122) (lv' := [(0, .inr (.inr (some 0)))]) (st' := [.inl 0]) (h' := gr_h I107 J108) (C := (True ∧ True)) rfl ⟨trivial, trivial⟩ ?_
            have b126 : (I107 0 71 = 5 ∨ I107 0 73 ≤ I107 0 69) ∧ (I107 0 72 ≤ I107 0 69) ∧ (I107 0 71 = 0 ∨ (I107 0 72 < I107 0 73 ∧ I107 0 72 < I107 0 69)) ∧ (I107 0 71 = 3 → 2 ≤ I107 0 73 - I107 0 72 ∧ I107 0 73 - I107 0 72 ≤ 14) ∧ (I107 0 72 ≤ I107 0 73) ∧ (I107 0 69 = I 0 69) ∧ (I 0 73 ≤ I107 0 73) ∧ (I 0 72 ≤ I107 0 72) := by exact gz_m 24 (by omega)
            exact gv_zret hD rfl (by exact gz_m 25 (by omega)) ⟨I107, J108, rfl, hI107, FI107, FJ108, ⟨_, rfl, by exact gz_m 26 (by omega), by exact gz_m 27 (by omega), b126.1, b126.2.1, b126.2.2.1, b126.2.2.2.1, b126.2.2.2.2.1, b126.2.2.2.2.2.1, b126.2.2.2.2.2.2.1, b126.2.2.2.2.2.2.2, (gr_o_a (by exact gz_m 28 (by omega))), (Or.inr ⟨by exact gz_m 29 (by omega), by first | (exfalso; exact gz_m 30 (by omega)) | (rw [e5_75]; unfold gs_sa2; (repeat first | rw [if_pos (by exact gz_m 31 (by omega))] | rw [if_neg (by exact gz_m 32 (by omega))]); exact ⟨by exact gz_m 33 (by omega), by exact gz_m 34 (by omega)⟩)⟩)⟩⟩
        have f127 := (gr_b_0_119 hI61)
        have f128 := (gr_b_0_120 hI61)
        refine gv_run 6 true hD (pc' := 90) (lv' := [(0, .inr (.inr (some 0))), (1, .inl a1)]) (st' := [.inl (I61 0 120), .inl (I61 0 119), .inr (.inr (some 71))]) (h' := gr_h I61 J62) (C := ((((((True ∧ True) ∧ True) ∧ True) ∧ True) ∧ True) ∧ True)) rfl ⟨⟨⟨⟨⟨⟨trivial, trivial⟩, trivial⟩, trivial⟩, trivial⟩, trivial⟩, trivial⟩ ?_
        refine gv_run 1 true hD (pc' := 91) (lv' := [(0, .inr (.inr (some 0))), (1, .inl a1)]) (st' := []) (h' := gz_up (gr_h I61 J62) 71 (Int.toNat ((I61 0 119))) (.inl (I61 0 120))) (C := (True ∧ (0 ≤ (I61 0 119) ∧ (I61 0 119) < ((6 : Nat) : Int)))) rfl ⟨trivial, ⟨by exact gz_m 35 (by omega), by exact gz_m 36 (by omega)⟩⟩ ?_
        refine gr_st hI61 FI61 rfl rfl ⟨⟨by show 0 ≤ _; exact gz_m 37 (by omega), by show _ ≤ 6; exact gz_m 38 (by omega)⟩, trivial⟩ (fun I129 hI129 FI129 q130 p130 => ?_)
        have t131 := p130 0 71 (fun q => absurd q.1 (by decide))
        have t132 := p130 0 72 (fun q => absurd q.1 (by decide))
        have t133 := p130 0 73 (fun q => absurd q.1 (by decide))
        have t134 := p130 0 69 (fun q => absurd q.1 (by decide))
        have t135 := p130 0 6 (fun q => absurd q.1 (by decide))
        have t136 := p130 0 119 (fun q => absurd q.1 (by decide))
        have t137 := p130 0 118 (fun q => absurd q.1 (by decide))
        have t138 := p130 0 120 (fun q => absurd q.1 (by decide))
        have f139 := (gr_b_0_71 hI129)
        have f140 := (gr_b_0_72 hI129)
        have f141 := (gr_b_0_73 hI129)
        have f142 := (gr_b_0_69 hI129)
        have f143 := (gr_b_0_6 hI129)
        have f144 := (gr_b_0_119 hI129)
        have f145 := (gr_b_0_118 hI129)
        have f146 := (gr_b_0_120 hI129)
        have A147 := gr_ATp_sr e3_63 p130 rfl
        refine gv_run 2 true hD (pc' := 93) (lv' := [(0, .inr (.inr (some 0))), (1, .inl a1)]) (st' := [.inl a1, .inr (.inr (some 0))]) (h' := gr_h I129 J62) (C := ((True ∧ True) ∧ True)) rfl ⟨⟨trivial, trivial⟩, trivial⟩ ?_
        obtain ⟨r148, h148, E148, P148⟩ := r_argumentOf_p (ws0 := ws0) (tb := tb) hws htb ext β N9 p_63 I129 J62 hI129 a1 ⟨by exact gz_m 39 (by omega), by exact gz_m 40 (by omega)⟩ (gr_ATp_rr A147).1 (gr_ATp_rr A147).2.1 (gr_ATp_rr A147).2.2.1 (gr_ATp_rr A147).2.2.2.1 (gr_ATp_rr A147).2.2.2.2 A147 (by exact gz_m 41 (by omega))
        obtain ⟨I149, J150, rfl, hI149, g148, k148, ⟨z148, rfl, q148⟩⟩ := P148
        have FI149 := gr_frt FI129 g148 rfl rfl
        have FJ150 := gr_fjt FJ62 k148 rfl rfl
        have t151 := g148 0 69 rfl
        have t152 := g148 0 6 rfl
        have t153 := g148 0 119 rfl
        have t154 := g148 0 118 rfl
        have f155 := (gr_b_0_71 hI149)
        have f156 := (gr_b_0_72 hI149)
        have f157 := (gr_b_0_73 hI149)
        have f158 := (gr_b_0_69 hI149)
        have f159 := (gr_b_0_6 hI149)
        have f160 := (gr_b_0_119 hI149)
        have f161 := (gr_b_0_118 hI149)
        have f162 := (gr_b_0_120 hI149)
        refine gv_callV hD rfl (As := [.inl a1]) (st := []) rfl (by decide) rfl rfl (gr_lV hws rfl) (Nat.le_of_ble_eq_true rfl) (gz_Ev_mono (d := 11) (by decide) E148) ?_
        show gv_X _ _ (96, [(0, .inr (.inr (some 0))), (1, .inl a1)], [.inl z148], gr_sh ++ ext, gr_h I149 J150)
        refine gv_if_ne (t := 101) hD rfl rfl ⟨by exact gz_m 42 (by omega), by exact gz_m 43 (by omega)⟩ (fun c163 => ?_) (fun c163 => ?_)
        · have Q164 := q148.2.2.2.2.2.2.2.2.2.2
          rw [(show gs_ao β N9 (I129 6 (Int.toNat a1)) (gs_a4 (I129 74)) p_63 = gs_ao β N9 (I 6 (Int.toNat a1)) (gs_a4 (I 74)) p_63 from by rw [(FI129 6 (Int.toNat a1) rfl), gs_a4_eq (fun j => (FI129 74 j rfl))])] at Q164
          obtain ⟨u164, A164⟩ := gs_or1 Q164 (by exact gz_m 44 (by omega))
          have t165 := gr_ATp_l A164
          obtain ⟨_, _, -, _, -, -, _, _, _, _, -⟩ := q148
          refine gv_pick [0] rfl ?_
          exact L101 I149 J150 ((gs_ao β N9 (I 6 (Int.toNat a1)) (gs_a4 (I 74)) p_63)) hI149 FI149 FJ150 (by exact gz_m 45 (by omega)) (gr_R1_fr (gr_R1_s e1_63 (fun k => p130 68 k (fun q => absurd q.1 (by decide))) (fun k => p130 74 k (fun q => absurd q.1 (by decide))) (fun k => p130 6 k (fun q => absurd q.1 (by decide))) (fun k hk => p130 70 k (fun q => hk (q.2.trans (by exact gz_m 46 (by omega))))) (fun k hk => p130 71 k (fun q => hk (q.2.trans (by exact gz_m 47 (by omega))))) (p130 0 118 (fun q => absurd q.1 (by decide))) (p130 0 119 (fun q => absurd q.1 (by decide)))) (fun k => g148 68 k rfl) (fun k => g148 74 k rfl) (fun k => g148 6 k rfl) (fun k => g148 70 k rfl) (fun k => g148 71 k rfl) (g148 0 118 rfl) (g148 0 119 rfl)) (gr_S3a_fr (gr_S3a_st q130 (by exact gz_m 48 (by omega)) (by exact gz_m 49 (by omega))) (fun k => g148 71 k rfl) (g148 0 119 rfl)) A164 (by rw [e4_63]; unfold gs_sa1; (repeat first | rw [if_pos (by exact gz_m 50 (by omega))] | rw [if_neg (by exact gz_m 51 (by omega))])) (((g148 0 119 rfl).trans (p130 0 119 (fun q => absurd q.1 (by decide)))).trans (e5_63))
        · have Q166 := q148.2.2.2.2.2.2.2.2.2.2
          rw [(show gs_ao β N9 (I129 6 (Int.toNat a1)) (gs_a4 (I129 74)) p_63 = gs_ao β N9 (I 6 (Int.toNat a1)) (gs_a4 (I 74)) p_63 from by rw [(FI129 6 (Int.toNat a1) rfl), gs_a4_eq (fun j => (FI129 74 j rfl))])] at Q166
          obtain ⟨u166, u166_⟩ := gs_or0 Q166 (by exact gz_m 52 (by omega))
          refine gv_run 1 true hD (pc' := 100) (lv' := [(0, .inr (.inr (some 0))), (1, .inl a1)]) (st' := [.inl 0]) (h' := gr_h I149 J150) (C := (True ∧ True)) rfl ⟨trivial, trivial⟩ ?_
          have b167 : (I149 0 71 = 5 ∨ I149 0 73 ≤ I149 0 69) ∧ (I149 0 72 ≤ I149 0 69) ∧ (I149 0 71 = 0 ∨ (I149 0 72 < I149 0 73 ∧ I149 0 72 < I149 0 69)) ∧ (I149 0 71 = 3 → 2 ≤ I149 0 73 - I149 0 72 ∧ I149 0 73 - I149 0 72 ≤ 14) ∧ (I149 0 72 ≤ I149 0 73) ∧ (I149 0 69 = I 0 69) ∧ (I 0 73 ≤ I149 0 73) ∧ (I 0 72 ≤ I149 0 72) := by exact gz_m 53 (by omega)
          exact gv_zret hD rfl (by exact gz_m 54 (by omega)) ⟨I149, J150, rfl, hI149, FI149, FJ150, ⟨_, rfl, by exact gz_m 55 (by omega), by exact gz_m 56 (by omega), b167.1, b167.2.1, b167.2.2.1, b167.2.2.2.1, b167.2.2.2.2.1, b167.2.2.2.2.2.1, b167.2.2.2.2.2.2.1, b167.2.2.2.2.2.2.2, (gr_o_a (by exact gz_m 57 (by omega))), (Or.inr ⟨by exact gz_m 58 (by omega), by first | (exfalso; exact gz_m 59 (by omega)) | (rw [e4_63]; unfold gs_sa1 gs_sa2; (repeat first | rw [if_pos (by exact gz_m 60 (by omega))] | rw [if_neg (by exact gz_m 61 (by omega))]); exact ⟨by exact gz_m 62 (by omega), by exact gz_m 63 (by omega)⟩)⟩)⟩⟩
      have L155 : ∀ (I168 : gr_I) (J169 : gr_J) (p_170 : Int), gr_Inv I168 → gr_fr [71, 72, 73, 74, 75, 76, 77, 119, 120] [70, 71, 72, 73] I I168 → gr_fj [71, 72, 73, 74, 75, 76, 77, 119, 120] [70, 71, 72, 73] J J169 → ((I168 0 119 ≤ 5) ∧ (0 ≤ p_170) ∧ (I168 0 72 ≤ I168 0 69) ∧ (I168 0 72 ≤ I168 0 73) ∧ (I168 0 69 = I 0 69) ∧ (I 0 73 ≤ I168 0 73) ∧ (I 0 72 ≤ I168 0 72) ∧ (I168 0 6 = I 0 6)) → (gr_R1 a1 I168) → (gr_ATp β N9 p_170 I168 J169) → ((gs_said β N9 I J (I 6 (Int.toNat a1)) (I 0 119) (gs_a4 (I 74)) p9) = gs_sa2 β N9 I J p_170) → (I168 0 119 = I 0 119) → gv_X (gr_E ws0 tb 11 (yX13_said, cX13_said, 3, (some .boolean)) kX13_said) (gv_Q cX13_said (some .boolean) (gr_sh ++ ext) (fun r h' => (∃ (I' : gr_I) (J' : gr_J), h' = gr_h I' J' ∧ gr_Inv I' ∧ gr_fr [71, 72, 73, 74, 75, 76, 77, 119, 120] [70, 71, 72, 73] I I' ∧ gr_fj [71, 72, 73, 74, 75, 76, 77, 119, 120] [70, 71, 72, 73] J J' ∧ (∃ z : Int, r = some (.inl z) ∧ 0 ≤ z ∧ z ≤ 1 ∧ (I' 0 71 = 5 ∨ I' 0 73 ≤ I' 0 69) ∧ (I' 0 72 ≤ I' 0 69) ∧ (I' 0 71 = 0 ∨ (I' 0 72 < I' 0 73 ∧ I' 0 72 < I' 0 69)) ∧ (I' 0 71 = 3 → 2 ≤ I' 0 73 - I' 0 72 ∧ I' 0 73 - I' 0 72 ≤ 14) ∧ (I' 0 72 ≤ I' 0 73) ∧ (I' 0 69 = I 0 69) ∧ (I 0 73 ≤ I' 0 73) ∧ (I 0 72 ≤ I' 0 72) ∧ (gr_o (z = 0) (gr_R1 a1 I')) ∧ (gs_Or z (0 ≤ (gs_said β N9 I J (I 6 (Int.toNat a1)) (I 0 119) (gs_a4 (I 74)) p9) ∧ gr_ATp β N9 (gs_said β N9 I J (I 6 (Int.toNat a1)) (I 0 119) (gs_a4 (I 74)) p9) I' J' ∧ I' 0 119 = I 0 119 + 1) ((gs_said β N9 I J (I 6 (Int.toNat a1)) (I 0 119) (gs_a4 (I 74)) p9) < 0 ∧ I' 0 77 = -1 - (gs_said β N9 I J (I 6 (Int.toNat a1)) (I 0 119) (gs_a4 (I 74)) p9))))))) (155, [(0, .inr (.inr (some 0)))], [], gr_sh ++ ext, gr_h I168 J169) := by
        intro I168 J169 p_170 hI168 FI168 FJ169 m_170 e1_170 e3_170 e4_170 e5_170
        clear ha1_19 e0_19 e1_19 e3_19 e7_19 e8_19 e9_19 e10_19 e11_19 e12_19 f20 f21 f22 f23 f24 f25 f26 f27 t28 ha1_9 e0_9 e1_9 e3_9 e7_9 e8_9 e9_9 e10_9 e11_9 e12_9 f10 f11 f12 f13 f14 f15 f16 f17 t18
        obtain ⟨e0_170, e2_170, e6_170, e7_170, e8_170, e9_170, e10_170, e11_170⟩ := m_170
        have f171 := (gr_b_0_71 hI168)
        have f172 := (gr_b_0_72 hI168)
        have f173 := (gr_b_0_73 hI168)
        have f174 := (gr_b_0_69 hI168)
        have f175 := (gr_b_0_6 hI168)
        have f176 := (gr_b_0_119 hI168)
        have f177 := (gr_b_0_118 hI168)
        have f178 := (gr_b_0_120 hI168)
        have t179 := gr_ATp_l e3_170
        have f180 := (gr_b_0_119 hI168)
        have f181 := (gr_b_0_120 hI168)
        refine gv_run 6 true hD (pc' := 167) (lv' := [(0, .inr (.inr (some 0)))]) (st' := [.inl (I168 0 120), .inl (I168 0 119), .inr (.inr (some 71))]) (h' := gr_h I168 J169) (C := ((((((True ∧ True) ∧ True) ∧ True) ∧ True) ∧ True) ∧ True)) rfl ⟨⟨⟨⟨⟨⟨trivial, trivial⟩, trivial⟩, trivial⟩, trivial⟩, trivial⟩, trivial⟩ ?_
        refine gv_run 1 true hD (pc' := 168) (lv' := [(0, .inr (.inr (some 0)))]) (st' := []) (h' := gz_up (gr_h I168 J169) 71 (Int.toNat ((I168 0 119))) (.inl (I168 0 120))) (C := (True ∧ (0 ≤ (I168 0 119) ∧ (I168 0 119) < ((6 : Nat) : Int)))) rfl ⟨trivial, ⟨by exact gz_m 64 (by omega), by exact gz_m 65 (by omega)⟩⟩ ?_
        refine gr_st hI168 FI168 rfl rfl ⟨⟨by show 0 ≤ _; exact gz_m 66 (by omega), by show _ ≤ 6; exact gz_m 67 (by omega)⟩, trivial⟩ (fun I182 hI182 FI182 q183 p183 => ?_)
        have t184 := p183 0 71 (fun q => absurd q.1 (by decide))
        have t185 := p183 0 72 (fun q => absurd q.1 (by decide))
        have t186 := p183 0 73 (fun q => absurd q.1 (by decide))
        have t187 := p183 0 69 (fun q => absurd q.1 (by decide))
        have t188 := p183 0 6 (fun q => absurd q.1 (by decide))
        have t189 := p183 0 119 (fun q => absurd q.1 (by decide))
        have t190 := p183 0 118 (fun q => absurd q.1 (by decide))
        have t191 := p183 0 120 (fun q => absurd q.1 (by decide))
        have f192 := (gr_b_0_71 hI182)
        have f193 := (gr_b_0_72 hI182)
        have f194 := (gr_b_0_73 hI182)
        have f195 := (gr_b_0_69 hI182)
        have f196 := (gr_b_0_6 hI182)
        have f197 := (gr_b_0_119 hI182)
        have f198 := (gr_b_0_118 hI182)
        have f199 := (gr_b_0_120 hI182)
        have A200 := gr_ATp_sr e3_170 p183 rfl
        refine gv_run 1 true hD (pc' := 169) (lv' := [(0, .inr (.inr (some 0)))]) (st' := [.inr (.inr (some 0))]) (h' := gr_h I182 J169) (C := (True ∧ True)) rfl ⟨trivial, trivial⟩ ?_
        obtain ⟨r201, h201, E201, P201⟩ := r_featureOf_p (ws0 := ws0) (tb := tb) hws htb ext β N9 p_170 I182 J169 hI182   (gr_ATp_rr A200).1 (gr_ATp_rr A200).2.1 (gr_ATp_rr A200).2.2.1 (gr_ATp_rr A200).2.2.2.1 (gr_ATp_rr A200).2.2.2.2 (by exact gz_m 68 (by omega)) (by exact gz_m 69 (by omega)) A200 (by exact gz_m 70 (by omega))
        obtain ⟨I202, J203, rfl, hI202, g201, k201, ⟨z201, rfl, q201⟩⟩ := P201
        have FI202 := gr_frt FI182 g201 rfl rfl
        have FJ203 := gr_fjt FJ169 k201 rfl rfl
        have t204 := g201 0 69 rfl
        have t205 := g201 0 6 rfl
        have t206 := g201 0 119 rfl
        have t207 := g201 0 118 rfl
        have t208 := g201 0 120 rfl
        have f209 := (gr_b_0_71 hI202)
        have f210 := (gr_b_0_72 hI202)
        have f211 := (gr_b_0_73 hI202)
        have f212 := (gr_b_0_69 hI202)
        have f213 := (gr_b_0_6 hI202)
        have f214 := (gr_b_0_119 hI202)
        have f215 := (gr_b_0_118 hI202)
        have f216 := (gr_b_0_120 hI202)
        refine gv_callV hD rfl (As := []) (st := []) rfl (by decide) rfl rfl (gr_lV hws rfl) (Nat.le_of_ble_eq_true rfl) (gz_Ev_mono (d := 11) (by decide) E201) ?_
        show gv_X _ _ (172, [(0, .inr (.inr (some 0)))], [.inl z201], gr_sh ++ ext, gr_h I202 J203)
        refine gv_if_ne (t := 284) hD rfl rfl ⟨by exact gz_m 71 (by omega), by exact gz_m 72 (by omega)⟩ (fun c217 => ?_) (fun c217 => ?_)
        · have Q218 := q201.2.2.2.2.2.2.2.2.2.2
          rw [gs_fo_eq (FI182 0 6 rfl) (fun k => (FI182 13 k rfl)) (fun k => (FJ169 20 k rfl))] at Q218
          obtain ⟨u218, A218⟩ := gs_or1 Q218 (by exact gz_m 73 (by omega))
          have t219 := gr_ATp_l A218
          obtain ⟨_, _, -, _, -, -, _, _, _, _, -⟩ := q201
          exact L284 I202 J203 (gs_fo β N9 I J p_170) hI202 FI202 FJ203 (by exact gz_m 74 (by omega)) (gr_R1_fr (gr_R1_s e1_170 (fun k => p183 68 k (fun q => absurd q.1 (by decide))) (fun k => p183 74 k (fun q => absurd q.1 (by decide))) (fun k => p183 6 k (fun q => absurd q.1 (by decide))) (fun k hk => p183 70 k (fun q => hk (q.2.trans (by exact gz_m 75 (by omega))))) (fun k hk => p183 71 k (fun q => hk (q.2.trans (by exact gz_m 76 (by omega))))) (p183 0 118 (fun q => absurd q.1 (by decide))) (p183 0 119 (fun q => absurd q.1 (by decide)))) (fun k => g201 68 k rfl) (fun k => g201 74 k rfl) (fun k => g201 6 k rfl) (fun k => g201 70 k rfl) (fun k => g201 71 k rfl) (g201 0 118 rfl) (g201 0 119 rfl)) (Or.inr (gr_S3a_fr (gr_S3a_st q183 (by exact gz_m 77 (by omega)) (by exact gz_m 78 (by omega))) (fun k => g201 71 k rfl) (g201 0 119 rfl))) A218 (by rw [e4_170]; unfold gs_sa2; (repeat first | rw [if_pos (by exact gz_m 79 (by omega))] | rw [if_neg (by exact gz_m 80 (by omega))])) (((g201 0 119 rfl).trans (p183 0 119 (fun q => absurd q.1 (by decide)))).trans (e5_170))
        · have Q220 := q201.2.2.2.2.2.2.2.2.2.2
          rw [gs_fo_eq (FI182 0 6 rfl) (fun k => (FI182 13 k rfl)) (fun k => (FJ169 20 k rfl))] at Q220
          obtain ⟨u220, u220_⟩ := gs_or0 Q220 (by exact gz_m 81 (by omega))
          refine gv_run 1 true hD (pc' := 176) (lv' := [(0, .inr (.inr (some 0)))]) (st' := [.inl 0]) (h' := gr_h I202 J203) (C := (True ∧ True)) rfl ⟨trivial, trivial⟩ ?_
          have b221 : (I202 0 71 = 5 ∨ I202 0 73 ≤ I202 0 69) ∧ (I202 0 72 ≤ I202 0 69) ∧ (I202 0 71 = 0 ∨ (I202 0 72 < I202 0 73 ∧ I202 0 72 < I202 0 69)) ∧ (I202 0 71 = 3 → 2 ≤ I202 0 73 - I202 0 72 ∧ I202 0 73 - I202 0 72 ≤ 14) ∧ (I202 0 72 ≤ I202 0 73) ∧ (I202 0 69 = I 0 69) ∧ (I 0 73 ≤ I202 0 73) ∧ (I 0 72 ≤ I202 0 72) := by exact gz_m 82 (by omega)
          exact gv_zret hD rfl (by exact gz_m 83 (by omega)) ⟨I202, J203, rfl, hI202, FI202, FJ203, ⟨_, rfl, by exact gz_m 84 (by omega), by exact gz_m 85 (by omega), b221.1, b221.2.1, b221.2.2.1, b221.2.2.2.1, b221.2.2.2.2.1, b221.2.2.2.2.2.1, b221.2.2.2.2.2.2.1, b221.2.2.2.2.2.2.2, (gr_o_a (by exact gz_m 86 (by omega))), (Or.inr ⟨by exact gz_m 87 (by omega), by first | (exfalso; exact gz_m 88 (by omega)) | (rw [e4_170]; unfold gs_sa2; (repeat first | rw [if_pos (by exact gz_m 89 (by omega))] | rw [if_neg (by exact gz_m 90 (by omega))]); exact ⟨by exact gz_m 91 (by omega), by exact gz_m 92 (by omega)⟩)⟩)⟩⟩
      have L186 : ∀ (I222 : gr_I) (J223 : gr_J) (p_224 : Int), gr_Inv I222 → gr_fr [71, 72, 73, 74, 75, 76, 77, 119, 120] [70, 71, 72, 73] I I222 → gr_fj [71, 72, 73, 74, 75, 76, 77, 119, 120] [70, 71, 72, 73] J J223 → ((I222 0 119 ≤ 5) ∧ (I222 0 71 = 1) ∧ (0 ≤ p_224) ∧ (I222 0 72 ≤ I222 0 69) ∧ (I222 0 72 ≤ I222 0 73) ∧ (I222 0 69 = I 0 69) ∧ (I 0 73 ≤ I222 0 73) ∧ (I 0 72 ≤ I222 0 72) ∧ (I222 0 6 = I 0 6)) → (gr_R1 a1 I222) → (gr_ATp β N9 p_224 I222 J223) → ((gs_said β N9 I J (I 6 (Int.toNat a1)) (I 0 119) (gs_a4 (I 74)) p9) = gs_sv β N9 I J p_224) → (I222 0 119 = I 0 119) → gv_X (gr_E ws0 tb 11 (yX13_said, cX13_said, 3, (some .boolean)) kX13_said) (gv_Q cX13_said (some .boolean) (gr_sh ++ ext) (fun r h' => (∃ (I' : gr_I) (J' : gr_J), h' = gr_h I' J' ∧ gr_Inv I' ∧ gr_fr [71, 72, 73, 74, 75, 76, 77, 119, 120] [70, 71, 72, 73] I I' ∧ gr_fj [71, 72, 73, 74, 75, 76, 77, 119, 120] [70, 71, 72, 73] J J' ∧ (∃ z : Int, r = some (.inl z) ∧ 0 ≤ z ∧ z ≤ 1 ∧ (I' 0 71 = 5 ∨ I' 0 73 ≤ I' 0 69) ∧ (I' 0 72 ≤ I' 0 69) ∧ (I' 0 71 = 0 ∨ (I' 0 72 < I' 0 73 ∧ I' 0 72 < I' 0 69)) ∧ (I' 0 71 = 3 → 2 ≤ I' 0 73 - I' 0 72 ∧ I' 0 73 - I' 0 72 ≤ 14) ∧ (I' 0 72 ≤ I' 0 73) ∧ (I' 0 69 = I 0 69) ∧ (I 0 73 ≤ I' 0 73) ∧ (I 0 72 ≤ I' 0 72) ∧ (gr_o (z = 0) (gr_R1 a1 I')) ∧ (gs_Or z (0 ≤ (gs_said β N9 I J (I 6 (Int.toNat a1)) (I 0 119) (gs_a4 (I 74)) p9) ∧ gr_ATp β N9 (gs_said β N9 I J (I 6 (Int.toNat a1)) (I 0 119) (gs_a4 (I 74)) p9) I' J' ∧ I' 0 119 = I 0 119 + 1) ((gs_said β N9 I J (I 6 (Int.toNat a1)) (I 0 119) (gs_a4 (I 74)) p9) < 0 ∧ I' 0 77 = -1 - (gs_said β N9 I J (I 6 (Int.toNat a1)) (I 0 119) (gs_a4 (I 74)) p9))))))) (186, [(0, .inr (.inr (some 0)))], [], gr_sh ++ ext, gr_h I222 J223) := by
        intro I222 J223 p_224 hI222 FI222 FJ223 m_224 e2_224 e4_224 e5_224 e6_224
        clear ha1_19 e0_19 e1_19 e3_19 e7_19 e8_19 e9_19 e10_19 e11_19 e12_19 f20 f21 f22 f23 f24 f25 f26 f27 t28 ha1_9 e0_9 e1_9 e3_9 e7_9 e8_9 e9_9 e10_9 e11_9 e12_9 f10 f11 f12 f13 f14 f15 f16 f17 t18
        obtain ⟨e0_224, e1_224, e3_224, e7_224, e8_224, e9_224, e10_224, e11_224, e12_224⟩ := m_224
        have f225 := (gr_b_0_71 hI222)
        have f226 := (gr_b_0_72 hI222)
        have f227 := (gr_b_0_73 hI222)
        have f228 := (gr_b_0_69 hI222)
        have f229 := (gr_b_0_6 hI222)
        have f230 := (gr_b_0_119 hI222)
        have f231 := (gr_b_0_118 hI222)
        have f232 := (gr_b_0_120 hI222)
        have t233 := gr_ATp_l e4_224
        have f234 := (gr_b_0_6 hI222)
        refine gv_run 7 true hD (pc' := 198) (lv' := [(0, .inr (.inr (some 0)))]) (st' := [.inr (.inr (some 0)), .inl (48 * (I222 0 6)), .inr (.inr (some 21))]) (h' := gr_h I222 J223) (C := (((((((True ∧ True) ∧ True) ∧ True) ∧ True) ∧ True) ∧ True) ∧ True)) rfl ⟨⟨⟨⟨⟨⟨⟨trivial, trivial⟩, trivial⟩, trivial⟩, trivial⟩, trivial⟩, trivial⟩, trivial⟩ ?_
        have f235 := (gr_b_0_6 hI222)
        have f236 := (gr_b_14 hI222 (Int.toNat ((I222 0 6))))
        refine gv_run 4 true hD (pc' := 206) (lv' := [(0, .inr (.inr (some 0)))]) (st' := [.inl (I222 14 (Int.toNat ((I222 0 6)))), .inl (48 * (I222 0 6)), .inr (.inr (some 21))]) (h' := gr_h I222 J223) (C := ((((True ∧ True) ∧ True) ∧ True) ∧ (0 ≤ (I222 0 6) ∧ (I222 0 6) < ((8 : Nat) : Int)))) rfl ⟨⟨⟨⟨trivial, trivial⟩, trivial⟩, trivial⟩, ⟨by exact gz_m 93 (by omega), by exact gz_m 94 (by omega)⟩⟩ ?_
        refine gv_run 2 true hD (pc' := 210) (lv' := [(0, .inr (.inr (some 0)))]) (st' := [.inr (.inl (J223 0 75)), .inl (I222 14 (Int.toNat ((I222 0 6)))), .inl (48 * (I222 0 6)), .inr (.inr (some 21))]) (h' := gr_h I222 J223) (C := ((True ∧ True) ∧ True)) rfl ⟨⟨trivial, trivial⟩, trivial⟩ ?_
        obtain ⟨r237, h237, E237, P237⟩ := r_find_21_p (ws0 := ws0) (tb := tb) hws htb ext I222 J223 hI222 ((48 * (I222 0 6))) ((I222 14 (Int.toNat ((I222 0 6))))) (J223 0 75) ⟨by exact gz_m 95 (by omega), by exact gz_m 96 (by omega)⟩ ⟨by exact gz_m 97 (by omega), by exact gz_m 98 (by omega)⟩ (by exact gz_m 99 (by omega))
        obtain ⟨rfl, ⟨z237, rfl, q237⟩⟩ := P237
        have t238 := q237.2.2.2.trans (gs_lt_eq (J := J) (row := 21) (o := 48 * I 0 6) (n := I 14 (Int.toNat (I 0 6))) (w := gs_rn β N9 p_224) (fun k => (FJ223 21 k rfl)) (by exact gz_m 100 (by omega)) (by first | exact (FI222 14 _ rfl) | (rw [show ((I222 0 6)) = I 0 6 from by exact gz_m 101 (by omega)]; exact (FI222 14 _ rfl))) (gr_ATp_w e4_224))
        refine gv_callS hD rfl (As := [.inr (.inr (some 21)), .inl (48 * (I222 0 6)), .inl (I222 14 (Int.toNat ((I222 0 6)))), .inr (.inl (J223 0 75))]) (st := []) rfl (gr_lS hws rfl) (Nat.le_of_ble_eq_true rfl) (gz_Ev_mono (d := 1) (by decide) E237) ?_
        show gv_X _ _ (213, [(0, .inr (.inr (some 0)))], [.inl z237], gr_sh ++ ext, gr_h I222 J223)
        refine gv_run 2 true hD (pc' := 215) (lv' := [(2, .inl z237), (0, .inr (.inr (some 0)))]) (st' := [.inl z237]) (h' := gr_h I222 J223) (C := ((True ∧ True) ∧ True)) rfl ⟨⟨trivial, trivial⟩, trivial⟩ ?_
        refine gv_if_ge (t := 224) hD rfl rfl ⟨by exact gz_m 102 (by omega), by exact gz_m 103 (by omega)⟩ (fun c239 => ?_) (fun c239 => ?_)
        · have f240 := (gr_b_0_119 hI222)
          refine gv_run 5 true hD (pc' := 233) (lv' := [(2, .inl z237), (0, .inr (.inr (some 0)))]) (st' := [.inl 2, .inl (I222 0 119), .inr (.inr (some 70))]) (h' := gr_h I222 J223) (C := (((((True ∧ True) ∧ True) ∧ True) ∧ True) ∧ True)) rfl ⟨⟨⟨⟨⟨trivial, trivial⟩, trivial⟩, trivial⟩, trivial⟩, trivial⟩ ?_
          refine gv_run 1 true hD (pc' := 234) (lv' := [(2, .inl z237), (0, .inr (.inr (some 0)))]) (st' := []) (h' := gz_up (gr_h I222 J223) 70 (Int.toNat ((I222 0 119))) (.inl 2)) (C := (True ∧ (0 ≤ (I222 0 119) ∧ (I222 0 119) < ((6 : Nat) : Int)))) rfl ⟨trivial, ⟨by exact gz_m 104 (by omega), by exact gz_m 105 (by omega)⟩⟩ ?_
          refine gr_st hI222 FI222 rfl rfl ⟨⟨by show 0 ≤ _; exact gz_m 106 (by omega), by show _ ≤ 2; exact gz_m 107 (by omega)⟩, trivial⟩ (fun I241 hI241 FI241 q242 p242 => ?_)
          have t243 := p242 0 71 (fun q => absurd q.1 (by decide))
          have t244 := p242 0 72 (fun q => absurd q.1 (by decide))
          have t245 := p242 0 73 (fun q => absurd q.1 (by decide))
          have t246 := p242 0 69 (fun q => absurd q.1 (by decide))
          have t247 := p242 0 6 (fun q => absurd q.1 (by decide))
          have t248 := p242 0 119 (fun q => absurd q.1 (by decide))
          have t249 := p242 0 118 (fun q => absurd q.1 (by decide))
          have t250 := p242 0 120 (fun q => absurd q.1 (by decide))
          have f251 := (gr_b_0_71 hI241)
          have f252 := (gr_b_0_72 hI241)
          have f253 := (gr_b_0_73 hI241)
          have f254 := (gr_b_0_69 hI241)
          have f255 := (gr_b_0_6 hI241)
          have f256 := (gr_b_0_119 hI241)
          have f257 := (gr_b_0_118 hI241)
          have f258 := (gr_b_0_120 hI241)
          have A259 := gr_ATp_sr e4_224 p242 rfl
          have f260 := (gr_b_0_119 hI241)
          refine gv_run 7 true hD (pc' := 248) (lv' := [(2, .inl z237), (0, .inr (.inr (some 0)))]) (st' := [.inl 48, .inr (.inr (some 24)), .inl (I241 0 119), .inr (.inr (some 73))]) (h' := gr_h I241 J223) (C := (((((((True ∧ True) ∧ True) ∧ True) ∧ True) ∧ True) ∧ True) ∧ True)) rfl ⟨⟨⟨⟨⟨⟨⟨trivial, trivial⟩, trivial⟩, trivial⟩, trivial⟩, trivial⟩, trivial⟩, trivial⟩ ?_
          have f261 := (gr_b_0_6 hI241)
          have f262 := (gr_b_24 hI241 (Int.toNat (((48 * (I241 0 6)) + z237))))
          refine gv_run 6 true hD (pc' := 256) (lv' := [(2, .inl z237), (0, .inr (.inr (some 0)))]) (st' := [.inl (I241 24 (Int.toNat (((48 * (I241 0 6)) + z237)))), .inl (I241 0 119), .inr (.inr (some 73))]) (h' := gr_h I241 J223) (C := ((((((True ∧ True) ∧ True) ∧ True) ∧ True) ∧ True) ∧ (0 ≤ (((48 * (I241 0 6)) + z237)) ∧ (((48 * (I241 0 6)) + z237)) < ((384 : Nat) : Int)))) rfl ⟨⟨⟨⟨⟨⟨trivial, trivial⟩, trivial⟩, trivial⟩, trivial⟩, trivial⟩, ⟨by exact gz_m 108 (by omega), by exact gz_m 109 (by omega)⟩⟩ ?_
          refine gv_run 1 true hD (pc' := 257) (lv' := [(2, .inl z237), (0, .inr (.inr (some 0)))]) (st' := []) (h' := gz_up (gr_h I241 J223) 73 (Int.toNat ((I241 0 119))) (.inl ((I241 24 (Int.toNat (((48 * (I241 0 6)) + z237))))))) (C := (True ∧ (0 ≤ (I241 0 119) ∧ (I241 0 119) < ((6 : Nat) : Int)))) rfl ⟨trivial, ⟨by exact gz_m 110 (by omega), by exact gz_m 111 (by omega)⟩⟩ ?_
          refine gr_st hI241 FI241 rfl rfl ⟨⟨by show 0 ≤ _; exact gz_m 112 (by omega), by show _ ≤ 7; exact gz_m 113 (by omega)⟩, trivial⟩ (fun I263 hI263 FI263 q264 p264 => ?_)
          have t265 := p264 0 71 (fun q => absurd q.1 (by decide))
          have t266 := p264 0 72 (fun q => absurd q.1 (by decide))
          have t267 := p264 0 73 (fun q => absurd q.1 (by decide))
          have t268 := p264 0 69 (fun q => absurd q.1 (by decide))
          have t269 := p264 0 6 (fun q => absurd q.1 (by decide))
          have t270 := p264 0 119 (fun q => absurd q.1 (by decide))
          have t271 := p264 0 118 (fun q => absurd q.1 (by decide))
          have t272 := p264 0 120 (fun q => absurd q.1 (by decide))
          have f273 := (gr_b_0_71 hI263)
          have f274 := (gr_b_0_72 hI263)
          have f275 := (gr_b_0_73 hI263)
          have f276 := (gr_b_0_69 hI263)
          have f277 := (gr_b_0_6 hI263)
          have f278 := (gr_b_0_119 hI263)
          have f279 := (gr_b_0_118 hI263)
          have f280 := (gr_b_0_120 hI263)
          have A281 := gr_ATp_sr A259 p264 rfl
          have f282 := (gr_b_0_119 hI263)
          refine gv_run 7 true hD (pc' := 271) (lv' := [(2, .inl z237), (0, .inr (.inr (some 0)))]) (st' := [.inl 48, .inr (.inr (some 25)), .inl (I263 0 119), .inr (.inr (some 71))]) (h' := gr_h I263 J223) (C := (((((((True ∧ True) ∧ True) ∧ True) ∧ True) ∧ True) ∧ True) ∧ True)) rfl ⟨⟨⟨⟨⟨⟨⟨trivial, trivial⟩, trivial⟩, trivial⟩, trivial⟩, trivial⟩, trivial⟩, trivial⟩ ?_
          have f283 := (gr_b_0_6 hI263)
          have f284 := (gr_b_25 hI263 (Int.toNat (((48 * (I263 0 6)) + z237))))
          refine gv_run 6 true hD (pc' := 279) (lv' := [(2, .inl z237), (0, .inr (.inr (some 0)))]) (st' := [.inl (I263 25 (Int.toNat (((48 * (I263 0 6)) + z237)))), .inl (I263 0 119), .inr (.inr (some 71))]) (h' := gr_h I263 J223) (C := ((((((True ∧ True) ∧ True) ∧ True) ∧ True) ∧ True) ∧ (0 ≤ (((48 * (I263 0 6)) + z237)) ∧ (((48 * (I263 0 6)) + z237)) < ((384 : Nat) : Int)))) rfl ⟨⟨⟨⟨⟨⟨trivial, trivial⟩, trivial⟩, trivial⟩, trivial⟩, trivial⟩, ⟨by exact gz_m 114 (by omega), by exact gz_m 115 (by omega)⟩⟩ ?_
          refine gv_run 1 true hD (pc' := 280) (lv' := [(2, .inl z237), (0, .inr (.inr (some 0)))]) (st' := []) (h' := gz_up (gr_h I263 J223) 71 (Int.toNat ((I263 0 119))) (.inl ((I263 25 (Int.toNat (((48 * (I263 0 6)) + z237))))))) (C := (True ∧ (0 ≤ (I263 0 119) ∧ (I263 0 119) < ((6 : Nat) : Int)))) rfl ⟨trivial, ⟨by exact gz_m 116 (by omega), by exact gz_m 117 (by omega)⟩⟩ ?_
          refine gr_st hI263 FI263 rfl rfl ⟨⟨by show 0 ≤ _; exact gz_m 118 (by omega), by show _ ≤ 6; exact gz_m 119 (by omega)⟩, trivial⟩ (fun I285 hI285 FI285 q286 p286 => ?_)
          have t287 := p286 0 71 (fun q => absurd q.1 (by decide))
          have t288 := p286 0 72 (fun q => absurd q.1 (by decide))
          have t289 := p286 0 73 (fun q => absurd q.1 (by decide))
          have t290 := p286 0 69 (fun q => absurd q.1 (by decide))
          have t291 := p286 0 6 (fun q => absurd q.1 (by decide))
          have t292 := p286 0 119 (fun q => absurd q.1 (by decide))
          have t293 := p286 0 118 (fun q => absurd q.1 (by decide))
          have t294 := p286 0 120 (fun q => absurd q.1 (by decide))
          have f295 := (gr_b_0_71 hI285)
          have f296 := (gr_b_0_72 hI285)
          have f297 := (gr_b_0_73 hI285)
          have f298 := (gr_b_0_69 hI285)
          have f299 := (gr_b_0_6 hI285)
          have f300 := (gr_b_0_119 hI285)
          have f301 := (gr_b_0_118 hI285)
          have f302 := (gr_b_0_120 hI285)
          have A303 := gr_ATp_sr A281 p286 rfl
          refine gv_run 1 true hD (pc' := 281) (lv' := [(2, .inl z237), (0, .inr (.inr (some 0)))]) (st' := [.inr (.inr (some 0))]) (h' := gr_h I285 J223) (C := (True ∧ True)) rfl ⟨trivial, trivial⟩ ?_
          obtain ⟨r304, h304, E304, P304⟩ := r_next_p (ws0 := ws0) (tb := tb) hws htb ext β N9 I285 J223 hI285   ((gr_ATp_rr A303).1.resolve_left (by exact gz_m 120 (by omega))) A303.1.1 A303.1.2
          obtain ⟨I305, J306, rfl, hI305, g304, k304, ⟨rfl, q304⟩⟩ := P304
          have FI305 := gr_frt FI285 g304 rfl rfl
          have FJ306 := gr_fjt FJ223 k304 rfl rfl
          have t307 := g304 0 69 rfl
          have t308 := g304 0 6 rfl
          have t309 := g304 0 119 rfl
          have t310 := g304 0 118 rfl
          have t311 := g304 0 120 rfl
          have f312 := (gr_b_0_71 hI305)
          have f313 := (gr_b_0_72 hI305)
          have f314 := (gr_b_0_73 hI305)
          have f315 := (gr_b_0_69 hI305)
          have f316 := (gr_b_0_6 hI305)
          have f317 := (gr_b_0_119 hI305)
          have f318 := (gr_b_0_118 hI305)
          have f319 := (gr_b_0_120 hI305)
          have t320 := (gr_ATp_rr A303).2.2.1.resolve_left (by exact gz_m 121 (by omega))
          have A321 := gr_ATp_nx A303 q304.2.2.2.2.2
          have t322 := gr_ATp_l A321
          obtain ⟨_, _, -, -, -, -⟩ := q304
          refine gv_callV hD rfl (As := []) (st := []) rfl (by decide) rfl rfl (gr_lV hws rfl) (Nat.le_of_ble_eq_true rfl) (gz_Ev_mono (d := 10) (by decide) E304) ?_
          show gv_X _ _ (284, [(2, .inl z237), (0, .inr (.inr (some 0)))], [], gr_sh ++ ext, gr_h I305 J306)
          refine gv_pick [1] rfl ?_
          exact L284 I305 J306 (gs_X β N9 p_224) hI305 FI305 FJ306 (by exact gz_m 122 (by omega)) (gr_R1_fr (gr_R1_s (gr_R1_fr (gr_R1_s e2_224 (fun k => p242 68 k (fun q => absurd q.1 (by decide))) (fun k => p242 74 k (fun q => absurd q.1 (by decide))) (fun k => p242 6 k (fun q => absurd q.1 (by decide))) (fun k hk => p242 70 k (fun q => hk (q.2.trans (by exact gz_m 123 (by omega))))) (fun k hk => p242 71 k (fun q => hk (q.2.trans (by exact gz_m 124 (by omega))))) (p242 0 118 (fun q => absurd q.1 (by decide))) (p242 0 119 (fun q => absurd q.1 (by decide)))) (fun k => p264 68 k (fun q => absurd q.1 (by decide))) (fun k => p264 74 k (fun q => absurd q.1 (by decide))) (fun k => p264 6 k (fun q => absurd q.1 (by decide))) (fun k => p264 70 k (fun q => absurd q.1 (by decide))) (fun k => p264 71 k (fun q => absurd q.1 (by decide))) (p264 0 118 (fun q => absurd q.1 (by decide))) (p264 0 119 (fun q => absurd q.1 (by decide)))) (fun k => p286 68 k (fun q => absurd q.1 (by decide))) (fun k => p286 74 k (fun q => absurd q.1 (by decide))) (fun k => p286 6 k (fun q => absurd q.1 (by decide))) (fun k hk => p286 70 k (fun q => hk (q.2.trans (by exact gz_m 125 (by omega))))) (fun k hk => p286 71 k (fun q => hk (q.2.trans (by exact gz_m 126 (by omega))))) (p286 0 118 (fun q => absurd q.1 (by decide))) (p286 0 119 (fun q => absurd q.1 (by decide)))) (fun k => g304 68 k rfl) (fun k => g304 74 k rfl) (fun k => g304 6 k rfl) (fun k => g304 70 k rfl) (fun k => g304 71 k rfl) (g304 0 118 rfl) (g304 0 119 rfl)) (gr_S3_h (k := (Int.toNat ((I222 0 119)))) (z := 0) q242 (by rw [g304 70 _ rfl, p286 70 _ (fun q => absurd q.1 (by decide)), p264 70 _ (fun q => absurd q.1 (by decide))]) (by exact gz_m 127 (by omega))) A321 (by rw [e5_224]; unfold gs_sv gs_vl9; (repeat first | rw [if_pos (by exact gz_m 128 (by omega))] | rw [if_neg (by exact gz_m 129 (by omega))])) (((((g304 0 119 rfl).trans (p286 0 119 (fun q => absurd q.1 (by decide)))).trans (p264 0 119 (fun q => absurd q.1 (by decide)))).trans (p242 0 119 (fun q => absurd q.1 (by decide)))).trans (e6_224))
        · refine gv_run 2 true hD (pc' := 220) (lv' := [(2, .inl z237), (0, .inr (.inr (some 0)))]) (st' := [.inl 5, .inr (.inr (some 0))]) (h' := gr_h I222 J223) (C := ((True ∧ True) ∧ True)) rfl ⟨⟨trivial, trivial⟩, trivial⟩ ?_
          obtain ⟨r323, h323, E323, P323⟩ := r_no__p (ws0 := ws0) (tb := tb) hws htb ext β N9 p_224 I222 J223 hI222 5 ⟨by exact gz_m 130 (by omega), by exact gz_m 131 (by omega)⟩ e4_224 (by exact gz_m 132 (by omega))
          obtain ⟨I324, J325, rfl, hI324, g323, k323, ⟨z323, rfl, q323⟩⟩ := P323
          have FI324 := gr_frt FI222 g323 rfl rfl
          have FJ325 := gr_fjt FJ223 k323 rfl rfl
          have t326 := g323 0 71 rfl
          have t327 := g323 0 72 rfl
          have t328 := g323 0 73 rfl
          have t329 := g323 0 69 rfl
          have t330 := g323 0 6 rfl
          have t331 := g323 0 119 rfl
          have t332 := g323 0 118 rfl
          have t333 := g323 0 120 rfl
          have f334 := (gr_b_0_71 hI324)
          have f335 := (gr_b_0_72 hI324)
          have f336 := (gr_b_0_73 hI324)
          have f337 := (gr_b_0_69 hI324)
          have f338 := (gr_b_0_6 hI324)
          have f339 := (gr_b_0_119 hI324)
          have f340 := (gr_b_0_118 hI324)
          have f341 := (gr_b_0_120 hI324)
          have A342 := gr_ATp_F e4_224 g323 k323 rfl
          have t343 := gr_ATp_l A342
          refine gv_callV hD rfl (As := [.inl 5]) (st := []) rfl (by decide) rfl rfl (gr_lV hws rfl) (Nat.le_of_ble_eq_true rfl) (gz_Ev_mono (d := 2) (by decide) E323) ?_
          show gv_X _ _ (223, [(2, .inl z237), (0, .inr (.inr (some 0)))], [.inl z323], gr_sh ++ ext, gr_h I324 J325)
          have b344 : (I324 0 69 = I 0 69) ∧ (I 0 73 ≤ I324 0 73) ∧ (I 0 72 ≤ I324 0 72) := by exact gz_m 133 (by omega)
          exact gv_zret hD rfl (by exact gz_m 134 (by omega)) ⟨I324, J325, rfl, hI324, FI324, FJ325, ⟨_, rfl, by exact gz_m 135 (by omega), by exact gz_m 136 (by omega), (gr_ATp_rr A342).1, (gr_ATp_rr A342).2.1, (gr_ATp_rr A342).2.2.1, (gr_ATp_rr A342).2.2.2.1, (gr_ATp_rr A342).2.2.2.2, b344.1, b344.2.1, b344.2.2, (gr_o_a (by exact gz_m 137 (by omega))), (Or.inr ⟨by exact gz_m 138 (by omega), by first | (exfalso; exact gz_m 139 (by omega)) | (rw [e5_224]; unfold gs_sv gs_vl9; (repeat first | rw [if_pos (by exact gz_m 140 (by omega))] | rw [if_neg (by exact gz_m 141 (by omega))]); exact ⟨by exact gz_m 142 (by omega), by exact gz_m 143 (by omega)⟩)⟩)⟩⟩
      refine gv_run 3 true hD (pc' := 48) (lv' := [(0, .inr (.inr (some 0))), (1, .inl a1)]) (st' := [.inr (.inl (J 0 95)), .inr (.inr (some 0))]) (h' := gr_h I J) (C := (((True ∧ True) ∧ True) ∧ True)) rfl ⟨⟨⟨trivial, trivial⟩, trivial⟩, trivial⟩ ?_
      obtain ⟨r345, h345, E345, P345⟩ := r_is_p (ws0 := ws0) (tb := tb) hws htb ext β N9 p9 I J hI (J 0 95)  x7 (by exact gz_m 144 (by omega))
      obtain ⟨rfl, ⟨z345, rfl, q345⟩⟩ := P345
      have t346 := (show gs_kw β N9 p9 (J 0 95) = gs_kw β N9 p9 (gs_W 95) from by rw [show J 0 95 = gs_W 95 from KW 95 (by decide) (by decide)])
      obtain ⟨_, _, o345, _⟩ := q345
      refine gv_callV hD rfl (As := [.inr (.inl (J 0 95))]) (st := []) rfl (by decide) rfl rfl (gr_lV hws rfl) (Nat.le_of_ble_eq_true rfl) (gz_Ev_mono (d := 1) (by decide) E345) ?_
      show gv_X _ _ (51, [(0, .inr (.inr (some 0))), (1, .inl a1)], [.inl z345], gr_sh ++ ext, gr_h I J)
      refine gv_if_eq (t := 123) hD rfl rfl ⟨by exact gz_m 145 (by omega), by exact gz_m 146 (by omega)⟩ (fun c347 => ?_) (fun c347 => ?_)
      · clear o345
        refine gv_run 1 true hD (pc' := 124) (lv' := [(0, .inr (.inr (some 0))), (1, .inl a1)]) (st' := [.inr (.inr (some 0))]) (h' := gr_h I J) (C := (True ∧ True)) rfl ⟨trivial, trivial⟩ ?_
        obtain ⟨r348, h348, E348, P348⟩ := r_next_p (ws0 := ws0) (tb := tb) hws htb ext β N9 I J hI   ((gr_ATp_rr x7).1.resolve_left (by exact gz_m 147 (by omega))) x7.1.1 x7.1.2
        obtain ⟨I349, J350, rfl, hI349, g348, k348, ⟨rfl, q348⟩⟩ := P348
        have FI349 := gr_frt FI g348 rfl rfl
        have FJ350 := gr_fjt FJ k348 rfl rfl
        have t351 := g348 0 69 rfl
        have t352 := g348 0 6 rfl
        have t353 := g348 0 119 rfl
        have t354 := g348 0 118 rfl
        have t355 := g348 0 120 rfl
        have f356 := (gr_b_0_71 hI349)
        have f357 := (gr_b_0_72 hI349)
        have f358 := (gr_b_0_73 hI349)
        have f359 := (gr_b_0_69 hI349)
        have f360 := (gr_b_0_6 hI349)
        have f361 := (gr_b_0_119 hI349)
        have f362 := (gr_b_0_118 hI349)
        have f363 := (gr_b_0_120 hI349)
        have t364 := (gr_ATp_rr x7).2.2.1.resolve_left (by exact gz_m 148 (by omega))
        have A365 := gr_ATp_nx x7 q348.2.2.2.2.2
        have t366 := gr_ATp_l A365
        obtain ⟨_, _, -, -, -, -⟩ := q348
        refine gv_callV hD rfl (As := []) (st := []) rfl (by decide) rfl rfl (gr_lV hws rfl) (Nat.le_of_ble_eq_true rfl) (gz_Ev_mono (d := 10) (by decide) E348) ?_
        show gv_X _ _ (127, [(0, .inr (.inr (some 0))), (1, .inl a1)], [], gr_sh ++ ext, gr_h I349 J350)
        have f367 := (gr_b_0_71 hI349)
        refine gv_run 3 true hD (pc' := 132) (lv' := [(0, .inr (.inr (some 0))), (1, .inl a1)]) (st' := [.inl 2, .inl (I349 0 71)]) (h' := gr_h I349 J350) (C := (((True ∧ True) ∧ True) ∧ True)) rfl ⟨⟨⟨trivial, trivial⟩, trivial⟩, trivial⟩ ?_
        refine gv_icmp_ne (t := 177) hD rfl rfl ⟨⟨by exact gz_m 149 (by omega), by exact gz_m 150 (by omega)⟩, ⟨by exact gz_m 151 (by omega), by exact gz_m 152 (by omega)⟩⟩ (fun c368 => ?_) (fun c368 => ?_)
        · have t369 := gr_ATp_ne A365 (c := 2) (by exact gz_m 153 (by omega)) (by exact gz_m 154 (by omega))
          refine gv_run 1 true hD (pc' := 178) (lv' := [(0, .inr (.inr (some 0))), (1, .inl a1)]) (st' := [.inr (.inr (some 0))]) (h' := gr_h I349 J350) (C := (True ∧ True)) rfl ⟨trivial, trivial⟩ ?_
          obtain ⟨r370, h370, E370, P370⟩ := r_name_p (ws0 := ws0) (tb := tb) hws htb ext β N9 (gs_X β N9 p9) I349 J350 hI349   A365 (by exact gz_m 155 (by omega))
          obtain ⟨I371, J372, rfl, hI371, g370, k370, ⟨z370, rfl, q370⟩⟩ := P370
          have FI371 := gr_frt FI349 g370 rfl rfl
          have FJ372 := gr_fjt FJ350 k370 rfl rfl
          have t373 := g370 0 71 rfl
          have t374 := g370 0 72 rfl
          have t375 := g370 0 73 rfl
          have t376 := g370 0 69 rfl
          have t377 := g370 0 6 rfl
          have t378 := g370 0 119 rfl
          have t379 := g370 0 118 rfl
          have t380 := g370 0 120 rfl
          have f381 := (gr_b_0_71 hI371)
          have f382 := (gr_b_0_72 hI371)
          have f383 := (gr_b_0_73 hI371)
          have f384 := (gr_b_0_69 hI371)
          have f385 := (gr_b_0_6 hI371)
          have f386 := (gr_b_0_119 hI371)
          have f387 := (gr_b_0_118 hI371)
          have f388 := (gr_b_0_120 hI371)
          have V370 := gs_or_mk q370.2.2.2
          have A389 := gr_ATp_F A365 g370 k370 rfl
          have t390 := gr_ATp_l A389
          obtain ⟨_, _, o370, -⟩ := q370
          refine gv_callV hD rfl (As := []) (st := []) rfl (by decide) rfl rfl (gr_lV hws rfl) (Nat.le_of_ble_eq_true rfl) (gz_Ev_mono (d := 3) (by decide) E370) ?_
          show gv_X _ _ (181, [(0, .inr (.inr (some 0))), (1, .inl a1)], [.inl z370], gr_sh ++ ext, gr_h I371 J372)
          refine gv_if_ne (t := 186) hD rfl rfl ⟨by exact gz_m 156 (by omega), by exact gz_m 157 (by omega)⟩ (fun c391 => ?_) (fun c391 => ?_)
          · have u392 := gs_or1 V370 (by exact gz_m 158 (by omega))
            have t393 := o370.resolve_left (by exact gz_m 159 (by omega))
            have t394 := (gr_ATp_rr A389).2.2.1.resolve_left (by exact gz_m 160 (by omega))
            clear o370 V370
            refine gv_pick [0] rfl ?_
            exact L186 I371 J372 (gs_X β N9 p9) hI371 FI371 FJ372 (by exact gz_m 161 (by omega)) (gr_R1_fr (gr_R1_fr e2_19 (fun k => g348 68 k rfl) (fun k => g348 74 k rfl) (fun k => g348 6 k rfl) (fun k => g348 70 k rfl) (fun k => g348 71 k rfl) (g348 0 118 rfl) (g348 0 119 rfl)) (fun k => g370 68 k rfl) (fun k => g370 74 k rfl) (fun k => g370 6 k rfl) (fun k => g370 70 k rfl) (fun k => g370 71 k rfl) (g370 0 118 rfl) (g370 0 119 rfl)) A389 (by rw [e5_19]; unfold gs_said2 gs_sg; (repeat first | rw [if_pos (by exact gz_m 162 (by omega))] | rw [if_neg (by exact gz_m 163 (by omega))])) (((g370 0 119 rfl).trans (g348 0 119 rfl)).trans (e6_19))
          · have u395 := gs_or0 V370 (by exact gz_m 164 (by omega))
            clear o370 V370
            refine gv_run 1 true hD (pc' := 185) (lv' := [(0, .inr (.inr (some 0))), (1, .inl a1)]) (st' := [.inl 0]) (h' := gr_h I371 J372) (C := (True ∧ True)) rfl ⟨trivial, trivial⟩ ?_
            have b396 : (I371 0 69 = I 0 69) ∧ (I 0 73 ≤ I371 0 73) ∧ (I 0 72 ≤ I371 0 72) := by exact gz_m 165 (by omega)
            exact gv_zret hD rfl (by exact gz_m 166 (by omega)) ⟨I371, J372, rfl, hI371, FI371, FJ372, ⟨_, rfl, by exact gz_m 167 (by omega), by exact gz_m 168 (by omega), (gr_ATp_rr A389).1, (gr_ATp_rr A389).2.1, (gr_ATp_rr A389).2.2.1, (gr_ATp_rr A389).2.2.2.1, (gr_ATp_rr A389).2.2.2.2, b396.1, b396.2.1, b396.2.2, (gr_o_a (by exact gz_m 169 (by omega))), (Or.inr ⟨by exact gz_m 170 (by omega), by first | (exfalso; exact gz_m 171 (by omega)) | (rw [e5_19]; unfold gs_said2 gs_sa1 gs_sg gs_sa2; (repeat first | rw [if_pos (by exact gz_m 172 (by omega))] | rw [if_neg (by exact gz_m 173 (by omega))]); exact ⟨by exact gz_m 174 (by omega), by exact gz_m 175 (by omega)⟩)⟩)⟩⟩
        · have t397 := (gr_ATp_k A365 (c := 2) (by exact gz_m 176 (by omega))).mp (by exact gz_m 177 (by omega))
          have t398 := (gr_ATp_rr A365).2.2.1.resolve_left (by exact gz_m 178 (by omega))
          have t399 := gr_ATp_n A365 t397
          have f400 := (gr_b_0_119 hI349)
          refine gv_run 5 true hD (pc' := 144) (lv' := [(0, .inr (.inr (some 0))), (1, .inl a1)]) (st' := [.inl 1, .inl (I349 0 119), .inr (.inr (some 70))]) (h' := gr_h I349 J350) (C := (((((True ∧ True) ∧ True) ∧ True) ∧ True) ∧ True)) rfl ⟨⟨⟨⟨⟨trivial, trivial⟩, trivial⟩, trivial⟩, trivial⟩, trivial⟩ ?_
          refine gv_run 1 true hD (pc' := 145) (lv' := [(0, .inr (.inr (some 0))), (1, .inl a1)]) (st' := []) (h' := gz_up (gr_h I349 J350) 70 (Int.toNat ((I349 0 119))) (.inl 1)) (C := (True ∧ (0 ≤ (I349 0 119) ∧ (I349 0 119) < ((6 : Nat) : Int)))) rfl ⟨trivial, ⟨by exact gz_m 179 (by omega), by exact gz_m 180 (by omega)⟩⟩ ?_
          refine gr_st hI349 FI349 rfl rfl ⟨⟨by show 0 ≤ _; exact gz_m 181 (by omega), by show _ ≤ 2; exact gz_m 182 (by omega)⟩, trivial⟩ (fun I401 hI401 FI401 q402 p402 => ?_)
          have t403 := p402 0 71 (fun q => absurd q.1 (by decide))
          have t404 := p402 0 72 (fun q => absurd q.1 (by decide))
          have t405 := p402 0 73 (fun q => absurd q.1 (by decide))
          have t406 := p402 0 69 (fun q => absurd q.1 (by decide))
          have t407 := p402 0 6 (fun q => absurd q.1 (by decide))
          have t408 := p402 0 119 (fun q => absurd q.1 (by decide))
          have t409 := p402 0 118 (fun q => absurd q.1 (by decide))
          have t410 := p402 0 120 (fun q => absurd q.1 (by decide))
          have f411 := (gr_b_0_71 hI401)
          have f412 := (gr_b_0_72 hI401)
          have f413 := (gr_b_0_73 hI401)
          have f414 := (gr_b_0_69 hI401)
          have f415 := (gr_b_0_6 hI401)
          have f416 := (gr_b_0_119 hI401)
          have f417 := (gr_b_0_118 hI401)
          have f418 := (gr_b_0_120 hI401)
          have A419 := gr_ATp_sr A365 p402 rfl
          refine gv_run 2 true hD (pc' := 147) (lv' := [(0, .inr (.inr (some 0))), (1, .inl a1)]) (st' := [.inl a1, .inr (.inr (some 0))]) (h' := gr_h I401 J350) (C := ((True ∧ True) ∧ True)) rfl ⟨⟨trivial, trivial⟩, trivial⟩ ?_
          obtain ⟨r420, h420, E420, P420⟩ := r_argumentOf_p (ws0 := ws0) (tb := tb) hws htb ext β N9 (gs_X β N9 p9) I401 J350 hI401 a1 ⟨by exact gz_m 183 (by omega), by exact gz_m 184 (by omega)⟩ (gr_ATp_rr A419).1 (gr_ATp_rr A419).2.1 (gr_ATp_rr A419).2.2.1 (gr_ATp_rr A419).2.2.2.1 (gr_ATp_rr A419).2.2.2.2 A419 (by exact gz_m 185 (by omega))
          obtain ⟨I421, J422, rfl, hI421, g420, k420, ⟨z420, rfl, q420⟩⟩ := P420
          have FI421 := gr_frt FI401 g420 rfl rfl
          have FJ422 := gr_fjt FJ350 k420 rfl rfl
          have t423 := g420 0 69 rfl
          have t424 := g420 0 6 rfl
          have t425 := g420 0 119 rfl
          have t426 := g420 0 118 rfl
          have f427 := (gr_b_0_71 hI421)
          have f428 := (gr_b_0_72 hI421)
          have f429 := (gr_b_0_73 hI421)
          have f430 := (gr_b_0_69 hI421)
          have f431 := (gr_b_0_6 hI421)
          have f432 := (gr_b_0_119 hI421)
          have f433 := (gr_b_0_118 hI421)
          have f434 := (gr_b_0_120 hI421)
          refine gv_callV hD rfl (As := [.inl a1]) (st := []) rfl (by decide) rfl rfl (gr_lV hws rfl) (Nat.le_of_ble_eq_true rfl) (gz_Ev_mono (d := 11) (by decide) E420) ?_
          show gv_X _ _ (150, [(0, .inr (.inr (some 0))), (1, .inl a1)], [.inl z420], gr_sh ++ ext, gr_h I421 J422)
          refine gv_if_ne (t := 155) hD rfl rfl ⟨by exact gz_m 186 (by omega), by exact gz_m 187 (by omega)⟩ (fun c435 => ?_) (fun c435 => ?_)
          · have Q436 := q420.2.2.2.2.2.2.2.2.2.2
            rw [(show gs_ao β N9 (I401 6 (Int.toNat a1)) (gs_a4 (I401 74)) (gs_X β N9 p9) = gs_ao β N9 (I 6 (Int.toNat a1)) (gs_a4 (I 74)) (gs_X β N9 p9) from by rw [(FI401 6 (Int.toNat a1) rfl), gs_a4_eq (fun j => (FI401 74 j rfl))])] at Q436
            obtain ⟨u436, A436⟩ := gs_or1 Q436 (by exact gz_m 188 (by omega))
            have t437 := gr_ATp_l A436
            obtain ⟨_, _, -, _, -, -, _, _, _, _, -⟩ := q420
            refine gv_pick [0] rfl ?_
            exact L155 I421 J422 ((gs_ao β N9 (I 6 (Int.toNat a1)) (gs_a4 (I 74)) (gs_X β N9 p9))) hI421 FI421 FJ422 (by exact gz_m 189 (by omega)) (gr_R1_fr (gr_R1_s (gr_R1_fr e2_19 (fun k => g348 68 k rfl) (fun k => g348 74 k rfl) (fun k => g348 6 k rfl) (fun k => g348 70 k rfl) (fun k => g348 71 k rfl) (g348 0 118 rfl) (g348 0 119 rfl)) (fun k => p402 68 k (fun q => absurd q.1 (by decide))) (fun k => p402 74 k (fun q => absurd q.1 (by decide))) (fun k => p402 6 k (fun q => absurd q.1 (by decide))) (fun k hk => p402 70 k (fun q => hk (q.2.trans (by exact gz_m 190 (by omega))))) (fun k hk => p402 71 k (fun q => hk (q.2.trans (by exact gz_m 191 (by omega))))) (p402 0 118 (fun q => absurd q.1 (by decide))) (p402 0 119 (fun q => absurd q.1 (by decide)))) (fun k => g420 68 k rfl) (fun k => g420 74 k rfl) (fun k => g420 6 k rfl) (fun k => g420 70 k rfl) (fun k => g420 71 k rfl) (g420 0 118 rfl) (g420 0 119 rfl)) A436 (by rw [e5_19]; unfold gs_said2 gs_sg; (repeat first | rw [if_pos (by exact gz_m 192 (by omega))] | rw [if_neg (by exact gz_m 193 (by omega))])) ((((g420 0 119 rfl).trans (p402 0 119 (fun q => absurd q.1 (by decide)))).trans (g348 0 119 rfl)).trans (e6_19))
          · have Q438 := q420.2.2.2.2.2.2.2.2.2.2
            rw [(show gs_ao β N9 (I401 6 (Int.toNat a1)) (gs_a4 (I401 74)) (gs_X β N9 p9) = gs_ao β N9 (I 6 (Int.toNat a1)) (gs_a4 (I 74)) (gs_X β N9 p9) from by rw [(FI401 6 (Int.toNat a1) rfl), gs_a4_eq (fun j => (FI401 74 j rfl))])] at Q438
            obtain ⟨u438, u438_⟩ := gs_or0 Q438 (by exact gz_m 194 (by omega))
            refine gv_run 1 true hD (pc' := 154) (lv' := [(0, .inr (.inr (some 0))), (1, .inl a1)]) (st' := [.inl 0]) (h' := gr_h I421 J422) (C := (True ∧ True)) rfl ⟨trivial, trivial⟩ ?_
            have b439 : (I421 0 71 = 5 ∨ I421 0 73 ≤ I421 0 69) ∧ (I421 0 72 ≤ I421 0 69) ∧ (I421 0 71 = 0 ∨ (I421 0 72 < I421 0 73 ∧ I421 0 72 < I421 0 69)) ∧ (I421 0 71 = 3 → 2 ≤ I421 0 73 - I421 0 72 ∧ I421 0 73 - I421 0 72 ≤ 14) ∧ (I421 0 72 ≤ I421 0 73) ∧ (I421 0 69 = I 0 69) ∧ (I 0 73 ≤ I421 0 73) ∧ (I 0 72 ≤ I421 0 72) := by exact gz_m 195 (by omega)
            exact gv_zret hD rfl (by exact gz_m 196 (by omega)) ⟨I421, J422, rfl, hI421, FI421, FJ422, ⟨_, rfl, by exact gz_m 197 (by omega), by exact gz_m 198 (by omega), b439.1, b439.2.1, b439.2.2.1, b439.2.2.2.1, b439.2.2.2.2.1, b439.2.2.2.2.2.1, b439.2.2.2.2.2.2.1, b439.2.2.2.2.2.2.2, (gr_o_a (by exact gz_m 199 (by omega))), (Or.inr ⟨by exact gz_m 200 (by omega), by first | (exfalso; exact gz_m 201 (by omega)) | (rw [e5_19]; unfold gs_said2 gs_sa1 gs_sg gs_sa2; (repeat first | rw [if_pos (by exact gz_m 202 (by omega))] | rw [if_neg (by exact gz_m 203 (by omega))]); exact ⟨by exact gz_m 204 (by omega), by exact gz_m 205 (by omega)⟩)⟩)⟩⟩
      · have t440 := o345.resolve_left (by exact gz_m 206 (by omega))
        have t441 := (gr_ATp_rr x7).2.2.1.resolve_left (by exact gz_m 207 (by omega))
        clear o345
        refine gv_run 1 true hD (pc' := 55) (lv' := [(0, .inr (.inr (some 0))), (1, .inl a1)]) (st' := [.inr (.inr (some 0))]) (h' := gr_h I J) (C := (True ∧ True)) rfl ⟨trivial, trivial⟩ ?_
        obtain ⟨r442, h442, E442, P442⟩ := r_next_p (ws0 := ws0) (tb := tb) hws htb ext β N9 I J hI   ((gr_ATp_rr x7).1.resolve_left (by exact gz_m 208 (by omega))) x7.1.1 x7.1.2
        obtain ⟨I443, J444, rfl, hI443, g442, k442, ⟨rfl, q442⟩⟩ := P442
        have FI443 := gr_frt FI g442 rfl rfl
        have FJ444 := gr_fjt FJ k442 rfl rfl
        have t445 := g442 0 69 rfl
        have t446 := g442 0 6 rfl
        have t447 := g442 0 119 rfl
        have t448 := g442 0 118 rfl
        have t449 := g442 0 120 rfl
        have f450 := (gr_b_0_71 hI443)
        have f451 := (gr_b_0_72 hI443)
        have f452 := (gr_b_0_73 hI443)
        have f453 := (gr_b_0_69 hI443)
        have f454 := (gr_b_0_6 hI443)
        have f455 := (gr_b_0_119 hI443)
        have f456 := (gr_b_0_118 hI443)
        have f457 := (gr_b_0_120 hI443)
        have t458 := (gr_ATp_rr x7).2.2.1.resolve_left (by exact gz_m 209 (by omega))
        have A459 := gr_ATp_nx x7 q442.2.2.2.2.2
        have t460 := gr_ATp_l A459
        obtain ⟨_, _, -, -, -, -⟩ := q442
        refine gv_callV hD rfl (As := []) (st := []) rfl (by decide) rfl rfl (gr_lV hws rfl) (Nat.le_of_ble_eq_true rfl) (gz_Ev_mono (d := 10) (by decide) E442) ?_
        show gv_X _ _ (58, [(0, .inr (.inr (some 0))), (1, .inl a1)], [], gr_sh ++ ext, gr_h I443 J444)
        have f461 := (gr_b_0_119 hI443)
        refine gv_run 5 true hD (pc' := 67) (lv' := [(0, .inr (.inr (some 0))), (1, .inl a1)]) (st' := [.inl 0, .inl (I443 0 119), .inr (.inr (some 70))]) (h' := gr_h I443 J444) (C := (((((True ∧ True) ∧ True) ∧ True) ∧ True) ∧ True)) rfl ⟨⟨⟨⟨⟨trivial, trivial⟩, trivial⟩, trivial⟩, trivial⟩, trivial⟩ ?_
        refine gv_run 1 true hD (pc' := 68) (lv' := [(0, .inr (.inr (some 0))), (1, .inl a1)]) (st' := []) (h' := gz_up (gr_h I443 J444) 70 (Int.toNat ((I443 0 119))) (.inl 0)) (C := (True ∧ (0 ≤ (I443 0 119) ∧ (I443 0 119) < ((6 : Nat) : Int)))) rfl ⟨trivial, ⟨by exact gz_m 210 (by omega), by exact gz_m 211 (by omega)⟩⟩ ?_
        refine gr_st hI443 FI443 rfl rfl ⟨⟨by show 0 ≤ _; exact gz_m 212 (by omega), by show _ ≤ 2; exact gz_m 213 (by omega)⟩, trivial⟩ (fun I462 hI462 FI462 q463 p463 => ?_)
        have t464 := p463 0 71 (fun q => absurd q.1 (by decide))
        have t465 := p463 0 72 (fun q => absurd q.1 (by decide))
        have t466 := p463 0 73 (fun q => absurd q.1 (by decide))
        have t467 := p463 0 69 (fun q => absurd q.1 (by decide))
        have t468 := p463 0 6 (fun q => absurd q.1 (by decide))
        have t469 := p463 0 119 (fun q => absurd q.1 (by decide))
        have t470 := p463 0 118 (fun q => absurd q.1 (by decide))
        have t471 := p463 0 120 (fun q => absurd q.1 (by decide))
        have f472 := (gr_b_0_71 hI462)
        have f473 := (gr_b_0_72 hI462)
        have f474 := (gr_b_0_73 hI462)
        have f475 := (gr_b_0_69 hI462)
        have f476 := (gr_b_0_6 hI462)
        have f477 := (gr_b_0_119 hI462)
        have f478 := (gr_b_0_118 hI462)
        have f479 := (gr_b_0_120 hI462)
        have A480 := gr_ATp_sr A459 p463 rfl
        refine gv_run 2 true hD (pc' := 70) (lv' := [(0, .inr (.inr (some 0))), (1, .inl a1)]) (st' := [.inl a1, .inr (.inr (some 0))]) (h' := gr_h I462 J444) (C := ((True ∧ True) ∧ True)) rfl ⟨⟨trivial, trivial⟩, trivial⟩ ?_
        obtain ⟨r481, h481, E481, P481⟩ := r_argumentOf_p (ws0 := ws0) (tb := tb) hws htb ext β N9 (gs_X β N9 p9) I462 J444 hI462 a1 ⟨by exact gz_m 214 (by omega), by exact gz_m 215 (by omega)⟩ (gr_ATp_rr A480).1 (gr_ATp_rr A480).2.1 (gr_ATp_rr A480).2.2.1 (gr_ATp_rr A480).2.2.2.1 (gr_ATp_rr A480).2.2.2.2 A480 (by exact gz_m 216 (by omega))
        obtain ⟨I482, J483, rfl, hI482, g481, k481, ⟨z481, rfl, q481⟩⟩ := P481
        have FI482 := gr_frt FI462 g481 rfl rfl
        have FJ483 := gr_fjt FJ444 k481 rfl rfl
        have t484 := g481 0 69 rfl
        have t485 := g481 0 6 rfl
        have t486 := g481 0 119 rfl
        have t487 := g481 0 118 rfl
        have f488 := (gr_b_0_71 hI482)
        have f489 := (gr_b_0_72 hI482)
        have f490 := (gr_b_0_73 hI482)
        have f491 := (gr_b_0_69 hI482)
        have f492 := (gr_b_0_6 hI482)
        have f493 := (gr_b_0_119 hI482)
        have f494 := (gr_b_0_118 hI482)
        have f495 := (gr_b_0_120 hI482)
        refine gv_callV hD rfl (As := [.inl a1]) (st := []) rfl (by decide) rfl rfl (gr_lV hws rfl) (Nat.le_of_ble_eq_true rfl) (gz_Ev_mono (d := 11) (by decide) E481) ?_
        show gv_X _ _ (73, [(0, .inr (.inr (some 0))), (1, .inl a1)], [.inl z481], gr_sh ++ ext, gr_h I482 J483)
        refine gv_if_ne (t := 78) hD rfl rfl ⟨by exact gz_m 217 (by omega), by exact gz_m 218 (by omega)⟩ (fun c496 => ?_) (fun c496 => ?_)
        · have Q497 := q481.2.2.2.2.2.2.2.2.2.2
          rw [(show gs_ao β N9 (I462 6 (Int.toNat a1)) (gs_a4 (I462 74)) (gs_X β N9 p9) = gs_ao β N9 (I 6 (Int.toNat a1)) (gs_a4 (I 74)) (gs_X β N9 p9) from by rw [(FI462 6 (Int.toNat a1) rfl), gs_a4_eq (fun j => (FI462 74 j rfl))])] at Q497
          obtain ⟨u497, A497⟩ := gs_or1 Q497 (by exact gz_m 219 (by omega))
          have t498 := gr_ATp_l A497
          obtain ⟨_, _, -, _, -, -, _, _, _, _, -⟩ := q481
          exact L78 I482 J483 ((gs_ao β N9 (I 6 (Int.toNat a1)) (gs_a4 (I 74)) (gs_X β N9 p9))) hI482 FI482 FJ483 (by exact gz_m 220 (by omega)) (gr_R1_fr (gr_R1_s (gr_R1_fr e2_19 (fun k => g442 68 k rfl) (fun k => g442 74 k rfl) (fun k => g442 6 k rfl) (fun k => g442 70 k rfl) (fun k => g442 71 k rfl) (g442 0 118 rfl) (g442 0 119 rfl)) (fun k => p463 68 k (fun q => absurd q.1 (by decide))) (fun k => p463 74 k (fun q => absurd q.1 (by decide))) (fun k => p463 6 k (fun q => absurd q.1 (by decide))) (fun k hk => p463 70 k (fun q => hk (q.2.trans (by exact gz_m 221 (by omega))))) (fun k hk => p463 71 k (fun q => hk (q.2.trans (by exact gz_m 222 (by omega))))) (p463 0 118 (fun q => absurd q.1 (by decide))) (p463 0 119 (fun q => absurd q.1 (by decide)))) (fun k => g481 68 k rfl) (fun k => g481 74 k rfl) (fun k => g481 6 k rfl) (fun k => g481 70 k rfl) (fun k => g481 71 k rfl) (g481 0 118 rfl) (g481 0 119 rfl)) A497 (by rw [e5_19]; unfold gs_said2; (repeat first | rw [if_pos (by exact gz_m 223 (by omega))] | rw [if_neg (by exact gz_m 224 (by omega))])) ((((g481 0 119 rfl).trans (p463 0 119 (fun q => absurd q.1 (by decide)))).trans (g442 0 119 rfl)).trans (e6_19))
        · have Q499 := q481.2.2.2.2.2.2.2.2.2.2
          rw [(show gs_ao β N9 (I462 6 (Int.toNat a1)) (gs_a4 (I462 74)) (gs_X β N9 p9) = gs_ao β N9 (I 6 (Int.toNat a1)) (gs_a4 (I 74)) (gs_X β N9 p9) from by rw [(FI462 6 (Int.toNat a1) rfl), gs_a4_eq (fun j => (FI462 74 j rfl))])] at Q499
          obtain ⟨u499, u499_⟩ := gs_or0 Q499 (by exact gz_m 225 (by omega))
          refine gv_run 1 true hD (pc' := 77) (lv' := [(0, .inr (.inr (some 0))), (1, .inl a1)]) (st' := [.inl 0]) (h' := gr_h I482 J483) (C := (True ∧ True)) rfl ⟨trivial, trivial⟩ ?_
          have b500 : (I482 0 71 = 5 ∨ I482 0 73 ≤ I482 0 69) ∧ (I482 0 72 ≤ I482 0 69) ∧ (I482 0 71 = 0 ∨ (I482 0 72 < I482 0 73 ∧ I482 0 72 < I482 0 69)) ∧ (I482 0 71 = 3 → 2 ≤ I482 0 73 - I482 0 72 ∧ I482 0 73 - I482 0 72 ≤ 14) ∧ (I482 0 72 ≤ I482 0 73) ∧ (I482 0 69 = I 0 69) ∧ (I 0 73 ≤ I482 0 73) ∧ (I 0 72 ≤ I482 0 72) := by exact gz_m 226 (by omega)
          exact gv_zret hD rfl (by exact gz_m 227 (by omega)) ⟨I482, J483, rfl, hI482, FI482, FJ483, ⟨_, rfl, by exact gz_m 228 (by omega), by exact gz_m 229 (by omega), b500.1, b500.2.1, b500.2.2.1, b500.2.2.2.1, b500.2.2.2.2.1, b500.2.2.2.2.2.1, b500.2.2.2.2.2.2.1, b500.2.2.2.2.2.2.2, (gr_o_a (by exact gz_m 230 (by omega))), (Or.inr ⟨by exact gz_m 231 (by omega), by first | (exfalso; exact gz_m 232 (by omega)) | (rw [e5_19]; unfold gs_said2 gs_sa1 gs_sg gs_sa2; (repeat first | rw [if_pos (by exact gz_m 233 (by omega))] | rw [if_neg (by exact gz_m 234 (by omega))]); exact ⟨by exact gz_m 235 (by omega), by exact gz_m 236 (by omega)⟩)⟩)⟩⟩
    have f501 := (gr_b_0_119 hI)
    refine gv_run 3 true hD (pc' := 34) (lv' := [(0, .inr (.inr (some 0))), (1, .inl a1)]) (st' := [.inl 6, .inl (I 0 119)]) (h' := gr_h I J) (C := (((True ∧ True) ∧ True) ∧ True)) rfl ⟨⟨⟨trivial, trivial⟩, trivial⟩, trivial⟩ ?_
    refine gv_icmp_ne (t := 43) hD rfl rfl ⟨⟨by exact gz_m 237 (by omega), by exact gz_m 238 (by omega)⟩, ⟨by exact gz_m 239 (by omega), by exact gz_m 240 (by omega)⟩⟩ (fun c502 => ?_) (fun c502 => ?_)
    · exact L43 (by exact gz_m 241 (by omega)) e2_9 x7 (by rw [e5_9]; unfold gs_said1; (repeat first | rw [if_pos (by exact gz_m 242 (by omega))] | rw [if_neg (by exact gz_m 243 (by omega))])) (e6_9)
    · refine gv_run 2 true hD (pc' := 39) (lv' := [(0, .inr (.inr (some 0))), (1, .inl a1)]) (st' := [.inl 5, .inr (.inr (some 0))]) (h' := gr_h I J) (C := ((True ∧ True) ∧ True)) rfl ⟨⟨trivial, trivial⟩, trivial⟩ ?_
      obtain ⟨r503, h503, E503, P503⟩ := r_no__p (ws0 := ws0) (tb := tb) hws htb ext β N9 p9 I J hI 5 ⟨by exact gz_m 244 (by omega), by exact gz_m 245 (by omega)⟩ x7 (by exact gz_m 246 (by omega))
      obtain ⟨I504, J505, rfl, hI504, g503, k503, ⟨z503, rfl, q503⟩⟩ := P503
      have FI504 := gr_frt FI g503 rfl rfl
      have FJ505 := gr_fjt FJ k503 rfl rfl
      have t506 := g503 0 71 rfl
      have t507 := g503 0 72 rfl
      have t508 := g503 0 73 rfl
      have t509 := g503 0 69 rfl
      have t510 := g503 0 6 rfl
      have t511 := g503 0 119 rfl
      have t512 := g503 0 118 rfl
      have t513 := g503 0 120 rfl
      have f514 := (gr_b_0_71 hI504)
      have f515 := (gr_b_0_72 hI504)
      have f516 := (gr_b_0_73 hI504)
      have f517 := (gr_b_0_69 hI504)
      have f518 := (gr_b_0_6 hI504)
      have f519 := (gr_b_0_119 hI504)
      have f520 := (gr_b_0_118 hI504)
      have f521 := (gr_b_0_120 hI504)
      have A522 := gr_ATp_F x7 g503 k503 rfl
      have t523 := gr_ATp_l A522
      refine gv_callV hD rfl (As := [.inl 5]) (st := []) rfl (by decide) rfl rfl (gr_lV hws rfl) (Nat.le_of_ble_eq_true rfl) (gz_Ev_mono (d := 2) (by decide) E503) ?_
      show gv_X _ _ (42, [(0, .inr (.inr (some 0))), (1, .inl a1)], [.inl z503], gr_sh ++ ext, gr_h I504 J505)
      have b524 : (I504 0 69 = I 0 69) ∧ (I 0 73 ≤ I504 0 73) ∧ (I 0 72 ≤ I504 0 72) := by exact gz_m 247 (by omega)
      exact gv_zret hD rfl (by exact gz_m 248 (by omega)) ⟨I504, J505, rfl, hI504, FI504, FJ505, ⟨_, rfl, by exact gz_m 249 (by omega), by exact gz_m 250 (by omega), (gr_ATp_rr A522).1, (gr_ATp_rr A522).2.1, (gr_ATp_rr A522).2.2.1, (gr_ATp_rr A522).2.2.2.1, (gr_ATp_rr A522).2.2.2.2, b524.1, b524.2.1, b524.2.2, (gr_o_a (by exact gz_m 251 (by omega))), (Or.inr ⟨by exact gz_m 252 (by omega), by first | (exfalso; exact gz_m 253 (by omega)) | (rw [e5_9]; unfold gs_said1; (repeat first | rw [if_pos (by exact gz_m 254 (by omega))] | rw [if_neg (by exact gz_m 255 (by omega))]); exact ⟨by exact gz_m 256 (by omega), by exact gz_m 257 (by omega)⟩)⟩)⟩⟩
  refine gv_run 3 true hD (pc' := 5) (lv' := [(0, .inr (.inr (some 0))), (1, .inl a1)]) (st' := [.inr (.inl (J 0 95)), .inr (.inr (some 0))]) (h' := gr_h I J) (C := (((True ∧ True) ∧ True) ∧ True)) rfl ⟨⟨⟨trivial, trivial⟩, trivial⟩, trivial⟩ ?_
  obtain ⟨r525, h525, E525, P525⟩ := r_is_p (ws0 := ws0) (tb := tb) hws htb ext β N9 p9 I J hI (J 0 95)  x7 (by exact gz_m 258 (by omega))
  obtain ⟨rfl, ⟨z525, rfl, q525⟩⟩ := P525
  have t526 := (show gs_kw β N9 p9 (J 0 95) = gs_kw β N9 p9 (gs_W 95) from by rw [show J 0 95 = gs_W 95 from KW 95 (by decide) (by decide)])
  obtain ⟨_, _, o525, _⟩ := q525
  refine gv_callV hD rfl (As := [.inr (.inl (J 0 95))]) (st := []) rfl (by decide) rfl rfl (gr_lV hws rfl) (Nat.le_of_ble_eq_true rfl) (gz_Ev_mono (d := 1) (by decide) E525) ?_
  show gv_X _ _ (8, [(0, .inr (.inr (some 0))), (1, .inl a1)], [.inl z525], gr_sh ++ ext, gr_h I J)
  refine gv_if_ne (t := 28) hD rfl rfl ⟨by exact gz_m 259 (by omega), by exact gz_m 260 (by omega)⟩ (fun c527 => ?_) (fun c527 => ?_)
  · have t528 := o525.resolve_left (by exact gz_m 261 (by omega))
    have t529 := (gr_ATp_rr x7).2.2.1.resolve_left (by exact gz_m 262 (by omega))
    clear o525
    exact L28 (by exact gz_m 263 (by omega)) x6 x7 (by unfold gs_said; (repeat first | rw [if_pos (by exact gz_m 264 (by omega))] | rw [if_neg (by exact gz_m 265 (by omega))])) rfl
  · clear o525
    refine gv_run 3 true hD (pc' := 16) (lv' := [(0, .inr (.inr (some 0))), (1, .inl a1)]) (st' := [.inr (.inl (J 0 96)), .inr (.inr (some 0))]) (h' := gr_h I J) (C := (((True ∧ True) ∧ True) ∧ True)) rfl ⟨⟨⟨trivial, trivial⟩, trivial⟩, trivial⟩ ?_
    obtain ⟨r530, h530, E530, P530⟩ := r_is_p (ws0 := ws0) (tb := tb) hws htb ext β N9 p9 I J hI (J 0 96)  x7 (by exact gz_m 266 (by omega))
    obtain ⟨rfl, ⟨z530, rfl, q530⟩⟩ := P530
    have t531 := (show gs_kw β N9 p9 (J 0 96) = gs_kw β N9 p9 (gs_W 96) from by rw [show J 0 96 = gs_W 96 from KW 96 (by decide) (by decide)])
    obtain ⟨_, _, o530, _⟩ := q530
    refine gv_callV hD rfl (As := [.inr (.inl (J 0 96))]) (st := []) rfl (by decide) rfl rfl (gr_lV hws rfl) (Nat.le_of_ble_eq_true rfl) (gz_Ev_mono (d := 1) (by decide) E530) ?_
    show gv_X _ _ (19, [(0, .inr (.inr (some 0))), (1, .inl a1)], [.inl z530], gr_sh ++ ext, gr_h I J)
    refine gv_if_ne (t := 28) hD rfl rfl ⟨by exact gz_m 267 (by omega), by exact gz_m 268 (by omega)⟩ (fun c532 => ?_) (fun c532 => ?_)
    · have t533 := o530.resolve_left (by exact gz_m 269 (by omega))
      have t534 := (gr_ATp_rr x7).2.2.1.resolve_left (by exact gz_m 270 (by omega))
      clear o530
      exact L28 (by exact gz_m 271 (by omega)) x6 x7 (by unfold gs_said; (repeat first | rw [if_pos (by exact gz_m 272 (by omega))] | rw [if_neg (by exact gz_m 273 (by omega))])) rfl
    · clear o530
      refine gv_run 2 true hD (pc' := 24) (lv' := [(0, .inr (.inr (some 0))), (1, .inl a1)]) (st' := [.inl 1, .inr (.inr (some 0))]) (h' := gr_h I J) (C := ((True ∧ True) ∧ True)) rfl ⟨⟨trivial, trivial⟩, trivial⟩ ?_
      obtain ⟨r535, h535, E535, P535⟩ := r_no__p (ws0 := ws0) (tb := tb) hws htb ext β N9 p9 I J hI 1 ⟨by exact gz_m 274 (by omega), by exact gz_m 275 (by omega)⟩ x7 (by exact gz_m 276 (by omega))
      obtain ⟨I536, J537, rfl, hI536, g535, k535, ⟨z535, rfl, q535⟩⟩ := P535
      have FI536 := gr_frt FI g535 rfl rfl
      have FJ537 := gr_fjt FJ k535 rfl rfl
      have t538 := g535 0 71 rfl
      have t539 := g535 0 72 rfl
      have t540 := g535 0 73 rfl
      have t541 := g535 0 69 rfl
      have t542 := g535 0 6 rfl
      have t543 := g535 0 119 rfl
      have t544 := g535 0 118 rfl
      have t545 := g535 0 120 rfl
      have f546 := (gr_b_0_71 hI536)
      have f547 := (gr_b_0_72 hI536)
      have f548 := (gr_b_0_73 hI536)
      have f549 := (gr_b_0_69 hI536)
      have f550 := (gr_b_0_6 hI536)
      have f551 := (gr_b_0_119 hI536)
      have f552 := (gr_b_0_118 hI536)
      have f553 := (gr_b_0_120 hI536)
      have A554 := gr_ATp_F x7 g535 k535 rfl
      have t555 := gr_ATp_l A554
      refine gv_callV hD rfl (As := [.inl 1]) (st := []) rfl (by decide) rfl rfl (gr_lV hws rfl) (Nat.le_of_ble_eq_true rfl) (gz_Ev_mono (d := 2) (by decide) E535) ?_
      show gv_X _ _ (27, [(0, .inr (.inr (some 0))), (1, .inl a1)], [.inl z535], gr_sh ++ ext, gr_h I536 J537)
      have b556 : (I536 0 69 = I 0 69) ∧ (I 0 73 ≤ I536 0 73) ∧ (I 0 72 ≤ I536 0 72) := by exact gz_m 277 (by omega)
      exact gv_zret hD rfl (by exact gz_m 278 (by omega)) ⟨I536, J537, rfl, hI536, FI536, FJ537, ⟨_, rfl, by exact gz_m 279 (by omega), by exact gz_m 280 (by omega), (gr_ATp_rr A554).1, (gr_ATp_rr A554).2.1, (gr_ATp_rr A554).2.2.1, (gr_ATp_rr A554).2.2.2.1, (gr_ATp_rr A554).2.2.2.2, b556.1, b556.2.1, b556.2.2, (gr_o_a (by exact gz_m 281 (by omega))), (Or.inr ⟨by exact gz_m 282 (by omega), by unfold gs_said; (repeat first | rw [if_pos (by exact gz_m 283 (by omega))] | rw [if_neg (by exact gz_m 284 (by omega))]); exact ⟨by exact gz_m 285 (by omega), by exact gz_m 286 (by omega)⟩⟩)⟩⟩
