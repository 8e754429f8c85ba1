set_option maxHeartbeats 32000000 in
set_option maxRecDepth 100000 in
theorem r_atom_p {ws0 : List Cond} {tb : String → gz_T} (hws : ∀ w ∈ gr_ws, w ∈ ws0) (htb : tb RX13 = gr_T) (ext : gz_Sh) (nr : Nat) (ihR : ∀ (I : gr_I) (J : gr_J) (hI : gr_Inv I) (a1 : Int) (β : Int → Int) (N9 : Int) (p9 : Int) (m9 : Int) (ha1 : 1 ≤ a1 ∧ a1 ≤ 41) (x0 : I 0 71 = 5 ∨ I 0 73 ≤ I 0 69) (x1 : I 0 72 ≤ I 0 69) (x2 : I 0 71 = 0 ∨ (I 0 72 < I 0 73 ∧ I 0 72 < I 0 69)) (x3 : I 0 71 = 3 → 2 ≤ I 0 73 - I 0 72 ∧ I 0 73 - I 0 72 ≤ 14) (x4 : I 0 72 ≤ I 0 73) (x5 : I 0 64 + I 0 69 - I 0 72 ≤ 1900) (x6 : I 0 122 ≤ a1) (x7 : I 0 123 < I 0 3) (x8 : gr_ATp β N9 p9 I J) (x9 : 0 ≤ p9) (x10 : 4 * (1001 - gs_A β N9 p9) + 4 ≤ m9) (KTM_I : gr_TM I) (KTO_I : gr_TO I) (_ : (42 - a1).toNat < nr), ∃ r h', gz_Ev ws0 tb (14 + 2 * nr) (yX13_term, cX13_term, 4, (some .int)) [.inr (.inr (some 0)), .inl a1] (gr_sh ++ ext) (gr_h I J) r (gr_sh ++ ext) h' 0 0 ∧ (∃ (I' : gr_I) (J' : gr_J), h' = gr_h I' J' ∧ gr_Inv I' ∧ gr_fr [64, 71, 72, 73, 74, 75, 76, 77, 122] [52, 53, 54, 55, 75] I I' ∧ gr_fj [64, 71, 72, 73, 74, 75, 76, 77, 122] [52, 53, 54, 55, 75] J J' ∧ gr_TM I' ∧ gr_TO I' ∧ (∃ z : Int, r = some (.inl z) ∧ (-1) ≤ z ∧ z ≤ 1999 ∧ (I' 0 71 = 5 ∨ I' 0 73 ≤ I' 0 69) ∧ (I' 0 72 ≤ I' 0 69) ∧ (I' 0 71 = 0 ∨ (I' 0 72 < I' 0 73 ∧ I' 0 72 < I' 0 69)) ∧ (I' 0 71 = 3 → 2 ≤ I' 0 73 - I' 0 72 ∧ I' 0 73 - I' 0 72 ≤ 14) ∧ ((I' 0 72 ≤ I' 0 73) ∧ gs_TQ β N9 (gs_tm β N9 (I 6 (Int.toNat (I 0 123))) m9 0 a1 p9) z I I' J') ∧ (I' 0 69 = I 0 69) ∧ (I 0 73 ≤ I' 0 73) ∧ (I 0 72 ≤ I' 0 72) ∧ (I 0 64 ≤ I' 0 64) ∧ (I' 0 64 - I' 0 72 ≤ I 0 64 - I 0 72) ∧ (I 0 122 ≤ I' 0 122) ∧ (z < 0 ∨ I' 0 122 = I 0 122) ∧ (z < I' 0 64) ∧ (z < 0 ∨ I 0 72 < I' 0 72) ∧ (gr_OWN z (I 0 123) (I 0 122) I') ∧ (gr_TS9 I I')))) (I : gr_I) (J : gr_J) (hI : gr_Inv I) (a1 : Int) (β : Int → Int) (N9 : Int) (p9 : Int) (m9 : Int) (ha1 : 1 ≤ a1 ∧ a1 ≤ 40) (x0 : I 0 71 = 5 ∨ I 0 73 ≤ I 0 69) (x1 : I 0 72 ≤ I 0 69) (x2 : I 0 71 = 0 ∨ (I 0 72 < I 0 73 ∧ I 0 72 < I 0 69)) (x3 : I 0 71 = 3 → 2 ≤ I 0 73 - I 0 72 ∧ I 0 73 - I 0 72 ≤ 14) (x4 : I 0 72 ≤ I 0 73) (x5 : I 0 64 + I 0 69 - I 0 72 ≤ 1900) (x6 : I 0 122 ≤ a1) (x7 : I 0 123 < I 0 3) (x8 : gr_ATp β N9 p9 I J) (x9 : 0 ≤ p9) (x10 : 4 * (1001 - gs_A β N9 p9) + 3 ≤ m9) (KTM_I : gr_TM I) (KTO_I : gr_TO I) (hnr : (41 - a1).toNat < nr) : ∃ r h', gz_Ev ws0 tb (14 + 2 * nr + 1) (yX13_atom, cX13_atom, 4, (some .int)) [.inr (.inr (some 0)), .inl a1] (gr_sh ++ ext) (gr_h I J) r (gr_sh ++ ext) h' 0 0 ∧ (∃ (I' : gr_I) (J' : gr_J), h' = gr_h I' J' ∧ gr_Inv I' ∧ gr_fr [64, 71, 72, 73, 74, 75, 76, 77, 122] [52, 53, 54, 55, 75] I I' ∧ gr_fj [64, 71, 72, 73, 74, 75, 76, 77, 122] [52, 53, 54, 55, 75] J J' ∧ gr_TM I' ∧ gr_TO I' ∧ (∃ z : Int, r = some (.inl z) ∧ (-1) ≤ z ∧ z ≤ 1999 ∧ (I' 0 71 = 5 ∨ I' 0 73 ≤ I' 0 69) ∧ (I' 0 72 ≤ I' 0 69) ∧ (I' 0 71 = 0 ∨ (I' 0 72 < I' 0 73 ∧ I' 0 72 < I' 0 69)) ∧ (I' 0 71 = 3 → 2 ≤ I' 0 73 - I' 0 72 ∧ I' 0 73 - I' 0 72 ≤ 14) ∧ ((I' 0 72 ≤ I' 0 73) ∧ gs_TQ β N9 (gs_tm β N9 (I 6 (Int.toNat (I 0 123))) m9 1 a1 p9) z I I' J') ∧ (I' 0 69 = I 0 69) ∧ (I 0 73 ≤ I' 0 73) ∧ (I 0 72 ≤ I' 0 72) ∧ (I 0 64 ≤ I' 0 64) ∧ (I' 0 64 - I' 0 72 ≤ I 0 64 - I 0 72) ∧ (I 0 122 ≤ I' 0 122) ∧ (z < 0 ∨ I' 0 122 = I 0 122) ∧ (z < I' 0 64) ∧ (z < 0 ∨ I 0 72 < I' 0 72) ∧ (gr_OWN z (I 0 123) (I 0 122) I') ∧ (gr_TS9 I I'))) := by
  have FI : gr_fr [64, 71, 72, 73, 74, 75, 76, 77, 122] [52, 53, 54, 55, 75] I I := fun _ _ _ => rfl
  have FJ : gr_fj [64, 71, 72, 73, 74, 75, 76, 77, 122] [52, 53, 54, 55, 75] J J := fun _ _ _ => rfl
  have hD : gv_D (gr_E ws0 tb (14 + 2 * nr) (yX13_atom, cX13_atom, 4, (some .int)) kX13_atom) := gq_of oX13_atom
  refine gr_ev (d := (14 + 2 * nr)) (l := kX13_atom) (Po := fun r h' => (∃ (I' : gr_I) (J' : gr_J), h' = gr_h I' J' ∧ gr_Inv I' ∧ gr_fr [64, 71, 72, 73, 74, 75, 76, 77, 122] [52, 53, 54, 55, 75] I I' ∧ gr_fj [64, 71, 72, 73, 74, 75, 76, 77, 122] [52, 53, 54, 55, 75] J J' ∧ gr_TM I' ∧ gr_TO I' ∧ (∃ z : Int, r = some (.inl z) ∧ (-1) ≤ z ∧ z ≤ 1999 ∧ (I' 0 71 = 5 ∨ I' 0 73 ≤ I' 0 69) ∧ (I' 0 72 ≤ I' 0 69) ∧ (I' 0 71 = 0 ∨ (I' 0 72 < I' 0 73 ∧ I' 0 72 < I' 0 69)) ∧ (I' 0 71 = 3 → 2 ≤ I' 0 73 - I' 0 72 ∧ I' 0 73 - I' 0 72 ≤ 14) ∧ ((I' 0 72 ≤ I' 0 73) ∧ gs_TQ β N9 (gs_tm β N9 (I 6 (Int.toNat (I 0 123))) m9 1 a1 p9) z I I' J') ∧ (I' 0 69 = I 0 69) ∧ (I 0 73 ≤ I' 0 73) ∧ (I 0 72 ≤ I' 0 72) ∧ (I 0 64 ≤ I' 0 64) ∧ (I' 0 64 - I' 0 72 ≤ I 0 64 - I 0 72) ∧ (I 0 122 ≤ I' 0 122) ∧ (z < 0 ∨ I' 0 122 = I 0 122) ∧ (z < I' 0 64) ∧ (z < 0 ∨ I 0 72 < I' 0 72) ∧ (gr_OWN z (I 0 123) (I 0 122) I') ∧ (gr_TS9 I I')))) htb rfl (Nat.le_of_ble_eq_true rfl) ?_
  have tAT := gr_ATp_l x8
  clear x0 x2 x3
  have f1 := (gr_b_0_71 hI)
  have f2 := (gr_b_0_72 hI)
  have f3 := (gr_b_0_73 hI)
  have f4 := (gr_b_0_69 hI)
  have f5 := (gr_b_0_64 hI)
  have f6 := (gr_b_0_122 hI)
  have f7 := (gr_b_0_123 hI)
  have f8 := (gr_b_0_3 hI)
  have f9 := (gr_b_0_74 hI)
  have f10 := (gr_b_0_77 hI)
  have L15 : ∀ (n : Nat) (v2_11 : Int), (v2_11 - (-2)).toNat < n → (((-1) ≤ v2_11 ∧ v2_11 ≤ 46) ∧ (v2_11 < I 0 122) ∧ (I 0 71 = 1) ∧ (gs_T β N9 p9 = 1) ∧ (I 0 72 ≤ I 0 69) ∧ (I 0 72 ≤ I 0 73) ∧ (I 0 69 = I 0 69) ∧ (I 0 73 ≤ I 0 73) ∧ (I 0 72 ≤ I 0 72)) → gv_X (gr_E ws0 tb (14 + 2 * nr) (yX13_atom, cX13_atom, 4, (some .int)) kX13_atom) (gv_Q cX13_atom (some .int) (gr_sh ++ ext) (fun r h' => (∃ (I' : gr_I) (J' : gr_J), h' = gr_h I' J' ∧ gr_Inv I' ∧ gr_fr [64, 71, 72, 73, 74, 75, 76, 77, 122] [52, 53, 54, 55, 75] I I' ∧ gr_fj [64, 71, 72, 73, 74, 75, 76, 77, 122] [52, 53, 54, 55, 75] J J' ∧ gr_TM I' ∧ gr_TO I' ∧ (∃ z : Int, r = some (.inl z) ∧ (-1) ≤ z ∧ z ≤ 1999 ∧ (I' 0 71 = 5 ∨ I' 0 73 ≤ I' 0 69) ∧ (I' 0 72 ≤ I' 0 69) ∧ (I' 0 71 = 0 ∨ (I' 0 72 < I' 0 73 ∧ I' 0 72 < I' 0 69)) ∧ (I' 0 71 = 3 → 2 ≤ I' 0 73 - I' 0 72 ∧ I' 0 73 - I' 0 72 ≤ 14) ∧ ((I' 0 72 ≤ I' 0 73) ∧ gs_TQ β N9 (gs_tm β N9 (I 6 (Int.toNat (I 0 123))) m9 1 a1 p9) z I I' J') ∧ (I' 0 69 = I 0 69) ∧ (I 0 73 ≤ I' 0 73) ∧ (I 0 72 ≤ I' 0 72) ∧ (I 0 64 ≤ I' 0 64) ∧ (I' 0 64 - I' 0 72 ≤ I 0 64 - I 0 72) ∧ (I 0 122 ≤ I' 0 122) ∧ (z < 0 ∨ I' 0 122 = I 0 122) ∧ (z < I' 0 64) ∧ (z < 0 ∨ I 0 72 < I' 0 72) ∧ (gr_OWN z (I 0 123) (I 0 122) I') ∧ (gr_TS9 I I'))))) (15, [(0, .inr (.inr (some 0))), (2, .inl v2_11)], [], gr_sh ++ ext, gr_h I J) := by
    intro n
    induction n with
    | zero => intro v2_11 hn; exact gz_m 0 (by omega)
    | succ n ih15 =>
      intro v2_11 hn m_11
      obtain ⟨hv2_11, e0_11, e1_11, e2_11, e3_11, e4_11, e5_11, e6_11, e7_11⟩ := m_11
      have f12 := (gr_b_0_71 hI)
      have f13 := (gr_b_0_72 hI)
      have f14 := (gr_b_0_73 hI)
      have f15 := (gr_b_0_69 hI)
      have f16 := (gr_b_0_64 hI)
      have f17 := (gr_b_0_122 hI)
      have f18 := (gr_b_0_123 hI)
      have f19 := (gr_b_0_3 hI)
      have f20 := (gr_b_0_74 hI)
      have f21 := (gr_b_0_77 hI)
      have L39 : (((-1) ≤ v2_11 ∧ v2_11 ≤ 46) ∧ (v2_11 < I 0 122) ∧ (I 0 71 = 1) ∧ (gs_T β N9 p9 = 1) ∧ (I 0 72 ≤ I 0 69) ∧ (I 0 72 ≤ I 0 73) ∧ (I 0 69 = I 0 69) ∧ (I 0 73 ≤ I 0 73) ∧ (I 0 72 ≤ I 0 72)) → gv_X (gr_E ws0 tb (14 + 2 * nr) (yX13_atom, cX13_atom, 4, (some .int)) kX13_atom) (gv_Q cX13_atom (some .int) (gr_sh ++ ext) (fun r h' => (∃ (I' : gr_I) (J' : gr_J), h' = gr_h I' J' ∧ gr_Inv I' ∧ gr_fr [64, 71, 72, 73, 74, 75, 76, 77, 122] [52, 53, 54, 55, 75] I I' ∧ gr_fj [64, 71, 72, 73, 74, 75, 76, 77, 122] [52, 53, 54, 55, 75] J J' ∧ gr_TM I' ∧ gr_TO I' ∧ (∃ z : Int, r = some (.inl z) ∧ (-1) ≤ z ∧ z ≤ 1999 ∧ (I' 0 71 = 5 ∨ I' 0 73 ≤ I' 0 69) ∧ (I' 0 72 ≤ I' 0 69) ∧ (I' 0 71 = 0 ∨ (I' 0 72 < I' 0 73 ∧ I' 0 72 < I' 0 69)) ∧ (I' 0 71 = 3 → 2 ≤ I' 0 73 - I' 0 72 ∧ I' 0 73 - I' 0 72 ≤ 14) ∧ ((I' 0 72 ≤ I' 0 73) ∧ gs_TQ β N9 (gs_tm β N9 (I 6 (Int.toNat (I 0 123))) m9 1 a1 p9) z I I' J') ∧ (I' 0 69 = I 0 69) ∧ (I 0 73 ≤ I' 0 73) ∧ (I 0 72 ≤ I' 0 72) ∧ (I 0 64 ≤ I' 0 64) ∧ (I' 0 64 - I' 0 72 ≤ I 0 64 - I 0 72) ∧ (I 0 122 ≤ I' 0 122) ∧ (z < 0 ∨ I' 0 122 = I 0 122) ∧ (z < I' 0 64) ∧ (z < 0 ∨ I 0 72 < I' 0 72) ∧ (gr_OWN z (I 0 123) (I 0 122) I') ∧ (gr_TS9 I I'))))) (39, [(0, .inr (.inr (some 0))), (2, .inl v2_11)], [], gr_sh ++ ext, gr_h I J) := by
        intro m_22
        obtain ⟨hv2_11_22, e0_22, e1_22, e2_22, e3_22, e4_22, e5_22, e6_22, e7_22⟩ := m_22
        have f23 := (gr_b_0_71 hI)
        have f24 := (gr_b_0_72 hI)
        have f25 := (gr_b_0_73 hI)
        have f26 := (gr_b_0_69 hI)
        have f27 := (gr_b_0_64 hI)
        have f28 := (gr_b_0_122 hI)
        have f29 := (gr_b_0_123 hI)
        have f30 := (gr_b_0_3 hI)
        have f31 := (gr_b_0_74 hI)
        have f32 := (gr_b_0_77 hI)
        have L72 : ∀ (I33 : gr_I) (J34 : gr_J) (s0_35 : Int) (p_35 : Int), gr_Inv I33 → gr_fr [64, 71, 72, 73, 74, 75, 76, 77, 122] [52, 53, 54, 55, 75] I I33 → gr_fj [64, 71, 72, 73, 74, 75, 76, 77, 122] [52, 53, 54, 55, 75] J J34 → gr_TM I33 → gr_TO I33 → ((0 ≤ s0_35 ∧ s0_35 ≤ 1999) ∧ (I33 0 64 = I 0 64 + 1) ∧ (I33 0 72 = I 0 72) ∧ (I33 0 73 = I 0 73) ∧ (s0_35 = I 0 64) ∧ (I33 0 71 = 1) ∧ (I33 0 122 = I 0 122) ∧ (0 ≤ p_35) ∧ (I33 0 72 ≤ I33 0 69) ∧ (I33 0 72 ≤ I33 0 73) ∧ (I33 0 69 = I 0 69) ∧ (I 0 73 ≤ I33 0 73) ∧ (I 0 72 ≤ I33 0 72)) → (gr_TS9 I I33) → (gr_OWN s0_35 (I 0 123) (I 0 122) I33) → (gr_ATp β N9 p_35 I33 J34) → (p_35 = p9) → (gs_T β N9 p9 = 1) → gv_X (gr_E ws0 tb (14 + 2 * nr) (yX13_atom, cX13_atom, 4, (some .int)) kX13_atom) (gv_Q cX13_atom (some .int) (gr_sh ++ ext) (fun r h' => (∃ (I' : gr_I) (J' : gr_J), h' = gr_h I' J' ∧ gr_Inv I' ∧ gr_fr [64, 71, 72, 73, 74, 75, 76, 77, 122] [52, 53, 54, 55, 75] I I' ∧ gr_fj [64, 71, 72, 73, 74, 75, 76, 77, 122] [52, 53, 54, 55, 75] J J' ∧ gr_TM I' ∧ gr_TO I' ∧ (∃ z : Int, r = some (.inl z) ∧ (-1) ≤ z ∧ z ≤ 1999 ∧ (I' 0 71 = 5 ∨ I' 0 73 ≤ I' 0 69) ∧ (I' 0 72 ≤ I' 0 69) ∧ (I' 0 71 = 0 ∨ (I' 0 72 < I' 0 73 ∧ I' 0 72 < I' 0 69)) ∧ (I' 0 71 = 3 → 2 ≤ I' 0 73 - I' 0 72 ∧ I' 0 73 - I' 0 72 ≤ 14) ∧ ((I' 0 72 ≤ I' 0 73) ∧ gs_TQ β N9 (gs_tm β N9 (I 6 (Int.toNat (I 0 123))) m9 1 a1 p9) z I I' J') ∧ (I' 0 69 = I 0 69) ∧ (I 0 73 ≤ I' 0 73) ∧ (I 0 72 ≤ I' 0 72) ∧ (I 0 64 ≤ I' 0 64) ∧ (I' 0 64 - I' 0 72 ≤ I 0 64 - I 0 72) ∧ (I 0 122 ≤ I' 0 122) ∧ (z < 0 ∨ I' 0 122 = I 0 122) ∧ (z < I' 0 64) ∧ (z < 0 ∨ I 0 72 < I' 0 72) ∧ (gr_OWN z (I 0 123) (I 0 122) I') ∧ (gr_TS9 I I'))))) (72, [(0, .inr (.inr (some 0)))], [.inl s0_35], gr_sh ++ ext, gr_h I33 J34) := by
          intro I33 J34 s0_35 p_35 hI33 FI33 FJ34 KTM_I33 KTO_I33 m_35 e6_35 e7_35 e9_35 e10_35 e11_35
          clear hv2_11_22 e0_22 e1_22 e2_22 e3_22 e4_22 e5_22 e6_22 e7_22 f23 f24 f25 f26 f27 f28 f29 f30 f31 f32 hv2_11 e0_11 e1_11 e2_11 e3_11 e4_11 e5_11 e6_11 e7_11 f12 f13 f14 f15 f16 f17 f18 f19 f20 f21
          obtain ⟨hs0_35, e0_35, e1_35, e2_35, e3_35, e4_35, e5_35, e8_35, e12_35, e13_35, e14_35, e15_35, e16_35⟩ := m_35
          have f36 := (gr_b_0_71 hI33)
          have f37 := (gr_b_0_72 hI33)
          have f38 := (gr_b_0_73 hI33)
          have f39 := (gr_b_0_69 hI33)
          have f40 := (gr_b_0_64 hI33)
          have f41 := (gr_b_0_122 hI33)
          have f42 := (gr_b_0_123 hI33)
          have f43 := (gr_b_0_3 hI33)
          have f44 := (gr_b_0_74 hI33)
          have f45 := (gr_b_0_77 hI33)
          have t46 := gr_ATp_l e9_35
          refine gv_run 2 true hD (pc' := 74) (lv' := [(3, .inl s0_35), (0, .inr (.inr (some 0)))]) (st' := [.inr (.inr (some 0))]) (h' := gr_h I33 J34) (C := ((True ∧ True) ∧ True)) rfl ⟨⟨trivial, trivial⟩, trivial⟩ ?_
          obtain ⟨r47, h47, E47, P47⟩ := r_next_p (ws0 := ws0) (tb := tb) hws htb ext β N9 I33 J34 hI33   ((gr_ATp_rr e9_35).1.resolve_left (by exact gz_m 1 (by omega))) e9_35.1.1 e9_35.1.2
          obtain ⟨I48, J49, rfl, hI48, g47, k47, ⟨rfl, q47⟩⟩ := P47
          have FI48 := gr_frt FI33 g47 rfl rfl
          have FJ49 := gr_fjt FJ34 k47 rfl rfl
          have t50 := g47 0 69 rfl
          have t51 := g47 0 64 rfl
          have t52 := g47 0 122 rfl
          have t53 := g47 0 123 rfl
          have t54 := g47 0 3 rfl
          have t55 := g47 0 77 rfl
          have f56 := (gr_b_0_71 hI48)
          have f57 := (gr_b_0_72 hI48)
          have f58 := (gr_b_0_73 hI48)
          have f59 := (gr_b_0_69 hI48)
          have f60 := (gr_b_0_64 hI48)
          have f61 := (gr_b_0_122 hI48)
          have f62 := (gr_b_0_123 hI48)
          have f63 := (gr_b_0_3 hI48)
          have f64 := (gr_b_0_74 hI48)
          have f65 := (gr_b_0_77 hI48)
          have KTM_I48 := gr_TM_fr KTM_I33 (fun k => g47 52 k rfl) (fun k => g47 53 k rfl) (fun k => g47 54 k rfl) (g47 0 64 rfl)
          have KTO_I48 := gr_TO_fr KTO_I33 (fun k => g47 52 k rfl) (fun k => g47 53 k rfl) (fun k => g47 54 k rfl) (fun k => g47 55 k rfl) (fun k => g47 6 k rfl) (g47 0 64 rfl) (g47 0 3 rfl)
          have t66 := (gr_ATp_rr e9_35).2.2.1.resolve_left (by exact gz_m 2 (by omega))
          have A67 := gr_ATp_nx e9_35 q47.2.2.2.2.2
          have t68 := gr_ATp_l A67
          obtain ⟨_, _, -, -, -, -⟩ := q47
          refine gv_callV hD rfl (As := []) (st := []) rfl (by decide) rfl rfl (gr_lV hws rfl) (Nat.le_of_ble_eq_true rfl) (gz_Ev_mono (d := 10) (by exact gz_m 3 (by omega)) E47) ?_
          show gv_X _ _ (77, [(3, .inl s0_35), (0, .inr (.inr (some 0)))], [], gr_sh ++ ext, gr_h I48 J49)
          refine gv_run 1 true hD (pc' := 78) (lv' := [(3, .inl s0_35), (0, .inr (.inr (some 0)))]) (st' := [.inl s0_35]) (h' := gr_h I48 J49) (C := (True ∧ True)) rfl ⟨trivial, trivial⟩ ?_
          exact gv_iret hD rfl ⟨I48, J49, rfl, hI48, FI48, FJ49, KTM_I48, KTO_I48, ⟨_, rfl, by exact gz_m 4 (by omega), by exact gz_m 5 (by omega), (gr_ATp_rr A67).1, (gr_ATp_rr A67).2.1, (gr_ATp_rr A67).2.2.1, (gr_ATp_rr A67).2.2.2.1, ⟨(gr_ATp_rr A67).2.2.2.2, (gs_TQ_y (c := gs_X β N9 p_35) (n := 1) (by rw [e10_35, gs_tm_1 (by exact gz_m 6 (by omega))]; unfold gs_atm; (repeat first | rw [if_pos (by exact gz_m 7 (by omega))] | rw [if_neg (by exact gz_m 8 (by omega))])) (by exact gz_m 9 (by omega)) (by exact gz_m 10 (by omega)) A67 (by exact gz_m 11 (by omega)))⟩, by exact gz_m 12 (by omega), by exact gz_m 13 (by omega), by exact gz_m 14 (by omega), by exact gz_m 15 (by omega), by exact gz_m 16 (by omega), by exact gz_m 17 (by omega), by exact gz_m 18 (by omega), by exact gz_m 19 (by omega), by exact gz_m 20 (by omega), (gr_OWN_x e7_35 (gr_TS9_fr (fun k => g47 55 k rfl) (fun k => g47 52 k rfl) (fun k => g47 53 k rfl) (fun k => g47 54 k rfl)) (by exact gz_m 21 (by omega)) (by exact gz_m 22 (by omega)) (by exact gz_m 23 (by omega))), (gr_TS9_tr e6_35 (gr_TS9_fr (fun k => g47 55 k rfl) (fun k => g47 52 k rfl) (fun k => g47 53 k rfl) (fun k => g47 54 k rfl)) (by exact gz_m 24 (by omega)))⟩⟩
        refine gv_run 1 true hD (pc' := 40) (lv' := [(0, .inr (.inr (some 0))), (2, .inl v2_11)]) (st' := [.inl v2_11]) (h' := gr_h I J) (C := (True ∧ True)) rfl ⟨trivial, trivial⟩ ?_
        refine gv_if_ge (t := 57) hD rfl rfl ⟨by exact gz_m 25 (by omega), by exact gz_m 26 (by omega)⟩ (fun c69 => ?_) (fun c69 => ?_)
        · have f70 := (gr_b_0_122 hI)
          refine gv_run 7 true hD (pc' := 66) (lv' := [(0, .inr (.inr (some 0))), (2, .inl v2_11)]) (st' := [.inl v2_11, .inl ((I 0 122) - 1), .inl 1, .inr (.inr (some 0))]) (h' := gr_h I J) (C := (((((((True ∧ True) ∧ True) ∧ True) ∧ True) ∧ True) ∧ True) ∧ True)) rfl ⟨⟨⟨⟨⟨⟨⟨trivial, trivial⟩, trivial⟩, trivial⟩, trivial⟩, trivial⟩, trivial⟩, trivial⟩ ?_
          refine gv_run 3 true hD (pc' := 69) (lv' := [(0, .inr (.inr (some 0))), (2, .inl v2_11)]) (st' := [.inr (.inl (Int64.ofNat 0)), .inl 0, .inl (((I 0 122) - 1) - v2_11), .inl 1, .inr (.inr (some 0))]) (h' := gr_h I J) (C := (((True ∧ True) ∧ True) ∧ True)) rfl ⟨⟨⟨trivial, trivial⟩, trivial⟩, trivial⟩ ?_
          obtain ⟨r71, h71, E71, P71⟩ := r_node_w (ws0 := ws0) (tb := tb) hws htb ext I J hI 1 ((((I 0 122) - 1) - v2_11)) 0 (Int64.ofNat 0) ⟨by exact gz_m 27 (by omega), by exact gz_m 28 (by omega)⟩ ⟨by exact gz_m 29 (by omega), by exact gz_m 30 (by omega)⟩ ⟨by exact gz_m 31 (by omega), by exact gz_m 32 (by omega)⟩ (by exact gz_m 33 (by omega)) (by exact gz_m 34 (by omega)) (by exact gz_m 35 (by omega)) KTO_I (gr_NDp_1 (by exact gz_m 36 (by omega))) (by exact gz_m 37 (by omega)) KTM_I
          obtain ⟨I72, J73, rfl, hI72, g71, k71, KTM_I72, ⟨z71, rfl, q71⟩⟩ := P71
          have FI72 := gr_frt FI g71 rfl rfl
          have FJ73 := gr_fjt FJ k71 rfl rfl
          have t74 := g71 0 71 rfl
          have t75 := g71 0 72 rfl
          have t76 := g71 0 73 rfl
          have t77 := g71 0 69 rfl
          have t78 := g71 0 122 rfl
          have t79 := g71 0 123 rfl
          have t80 := g71 0 3 rfl
          have t81 := g71 0 74 rfl
          have t82 := g71 0 77 rfl
          have f83 := (gr_b_0_71 hI72)
          have f84 := (gr_b_0_72 hI72)
          have f85 := (gr_b_0_73 hI72)
          have f86 := (gr_b_0_69 hI72)
          have f87 := (gr_b_0_64 hI72)
          have f88 := (gr_b_0_122 hI72)
          have f89 := (gr_b_0_123 hI72)
          have f90 := (gr_b_0_3 hI72)
          have f91 := (gr_b_0_74 hI72)
          have f92 := (gr_b_0_77 hI72)
          have KTO_I72 : gr_TO I72 := q71.2.2.2.2.1
          have A93 := gr_ATp_F x8 g71 k71 rfl
          have t94 := gr_ATp_l A93
          refine gv_callV hD rfl (As := [.inl 1, .inl (((I 0 122) - 1) - v2_11), .inl 0, .inr (.inl (Int64.ofNat 0))]) (st := []) rfl (by decide) rfl rfl (gr_lV hws rfl) (Nat.le_of_ble_eq_true rfl) (gz_Ev_mono (d := 1) (by exact gz_m 38 (by omega)) E71) ?_
          show gv_X _ _ (72, [(0, .inr (.inr (some 0))), (2, .inl v2_11)], [.inl z71], gr_sh ++ ext, gr_h I72 J73)
          refine gv_pick [0] rfl ?_
          exact L72 I72 J73 z71 p9 hI72 FI72 FJ73 KTM_I72 KTO_I72 (by exact gz_m 39 (by omega)) (gr_TS9_tr (gr_TS9_rf I) q71.2.2.2.2.2.1 (by exact gz_m 40 (by omega))) (gr_OWN_x (show gr_OWN z71 (I 0 123) (I 0 122) I72 from Or.inr ⟨by exact gz_m 41 (by omega), by exact gz_m 42 (by omega)⟩) (gr_TS9_rf _) (by exact gz_m 43 (by omega)) (by exact gz_m 44 (by omega)) (by exact gz_m 45 (by omega))) A93 rfl (by exact gz_m 46 (by omega))
        · refine gv_run 6 true hD (pc' := 51) (lv' := [(0, .inr (.inr (some 0))), (2, .inl v2_11)]) (st' := [.inr (.inl (J 0 75)), .inl 0, .inl 0, .inl 2, .inr (.inr (some 0))]) (h' := gr_h I J) (C := ((((((True ∧ True) ∧ True) ∧ True) ∧ True) ∧ True) ∧ True)) rfl ⟨⟨⟨⟨⟨⟨trivial, trivial⟩, trivial⟩, trivial⟩, trivial⟩, trivial⟩, trivial⟩ ?_
          obtain ⟨r95, h95, E95, P95⟩ := r_node_w (ws0 := ws0) (tb := tb) hws htb ext I J hI 2 0 0 (J 0 75) ⟨by exact gz_m 47 (by omega), by exact gz_m 48 (by omega)⟩ ⟨by exact gz_m 49 (by omega), by exact gz_m 50 (by omega)⟩ ⟨by exact gz_m 51 (by omega), by exact gz_m 52 (by omega)⟩ (by exact gz_m 53 (by omega)) (by exact gz_m 54 (by omega)) (by exact gz_m 55 (by omega)) KTO_I gr_NDp_2 (by exact gz_m 56 (by omega)) KTM_I
          obtain ⟨I96, J97, rfl, hI96, g95, k95, KTM_I96, ⟨z95, rfl, q95⟩⟩ := P95
          have FI96 := gr_frt FI g95 rfl rfl
          have FJ97 := gr_fjt FJ k95 rfl rfl
          have t98 := g95 0 71 rfl
          have t99 := g95 0 72 rfl
          have t100 := g95 0 73 rfl
          have t101 := g95 0 69 rfl
          have t102 := g95 0 122 rfl
          have t103 := g95 0 123 rfl
          have t104 := g95 0 3 rfl
          have t105 := g95 0 74 rfl
          have t106 := g95 0 77 rfl
          have f107 := (gr_b_0_71 hI96)
          have f108 := (gr_b_0_72 hI96)
          have f109 := (gr_b_0_73 hI96)
          have f110 := (gr_b_0_69 hI96)
          have f111 := (gr_b_0_64 hI96)
          have f112 := (gr_b_0_122 hI96)
          have f113 := (gr_b_0_123 hI96)
          have f114 := (gr_b_0_3 hI96)
          have f115 := (gr_b_0_74 hI96)
          have f116 := (gr_b_0_77 hI96)
          have KTO_I96 : gr_TO I96 := q95.2.2.2.2.1
          have A117 := gr_ATp_F x8 g95 k95 rfl
          have t118 := gr_ATp_l A117
          refine gv_callV hD rfl (As := [.inl 2, .inl 0, .inl 0, .inr (.inl (J 0 75))]) (st := []) rfl (by decide) rfl rfl (gr_lV hws rfl) (Nat.le_of_ble_eq_true rfl) (gz_Ev_mono (d := 1) (by exact gz_m 57 (by omega)) E95) ?_
          show gv_X _ _ (54, [(0, .inr (.inr (some 0))), (2, .inl v2_11)], [.inl z95], gr_sh ++ ext, gr_h I96 J97)
          refine gv_run 1 true hD (pc' := 72) (lv' := [(0, .inr (.inr (some 0))), (2, .inl v2_11)]) (st' := [.inl z95]) (h' := gr_h I96 J97) (C := (True ∧ True)) rfl ⟨trivial, trivial⟩ ?_
          refine gv_pick [0] rfl ?_
          exact L72 I96 J97 z95 p9 hI96 FI96 FJ97 KTM_I96 KTO_I96 (by exact gz_m 58 (by omega)) (gr_TS9_tr (gr_TS9_rf I) q95.2.2.2.2.2.1 (by exact gz_m 59 (by omega))) (gr_OWN_x (show gr_OWN z95 (I 0 123) (I 0 122) I96 from Or.inr ⟨by exact gz_m 60 (by omega), by exact gz_m 61 (by omega)⟩) (gr_TS9_rf _) (by exact gz_m 62 (by omega)) (by exact gz_m 63 (by omega)) (by exact gz_m 64 (by omega))) A117 rfl (by exact gz_m 65 (by omega))
      refine gv_run 1 true hD (pc' := 16) (lv' := [(0, .inr (.inr (some 0))), (2, .inl v2_11)]) (st' := [.inl v2_11]) (h' := gr_h I J) (C := (True ∧ True)) rfl ⟨trivial, trivial⟩ ?_
      refine gv_if_lt (t := 39) hD rfl rfl ⟨by exact gz_m 66 (by omega), by exact gz_m 67 (by omega)⟩ (fun c119 => ?_) (fun c119 => ?_)
      · exact L39 (by exact gz_m 68 (by omega))
      · refine gv_run 4 true hD (pc' := 25) (lv' := [(0, .inr (.inr (some 0))), (2, .inl v2_11)]) (st' := [.inr (.inl (J 75 (Int.toNat v2_11)))]) (h' := gr_h I J) (C := ((((True ∧ True) ∧ True) ∧ True) ∧ (0 ≤ v2_11 ∧ v2_11 < ((48 : Nat) : Int)))) rfl ⟨⟨⟨⟨trivial, trivial⟩, trivial⟩, trivial⟩, ⟨by exact gz_m 69 (by omega), by exact gz_m 70 (by omega)⟩⟩ ?_
        have f120 := gw_cmp ((J 75 (Int.toNat v2_11))) ((J 0 75))
        refine gv_run 3 true hD (pc' := 30) (lv' := [(0, .inr (.inr (some 0))), (2, .inl v2_11)]) (st' := [.inl ((lg_cmp ((J 75 (Int.toNat v2_11))) ((J 0 75))).toInt)]) (h' := gr_h I J) (C := (((True ∧ True) ∧ True) ∧ True)) rfl ⟨⟨⟨trivial, trivial⟩, trivial⟩, trivial⟩ ?_
        refine gv_if_eq (t := 39) hD rfl rfl ⟨by exact gz_m 71 (by omega), by exact gz_m 72 (by omega)⟩ (fun c121 => ?_) (fun c121 => ?_)
        · have j121 := gs_cmp0 (a := (J 75 (Int.toNat v2_11))) (b := (J 0 75)) (by exact gz_m 73 (by omega))
          exact L39 (by exact gz_m 74 (by omega))
        · have j121 := gs_cmpn (a := (J 75 (Int.toNat v2_11))) (b := (J 0 75)) (by exact gz_m 75 (by omega))
          refine gv_run 2 true hD (pc' := 15) (lv' := [(2, .inl (v2_11 + (-1))), (0, .inr (.inr (some 0)))]) (st' := []) (h' := gr_h I J) (C := ((True ∧ True) ∧ True)) rfl ⟨⟨trivial, trivial⟩, trivial⟩ ?_
          refine gv_pick [1, 0] rfl ?_
          exact ih15 ((v2_11 + (-1))) (by exact gz_m 76 (by omega)) (by exact gz_m 77 (by omega))
  have f122 := (gr_b_0_71 hI)
  refine gv_run 3 true hD (pc' := 5) (lv' := [(0, .inr (.inr (some 0))), (1, .inl a1)]) (st' := [.inl 1, .inl (I 0 71)]) (h' := gr_h I J) (C := (((True ∧ True) ∧ True) ∧ True)) rfl ⟨⟨⟨trivial, trivial⟩, trivial⟩, trivial⟩ ?_
  refine gv_icmp_ne (t := 79) hD rfl rfl ⟨⟨by exact gz_m 78 (by omega), by exact gz_m 79 (by omega)⟩, ⟨by exact gz_m 80 (by omega), by exact gz_m 81 (by omega)⟩⟩ (fun c123 => ?_) (fun c123 => ?_)
  · have t124 := gr_ATp_ne x8 (c := 1) (by exact gz_m 82 (by omega)) (by exact gz_m 83 (by omega))
    have f125 := (gr_b_0_71 hI)
    refine gv_run 3 true hD (pc' := 84) (lv' := [(0, .inr (.inr (some 0))), (1, .inl a1)]) (st' := [.inl 2, .inl (I 0 71)]) (h' := gr_h I J) (C := (((True ∧ True) ∧ True) ∧ True)) rfl ⟨⟨⟨trivial, trivial⟩, trivial⟩, trivial⟩ ?_
    refine gv_icmp_ne (t := 137) hD rfl rfl ⟨⟨by exact gz_m 84 (by omega), by exact gz_m 85 (by omega)⟩, ⟨by exact gz_m 86 (by omega), by exact gz_m 87 (by omega)⟩⟩ (fun c126 => ?_) (fun c126 => ?_)
    · have t127 := gr_ATp_ne x8 (c := 2) (by exact gz_m 88 (by omega)) (by exact gz_m 89 (by omega))
      refine gv_run 2 true hD (pc' := 140) (lv' := [(0, .inr (.inr (some 0))), (1, .inl a1)]) (st' := [.inl 40, .inr (.inr (some 0))]) (h' := gr_h I J) (C := ((True ∧ True) ∧ True)) rfl ⟨⟨trivial, trivial⟩, trivial⟩ ?_
      obtain ⟨r128, h128, E128, P128⟩ := r_sign_p (ws0 := ws0) (tb := tb) hws htb ext β N9 p9 I J hI 40 ⟨by exact gz_m 90 (by omega), by exact gz_m 91 (by omega)⟩ (fun h9 => by have g9 := (gr_ATp_rr x8).2.2.1; exact gz_m 92 (by omega)) x8 (by exact gz_m 93 (by omega))
      obtain ⟨rfl, ⟨z128, rfl, q128⟩⟩ := P128
      have V128 := gs_or_mk q128.2.2.2
      obtain ⟨_, _, o128, -⟩ := q128
      refine gv_callV hD rfl (As := [.inl 40]) (st := []) rfl (by decide) rfl rfl (gr_lV hws rfl) (Nat.le_of_ble_eq_true rfl) (gz_Ev_mono (d := 1) (by exact gz_m 94 (by omega)) E128) ?_
      show gv_X _ _ (143, [(0, .inr (.inr (some 0))), (1, .inl a1)], [.inl z128], gr_sh ++ ext, gr_h I J)
      refine gv_if_ne (t := 152) hD rfl rfl ⟨by exact gz_m 95 (by omega), by exact gz_m 96 (by omega)⟩ (fun c129 => ?_) (fun c129 => ?_)
      · have u130 := gs_or1 V128 (by exact gz_m 97 (by omega))
        have t131 := o128.resolve_left (by exact gz_m 98 (by omega))
        have t132 := (gr_ATp_rr x8).2.2.1.resolve_left (by exact gz_m 99 (by omega))
        clear o128 V128
        refine gv_run 1 true hD (pc' := 153) (lv' := [(0, .inr (.inr (some 0))), (1, .inl a1)]) (st' := [.inr (.inr (some 0))]) (h' := gr_h I J) (C := (True ∧ True)) rfl ⟨trivial, trivial⟩ ?_
        obtain ⟨r133, h133, E133, P133⟩ := r_next_p (ws0 := ws0) (tb := tb) hws htb ext β N9 I J hI   ((gr_ATp_rr x8).1.resolve_left (by exact gz_m 100 (by omega))) x8.1.1 x8.1.2
        obtain ⟨I134, J135, rfl, hI134, g133, k133, ⟨rfl, q133⟩⟩ := P133
        have FI134 := gr_frt FI g133 rfl rfl
        have FJ135 := gr_fjt FJ k133 rfl rfl
        have t136 := g133 0 69 rfl
        have t137 := g133 0 64 rfl
        have t138 := g133 0 122 rfl
        have t139 := g133 0 123 rfl
        have t140 := g133 0 3 rfl
        have t141 := g133 0 77 rfl
        have f142 := (gr_b_0_71 hI134)
        have f143 := (gr_b_0_72 hI134)
        have f144 := (gr_b_0_73 hI134)
        have f145 := (gr_b_0_69 hI134)
        have f146 := (gr_b_0_64 hI134)
        have f147 := (gr_b_0_122 hI134)
        have f148 := (gr_b_0_123 hI134)
        have f149 := (gr_b_0_3 hI134)
        have f150 := (gr_b_0_74 hI134)
        have f151 := (gr_b_0_77 hI134)
        have KTM_I134 := gr_TM_fr KTM_I (fun k => g133 52 k rfl) (fun k => g133 53 k rfl) (fun k => g133 54 k rfl) (g133 0 64 rfl)
        have KTO_I134 := gr_TO_fr KTO_I (fun k => g133 52 k rfl) (fun k => g133 53 k rfl) (fun k => g133 54 k rfl) (fun k => g133 55 k rfl) (fun k => g133 6 k rfl) (g133 0 64 rfl) (g133 0 3 rfl)
        have t152 := (gr_ATp_rr x8).2.2.1.resolve_left (by exact gz_m 101 (by omega))
        have A153 := gr_ATp_nx x8 q133.2.2.2.2.2
        have t154 := gr_ATp_l A153
        obtain ⟨_, _, -, -, -, -⟩ := q133
        refine gv_callV hD rfl (As := []) (st := []) rfl (by decide) rfl rfl (gr_lV hws rfl) (Nat.le_of_ble_eq_true rfl) (gz_Ev_mono (d := 10) (by exact gz_m 102 (by omega)) E133) ?_
        show gv_X _ _ (156, [(0, .inr (.inr (some 0))), (1, .inl a1)], [], gr_sh ++ ext, gr_h I134 J135)
        refine gv_run 4 true hD (pc' := 160) (lv' := [(0, .inr (.inr (some 0))), (1, .inl a1)]) (st' := [.inl (a1 + 1), .inr (.inr (some 0))]) (h' := gr_h I134 J135) (C := ((((True ∧ True) ∧ True) ∧ True) ∧ True)) rfl ⟨⟨⟨⟨trivial, trivial⟩, trivial⟩, trivial⟩, trivial⟩ ?_
        obtain ⟨r155, h155, E155, P155⟩ := ihR I134 J135 hI134 (a1 + 1) β N9 (gs_X β N9 p9) (m9 - 1) ⟨by exact gz_m 103 (by omega), by exact gz_m 104 (by omega)⟩ (gr_ATp_rr A153).1 (gr_ATp_rr A153).2.1 (gr_ATp_rr A153).2.2.1 (gr_ATp_rr A153).2.2.2.1 (gr_ATp_rr A153).2.2.2.2 (by exact gz_m 105 (by omega)) (by exact gz_m 106 (by omega)) (by exact gz_m 107 (by omega)) A153 (by exact gz_m 108 (by omega)) (by exact gz_m 109 (by omega)) KTM_I134 KTO_I134 (by exact gz_m 110 (by omega))
        obtain ⟨I156, J157, rfl, hI156, g155, k155, KTM_I156, KTO_I156, ⟨z155, rfl, q155⟩⟩ := P155
        have FI156 := gr_frt FI134 g155 rfl rfl
        have FJ157 := gr_fjt FJ135 k155 rfl rfl
        have t158 := g155 0 69 rfl
        have t159 := g155 0 123 rfl
        have t160 := g155 0 3 rfl
        have f161 := (gr_b_0_71 hI156)
        have f162 := (gr_b_0_72 hI156)
        have f163 := (gr_b_0_73 hI156)
        have f164 := (gr_b_0_69 hI156)
        have f165 := (gr_b_0_64 hI156)
        have f166 := (gr_b_0_122 hI156)
        have f167 := (gr_b_0_123 hI156)
        have f168 := (gr_b_0_3 hI156)
        have f169 := (gr_b_0_74 hI156)
        have f170 := (gr_b_0_77 hI156)
        refine gv_callV hD rfl (As := [.inl (a1 + 1)]) (st := []) rfl (by decide) rfl rfl (gr_lV hws rfl) (Nat.le_of_ble_eq_true rfl) (gz_Ev_mono (d := (14 + 2 * nr)) (Nat.le_refl _) E155) ?_
        show gv_X _ _ (163, [(0, .inr (.inr (some 0))), (1, .inl a1)], [.inl z155], gr_sh ++ ext, gr_h I156 J157)
        refine gv_run 2 true hD (pc' := 165) (lv' := [(2, .inl z155), (0, .inr (.inr (some 0))), (1, .inl a1)]) (st' := [.inl z155]) (h' := gr_h I156 J157) (C := ((True ∧ True) ∧ True)) rfl ⟨⟨trivial, trivial⟩, trivial⟩ ?_
        refine gv_if_lt (t := 177) hD rfl rfl ⟨by exact gz_m 111 (by omega), by exact gz_m 112 (by omega)⟩ (fun c171 => ?_) (fun c171 => ?_)
        · have Q172 := q155.2.2.2.2.2.2.1.2
          rw [FI134 0 123 rfl, FI134 6 (Int.toNat (I 0 123)) rfl] at Q172
          obtain ⟨u172, u172_⟩ := gs_O9_0 Q172 (by exact gz_m 113 (by omega))
          refine gv_run 2 true hD (pc' := 182) (lv' := [(2, .inl z155), (0, .inr (.inr (some 0))), (1, .inl a1)]) (st' := [.inl (-1)]) (h' := gr_h I156 J157) (C := ((True ∧ True) ∧ True)) rfl ⟨⟨trivial, trivial⟩, trivial⟩ ?_
          exact gv_iret hD rfl ⟨I156, J157, rfl, hI156, FI156, FJ157, KTM_I156, KTO_I156, ⟨_, rfl, by exact gz_m 114 (by omega), by exact gz_m 115 (by omega), by exact gz_m 116 (by omega), by exact gz_m 117 (by omega), by exact gz_m 118 (by omega), by exact gz_m 119 (by omega), ⟨by exact gz_m 120 (by omega), (gs_TQ_n (c := (gs_tm β N9 (I 6 (Int.toNat (I 0 123))) (m9 - 1) 0 (a1 + 1) (gs_X β N9 p9)).1) (n := (gs_tm β N9 (I 6 (Int.toNat (I 0 123))) (m9 - 1) 0 (a1 + 1) (gs_X β N9 p9)).2) ((by rw [gs_tm_1 (by exact gz_m 121 (by omega))]; unfold gs_atm; (repeat first | rw [if_pos (by exact gz_m 122 (by omega))] | rw [if_neg (by exact gz_m 123 (by omega))]) : (gs_tm β N9 (I 6 (Int.toNat (I 0 123))) m9 1 a1 p9) = gs_bd (gs_tm β N9 (I 6 (Int.toNat (I 0 123))) (m9 - 1) 0 (a1 + 1) (gs_X β N9 p9)) (fun q9 => (gs_need β N9 41 q9, 0))).trans ((gs_bd_x (by exact gz_m 124 (by omega))).trans gs_pr)) (by exact gz_m 125 (by omega)) (by exact gz_m 126 (by omega)) (by exact gz_m 127 (by omega)))⟩, by exact gz_m 128 (by omega), by exact gz_m 129 (by omega), by exact gz_m 130 (by omega), by exact gz_m 131 (by omega), by exact gz_m 132 (by omega), by exact gz_m 133 (by omega), by exact gz_m 134 (by omega), by exact gz_m 135 (by omega), by exact gz_m 136 (by omega), (Or.inl (by exact gz_m 137 (by omega))), (gr_TS9_tr (gr_TS9_tr (gr_TS9_rf I) (gr_TS9_fr (fun k => g133 55 k rfl) (fun k => g133 52 k rfl) (fun k => g133 53 k rfl) (fun k => g133 54 k rfl)) (by exact gz_m 138 (by omega))) q155.2.2.2.2.2.2.2.2.2.2.2.2.2.2.2.2.2 (by exact gz_m 139 (by omega)))⟩⟩
        · have Q173 := q155.2.2.2.2.2.2.1.2
          rw [FI134 0 123 rfl, FI134 6 (Int.toNat (I 0 123)) rfl] at Q173
          obtain ⟨u173, A173, U173⟩ := gs_O9_1 Q173 (by exact gz_m 140 (by omega))
          have t174 := gr_ATp_l A173
          refine gv_run 2 true hD (pc' := 171) (lv' := [(2, .inl z155), (0, .inr (.inr (some 0))), (1, .inl a1)]) (st' := [.inl 41, .inr (.inr (some 0))]) (h' := gr_h I156 J157) (C := ((True ∧ True) ∧ True)) rfl ⟨⟨trivial, trivial⟩, trivial⟩ ?_
          obtain ⟨r175, h175, E175, P175⟩ := r_need_p (ws0 := ws0) (tb := tb) hws htb ext β N9 ((gs_tm β N9 (I 6 (Int.toNat (I 0 123))) (m9 - 1) 0 (a1 + 1) (gs_X β N9 p9)).1) I156 J157 hI156 41 ⟨by exact gz_m 141 (by omega), by exact gz_m 142 (by omega)⟩ (gr_ATp_rr A173).1 (gr_ATp_rr A173).2.1 (gr_ATp_rr A173).2.2.1 (gr_ATp_rr A173).2.2.2.1 (gr_ATp_rr A173).2.2.2.2 A173 (by exact gz_m 143 (by omega))
          obtain ⟨I176, J177, rfl, hI176, g175, k175, ⟨z175, rfl, q175⟩⟩ := P175
          have FI176 := gr_frt FI156 g175 rfl rfl
          have FJ177 := gr_fjt FJ157 k175 rfl rfl
          have t178 := g175 0 69 rfl
          have t179 := g175 0 64 rfl
          have t180 := g175 0 122 rfl
          have t181 := g175 0 123 rfl
          have t182 := g175 0 3 rfl
          have f183 := (gr_b_0_71 hI176)
          have f184 := (gr_b_0_72 hI176)
          have f185 := (gr_b_0_73 hI176)
          have f186 := (gr_b_0_69 hI176)
          have f187 := (gr_b_0_64 hI176)
          have f188 := (gr_b_0_122 hI176)
          have f189 := (gr_b_0_123 hI176)
          have f190 := (gr_b_0_3 hI176)
          have f191 := (gr_b_0_74 hI176)
          have f192 := (gr_b_0_77 hI176)
          have KTM_I176 := gr_TM_fr KTM_I156 (fun k => g175 52 k rfl) (fun k => g175 53 k rfl) (fun k => g175 54 k rfl) (g175 0 64 rfl)
          have KTO_I176 := gr_TO_fr KTO_I156 (fun k => g175 52 k rfl) (fun k => g175 53 k rfl) (fun k => g175 54 k rfl) (fun k => g175 55 k rfl) (fun k => g175 6 k rfl) (g175 0 64 rfl) (g175 0 3 rfl)
          refine gv_callV hD rfl (As := [.inl 41]) (st := []) rfl (by decide) rfl rfl (gr_lV hws rfl) (Nat.le_of_ble_eq_true rfl) (gz_Ev_mono (d := 11) (by exact gz_m 144 (by omega)) E175) ?_
          show gv_X _ _ (174, [(2, .inl z155), (0, .inr (.inr (some 0))), (1, .inl a1)], [.inl z175], gr_sh ++ ext, gr_h I176 J177)
          refine gv_if_ne (t := 181) hD rfl rfl ⟨by exact gz_m 145 (by omega), by exact gz_m 146 (by omega)⟩ (fun c193 => ?_) (fun c193 => ?_)
          · obtain ⟨u194, A194⟩ := gs_or1 q175.2.2.2.2.2.2.2.2.2.2.2 (by exact gz_m 147 (by omega))
            have t195 := gr_ATp_l A194
            have t196 := (q175.2.2.2.2.2.2.2.2.2.2.1).resolve_left (by exact gz_m 148 (by omega))
            obtain ⟨_, _, -, _, -, -, _, _, _, _, -, -⟩ := q175
            have t197 := (gr_ATp_rr A173).2.2.1.resolve_left (by exact gz_m 149 (by omega))
            refine gv_run 1 true hD (pc' := 182) (lv' := [(2, .inl z155), (0, .inr (.inr (some 0))), (1, .inl a1)]) (st' := [.inl z155]) (h' := gr_h I176 J177) (C := (True ∧ True)) rfl ⟨trivial, trivial⟩ ?_
            exact gv_iret hD rfl ⟨I176, J177, rfl, hI176, FI176, FJ177, KTM_I176, KTO_I176, ⟨_, rfl, by exact gz_m 150 (by omega), by exact gz_m 151 (by omega), (gr_ATp_rr A194).1, (gr_ATp_rr A194).2.1, (gr_ATp_rr A194).2.2.1, (gr_ATp_rr A194).2.2.2.1, ⟨(gr_ATp_rr A194).2.2.2.2, (gs_TQ_y (c := gs_need β N9 41 (gs_tm β N9 (I 6 (Int.toNat (I 0 123))) (m9 - 1) 0 (a1 + 1) (gs_X β N9 p9)).1) (n := (gs_tm β N9 (I 6 (Int.toNat (I 0 123))) (m9 - 1) 0 (a1 + 1) (gs_X β N9 p9)).2 + 0) ((by rw [gs_tm_1 (by exact gz_m 152 (by omega))]; unfold gs_atm; (repeat first | rw [if_pos (by exact gz_m 153 (by omega))] | rw [if_neg (by exact gz_m 154 (by omega))]) : (gs_tm β N9 (I 6 (Int.toNat (I 0 123))) m9 1 a1 p9) = gs_bd (gs_tm β N9 (I 6 (Int.toNat (I 0 123))) (m9 - 1) 0 (a1 + 1) (gs_X β N9 p9)) (fun q9 => (gs_need β N9 41 q9, 0))).trans (gs_bd_e (by exact gz_m 155 (by omega)))) (by exact gz_m 156 (by omega)) (by exact gz_m 157 (by omega)) A194 (by exact gz_m 158 (by omega)))⟩, by exact gz_m 159 (by omega), by exact gz_m 160 (by omega), by exact gz_m 161 (by omega), by exact gz_m 162 (by omega), by exact gz_m 163 (by omega), by exact gz_m 164 (by omega), by exact gz_m 165 (by omega), by exact gz_m 166 (by omega), by exact gz_m 167 (by omega), (gr_OWN_x q155.2.2.2.2.2.2.2.2.2.2.2.2.2.2.2.2.1 (gr_TS9_fr (fun k => g175 55 k rfl) (fun k => g175 52 k rfl) (fun k => g175 53 k rfl) (fun k => g175 54 k rfl)) (by exact gz_m 168 (by omega)) (by exact gz_m 169 (by omega)) (by exact gz_m 170 (by omega))), (gr_TS9_tr (gr_TS9_tr (gr_TS9_tr (gr_TS9_rf I) (gr_TS9_fr (fun k => g133 55 k rfl) (fun k => g133 52 k rfl) (fun k => g133 53 k rfl) (fun k => g133 54 k rfl)) (by exact gz_m 171 (by omega))) q155.2.2.2.2.2.2.2.2.2.2.2.2.2.2.2.2.2 (by exact gz_m 172 (by omega))) (gr_TS9_fr (fun k => g175 55 k rfl) (fun k => g175 52 k rfl) (fun k => g175 53 k rfl) (fun k => g175 54 k rfl)) (by exact gz_m 173 (by omega)))⟩⟩
          · obtain ⟨u198, u198_⟩ := gs_or0 q175.2.2.2.2.2.2.2.2.2.2.2 (by exact gz_m 174 (by omega))
            refine gv_run 2 true hD (pc' := 182) (lv' := [(2, .inl z155), (0, .inr (.inr (some 0))), (1, .inl a1)]) (st' := [.inl (-1)]) (h' := gr_h I176 J177) (C := ((True ∧ True) ∧ True)) rfl ⟨⟨trivial, trivial⟩, trivial⟩ ?_
            exact gv_iret hD rfl ⟨I176, J177, rfl, hI176, FI176, FJ177, KTM_I176, KTO_I176, ⟨_, rfl, by exact gz_m 175 (by omega), by exact gz_m 176 (by omega), by exact gz_m 177 (by omega), by exact gz_m 178 (by omega), by exact gz_m 179 (by omega), by exact gz_m 180 (by omega), ⟨by exact gz_m 181 (by omega), (gs_TQ_n (c := gs_need β N9 41 (gs_tm β N9 (I 6 (Int.toNat (I 0 123))) (m9 - 1) 0 (a1 + 1) (gs_X β N9 p9)).1) (n := (gs_tm β N9 (I 6 (Int.toNat (I 0 123))) (m9 - 1) 0 (a1 + 1) (gs_X β N9 p9)).2 + 0) ((by rw [gs_tm_1 (by exact gz_m 182 (by omega))]; unfold gs_atm; (repeat first | rw [if_pos (by exact gz_m 183 (by omega))] | rw [if_neg (by exact gz_m 184 (by omega))]) : (gs_tm β N9 (I 6 (Int.toNat (I 0 123))) m9 1 a1 p9) = gs_bd (gs_tm β N9 (I 6 (Int.toNat (I 0 123))) (m9 - 1) 0 (a1 + 1) (gs_X β N9 p9)) (fun q9 => (gs_need β N9 41 q9, 0))).trans (gs_bd_e (by exact gz_m 185 (by omega)))) (by exact gz_m 186 (by omega)) (by exact gz_m 187 (by omega)) (by exact gz_m 188 (by omega)))⟩, by exact gz_m 189 (by omega), by exact gz_m 190 (by omega), by exact gz_m 191 (by omega), by exact gz_m 192 (by omega), by exact gz_m 193 (by omega), by exact gz_m 194 (by omega), by exact gz_m 195 (by omega), by exact gz_m 196 (by omega), by exact gz_m 197 (by omega), (Or.inl (by exact gz_m 198 (by omega))), (gr_TS9_tr (gr_TS9_tr (gr_TS9_tr (gr_TS9_rf I) (gr_TS9_fr (fun k => g133 55 k rfl) (fun k => g133 52 k rfl) (fun k => g133 53 k rfl) (fun k => g133 54 k rfl)) (by exact gz_m 199 (by omega))) q155.2.2.2.2.2.2.2.2.2.2.2.2.2.2.2.2.2 (by exact gz_m 200 (by omega))) (gr_TS9_fr (fun k => g175 55 k rfl) (fun k => g175 52 k rfl) (fun k => g175 53 k rfl) (fun k => g175 54 k rfl)) (by exact gz_m 201 (by omega)))⟩⟩
      · have u199 := gs_or0 V128 (by exact gz_m 202 (by omega))
        clear o128 V128
        refine gv_run 2 true hD (pc' := 148) (lv' := [(0, .inr (.inr (some 0))), (1, .inl a1)]) (st' := [.inl 1, .inr (.inr (some 0))]) (h' := gr_h I J) (C := ((True ∧ True) ∧ True)) rfl ⟨⟨trivial, trivial⟩, trivial⟩ ?_
        obtain ⟨r200, h200, E200, P200⟩ := r_none_p (ws0 := ws0) (tb := tb) hws htb ext β N9 p9 I J hI 1 ⟨by exact gz_m 203 (by omega), by exact gz_m 204 (by omega)⟩ x8 (by exact gz_m 205 (by omega))
        obtain ⟨I201, J202, rfl, hI201, g200, k200, ⟨z200, rfl, q200⟩⟩ := P200
        have FI201 := gr_frt FI g200 rfl rfl
        have FJ202 := gr_fjt FJ k200 rfl rfl
        have t203 := g200 0 71 rfl
        have t204 := g200 0 72 rfl
        have t205 := g200 0 73 rfl
        have t206 := g200 0 69 rfl
        have t207 := g200 0 64 rfl
        have t208 := g200 0 122 rfl
        have t209 := g200 0 123 rfl
        have t210 := g200 0 3 rfl
        have t211 := g200 0 74 rfl
        have f212 := (gr_b_0_71 hI201)
        have f213 := (gr_b_0_72 hI201)
        have f214 := (gr_b_0_73 hI201)
        have f215 := (gr_b_0_69 hI201)
        have f216 := (gr_b_0_64 hI201)
        have f217 := (gr_b_0_122 hI201)
        have f218 := (gr_b_0_123 hI201)
        have f219 := (gr_b_0_3 hI201)
        have f220 := (gr_b_0_74 hI201)
        have f221 := (gr_b_0_77 hI201)
        have KTM_I201 := gr_TM_fr KTM_I (fun k => g200 52 k rfl) (fun k => g200 53 k rfl) (fun k => g200 54 k rfl) (g200 0 64 rfl)
        have KTO_I201 := gr_TO_fr KTO_I (fun k => g200 52 k rfl) (fun k => g200 53 k rfl) (fun k => g200 54 k rfl) (fun k => g200 55 k rfl) (fun k => g200 6 k rfl) (g200 0 64 rfl) (g200 0 3 rfl)
        have A222 := gr_ATp_F x8 g200 k200 rfl
        have t223 := gr_ATp_l A222
        refine gv_callV hD rfl (As := [.inl 1]) (st := []) rfl (by decide) rfl rfl (gr_lV hws rfl) (Nat.le_of_ble_eq_true rfl) (gz_Ev_mono (d := 3) (by exact gz_m 206 (by omega)) E200) ?_
        show gv_X _ _ (151, [(0, .inr (.inr (some 0))), (1, .inl a1)], [.inl z200], gr_sh ++ ext, gr_h I201 J202)
        exact gv_iret hD rfl ⟨I201, J202, rfl, hI201, FI201, FJ202, KTM_I201, KTO_I201, ⟨_, rfl, by exact gz_m 207 (by omega), by exact gz_m 208 (by omega), (gr_ATp_rr A222).1, (gr_ATp_rr A222).2.1, (gr_ATp_rr A222).2.2.1, (gr_ATp_rr A222).2.2.2.1, ⟨(gr_ATp_rr A222).2.2.2.2, (gs_TQ_n (c := -1 - gs_A β N9 p9) (n := 0) (by rw [gs_tm_1 (by exact gz_m 209 (by omega))]; unfold gs_atm; (repeat first | rw [if_pos (by exact gz_m 210 (by omega))] | rw [if_neg (by exact gz_m 211 (by omega))])) (by exact gz_m 212 (by omega)) (by exact gz_m 213 (by omega)) (by exact gz_m 214 (by omega)))⟩, by exact gz_m 215 (by omega), by exact gz_m 216 (by omega), by exact gz_m 217 (by omega), by exact gz_m 218 (by omega), by exact gz_m 219 (by omega), by exact gz_m 220 (by omega), by exact gz_m 221 (by omega), by exact gz_m 222 (by omega), by exact gz_m 223 (by omega), (Or.inl (by exact gz_m 224 (by omega))), (gr_TS9_tr (gr_TS9_rf I) (gr_TS9_fr (fun k => g200 55 k rfl) (fun k => g200 52 k rfl) (fun k => g200 53 k rfl) (fun k => g200 54 k rfl)) (by exact gz_m 225 (by omega)))⟩⟩
    · have t224 := (gr_ATp_k x8 (c := 2) (by exact gz_m 226 (by omega))).mp (by exact gz_m 227 (by omega))
      have t225 := (gr_ATp_rr x8).2.2.1.resolve_left (by exact gz_m 228 (by omega))
      have t226 := gr_ATp_n x8 t224
      have f227 := (gr_b_0_74 hI)
      refine gv_run 3 true hD (pc' := 92) (lv' := [(0, .inr (.inr (some 0))), (1, .inl a1)]) (st' := [.inl 1, .inl (I 0 74)]) (h' := gr_h I J) (C := (((True ∧ True) ∧ True) ∧ True)) rfl ⟨⟨⟨trivial, trivial⟩, trivial⟩, trivial⟩ ?_
      refine gv_icmp_lt (t := 111) hD rfl rfl ⟨⟨by exact gz_m 229 (by omega), by exact gz_m 230 (by omega)⟩, ⟨by exact gz_m 231 (by omega), by exact gz_m 232 (by omega)⟩⟩ (fun c228 => ?_) (fun c228 => ?_)
      · refine gv_run 2 true hD (pc' := 113) (lv' := [(0, .inr (.inr (some 0))), (1, .inl a1)]) (st' := [.inl 5, .inr (.inr (some 0))]) (h' := gr_h I J) (C := ((True ∧ True) ∧ True)) rfl ⟨⟨trivial, trivial⟩, trivial⟩ ?_
        obtain ⟨r229, h229, E229, P229⟩ := r_none_p (ws0 := ws0) (tb := tb) hws htb ext β N9 p9 I J hI 5 ⟨by exact gz_m 233 (by omega), by exact gz_m 234 (by omega)⟩ x8 (by exact gz_m 235 (by omega))
        obtain ⟨I230, J231, rfl, hI230, g229, k229, ⟨z229, rfl, q229⟩⟩ := P229
        have FI230 := gr_frt FI g229 rfl rfl
        have FJ231 := gr_fjt FJ k229 rfl rfl
        have t232 := g229 0 71 rfl
        have t233 := g229 0 72 rfl
        have t234 := g229 0 73 rfl
        have t235 := g229 0 69 rfl
        have t236 := g229 0 64 rfl
        have t237 := g229 0 122 rfl
        have t238 := g229 0 123 rfl
        have t239 := g229 0 3 rfl
        have t240 := g229 0 74 rfl
        have f241 := (gr_b_0_71 hI230)
        have f242 := (gr_b_0_72 hI230)
        have f243 := (gr_b_0_73 hI230)
        have f244 := (gr_b_0_69 hI230)
        have f245 := (gr_b_0_64 hI230)
        have f246 := (gr_b_0_122 hI230)
        have f247 := (gr_b_0_123 hI230)
        have f248 := (gr_b_0_3 hI230)
        have f249 := (gr_b_0_74 hI230)
        have f250 := (gr_b_0_77 hI230)
        have KTM_I230 := gr_TM_fr KTM_I (fun k => g229 52 k rfl) (fun k => g229 53 k rfl) (fun k => g229 54 k rfl) (g229 0 64 rfl)
        have KTO_I230 := gr_TO_fr KTO_I (fun k => g229 52 k rfl) (fun k => g229 53 k rfl) (fun k => g229 54 k rfl) (fun k => g229 55 k rfl) (fun k => g229 6 k rfl) (g229 0 64 rfl) (g229 0 3 rfl)
        have A251 := gr_ATp_F x8 g229 k229 rfl
        have t252 := gr_ATp_l A251
        refine gv_callV hD rfl (As := [.inl 5]) (st := []) rfl (by decide) rfl rfl (gr_lV hws rfl) (Nat.le_of_ble_eq_true rfl) (gz_Ev_mono (d := 3) (by exact gz_m 236 (by omega)) E229) ?_
        show gv_X _ _ (116, [(0, .inr (.inr (some 0))), (1, .inl a1)], [.inl z229], gr_sh ++ ext, gr_h I230 J231)
        exact gv_iret hD rfl ⟨I230, J231, rfl, hI230, FI230, FJ231, KTM_I230, KTO_I230, ⟨_, rfl, by exact gz_m 237 (by omega), by exact gz_m 238 (by omega), (gr_ATp_rr A251).1, (gr_ATp_rr A251).2.1, (gr_ATp_rr A251).2.2.1, (gr_ATp_rr A251).2.2.2.1, ⟨(gr_ATp_rr A251).2.2.2.2, (gs_TQ_n (c := -1 - gs_A β N9 p9) (n := 0) (by rw [gs_tm_1 (by exact gz_m 239 (by omega))]; unfold gs_atm; (repeat first | rw [if_pos (by exact gz_m 240 (by omega))] | rw [if_neg (by exact gz_m 241 (by omega))])) (by exact gz_m 242 (by omega)) (by exact gz_m 243 (by omega)) (by exact gz_m 244 (by omega)))⟩, by exact gz_m 245 (by omega), by exact gz_m 246 (by omega), by exact gz_m 247 (by omega), by exact gz_m 248 (by omega), by exact gz_m 249 (by omega), by exact gz_m 250 (by omega), by exact gz_m 251 (by omega), by exact gz_m 252 (by omega), by exact gz_m 253 (by omega), (Or.inl (by exact gz_m 254 (by omega))), (gr_TS9_tr (gr_TS9_rf I) (gr_TS9_fr (fun k => g229 55 k rfl) (fun k => g229 52 k rfl) (fun k => g229 53 k rfl) (fun k => g229 54 k rfl)) (by exact gz_m 255 (by omega)))⟩⟩
      · have f253 := (gr_b_0_74 hI)
        have f254 := (gr_b_0_123 hI)
        have f255 := (gr_b_6 hI (Int.toNat ((I 0 123))))
        refine gv_run 7 true hD (pc' := 108) (lv' := [(0, .inr (.inr (some 0))), (1, .inl a1)]) (st' := [.inl (I 6 (Int.toNat ((I 0 123)))), .inl (I 0 74)]) (h' := gr_h I J) (C := (((((((True ∧ True) ∧ True) ∧ True) ∧ True) ∧ True) ∧ True) ∧ (0 ≤ (I 0 123) ∧ (I 0 123) < ((96 : Nat) : Int)))) rfl ⟨⟨⟨⟨⟨⟨⟨trivial, trivial⟩, trivial⟩, trivial⟩, trivial⟩, trivial⟩, trivial⟩, ⟨by exact gz_m 256 (by omega), by exact gz_m 257 (by omega)⟩⟩ ?_
        refine gv_icmp_le (t := 117) hD rfl rfl ⟨⟨by exact gz_m 258 (by omega), by exact gz_m 259 (by omega)⟩, ⟨by exact gz_m 260 (by omega), by exact gz_m 261 (by omega)⟩⟩ (fun c256 => ?_) (fun c256 => ?_)
        · have f257 := (gr_b_0_74 hI)
          refine gv_run 7 true hD (pc' := 126) (lv' := [(0, .inr (.inr (some 0))), (1, .inl a1)]) (st' := [.inl 0, .inl ((I 0 74) - 1), .inl 3, .inr (.inr (some 0))]) (h' := gr_h I J) (C := (((((((True ∧ True) ∧ True) ∧ True) ∧ True) ∧ True) ∧ True) ∧ True)) rfl ⟨⟨⟨⟨⟨⟨⟨trivial, trivial⟩, trivial⟩, trivial⟩, trivial⟩, trivial⟩, trivial⟩, trivial⟩ ?_
          refine gv_run 1 true hD (pc' := 127) (lv' := [(0, .inr (.inr (some 0))), (1, .inl a1)]) (st' := [.inr (.inl (Int64.ofNat 0)), .inl 0, .inl ((I 0 74) - 1), .inl 3, .inr (.inr (some 0))]) (h' := gr_h I J) (C := (True ∧ True)) rfl ⟨trivial, trivial⟩ ?_
          obtain ⟨r258, h258, E258, P258⟩ := r_node_w (ws0 := ws0) (tb := tb) hws htb ext I J hI 3 (((I 0 74) - 1)) 0 (Int64.ofNat 0) ⟨by exact gz_m 262 (by omega), by exact gz_m 263 (by omega)⟩ ⟨by exact gz_m 264 (by omega), by exact gz_m 265 (by omega)⟩ ⟨by exact gz_m 266 (by omega), by exact gz_m 267 (by omega)⟩ (by exact gz_m 268 (by omega)) (by exact gz_m 269 (by omega)) (by exact gz_m 270 (by omega)) KTO_I (gr_NDp_3 (by exact gz_m 271 (by omega))) (by exact gz_m 272 (by omega)) KTM_I
          obtain ⟨I259, J260, rfl, hI259, g258, k258, KTM_I259, ⟨z258, rfl, q258⟩⟩ := P258
          have FI259 := gr_frt FI g258 rfl rfl
          have FJ260 := gr_fjt FJ k258 rfl rfl
          have t261 := g258 0 71 rfl
          have t262 := g258 0 72 rfl
          have t263 := g258 0 73 rfl
          have t264 := g258 0 69 rfl
          have t265 := g258 0 122 rfl
          have t266 := g258 0 123 rfl
          have t267 := g258 0 3 rfl
          have t268 := g258 0 74 rfl
          have t269 := g258 0 77 rfl
          have f270 := (gr_b_0_71 hI259)
          have f271 := (gr_b_0_72 hI259)
          have f272 := (gr_b_0_73 hI259)
          have f273 := (gr_b_0_69 hI259)
          have f274 := (gr_b_0_64 hI259)
          have f275 := (gr_b_0_122 hI259)
          have f276 := (gr_b_0_123 hI259)
          have f277 := (gr_b_0_3 hI259)
          have f278 := (gr_b_0_74 hI259)
          have f279 := (gr_b_0_77 hI259)
          have KTO_I259 : gr_TO I259 := q258.2.2.2.2.1
          have A280 := gr_ATp_F x8 g258 k258 rfl
          have t281 := gr_ATp_l A280
          refine gv_callV hD rfl (As := [.inl 3, .inl ((I 0 74) - 1), .inl 0, .inr (.inl (Int64.ofNat 0))]) (st := []) rfl (by decide) rfl rfl (gr_lV hws rfl) (Nat.le_of_ble_eq_true rfl) (gz_Ev_mono (d := 1) (by exact gz_m 273 (by omega)) E258) ?_
          show gv_X _ _ (130, [(0, .inr (.inr (some 0))), (1, .inl a1)], [.inl z258], gr_sh ++ ext, gr_h I259 J260)
          refine gv_run 2 true hD (pc' := 132) (lv' := [(2, .inl z258), (0, .inr (.inr (some 0))), (1, .inl a1)]) (st' := [.inr (.inr (some 0))]) (h' := gr_h I259 J260) (C := ((True ∧ True) ∧ True)) rfl ⟨⟨trivial, trivial⟩, trivial⟩ ?_
          obtain ⟨r282, h282, E282, P282⟩ := r_next_p (ws0 := ws0) (tb := tb) hws htb ext β N9 I259 J260 hI259   ((gr_ATp_rr A280).1.resolve_left (by exact gz_m 274 (by omega))) A280.1.1 A280.1.2
          obtain ⟨I283, J284, rfl, hI283, g282, k282, ⟨rfl, q282⟩⟩ := P282
          have FI283 := gr_frt FI259 g282 rfl rfl
          have FJ284 := gr_fjt FJ260 k282 rfl rfl
          have t285 := g282 0 69 rfl
          have t286 := g282 0 64 rfl
          have t287 := g282 0 122 rfl
          have t288 := g282 0 123 rfl
          have t289 := g282 0 3 rfl
          have t290 := g282 0 77 rfl
          have f291 := (gr_b_0_71 hI283)
          have f292 := (gr_b_0_72 hI283)
          have f293 := (gr_b_0_73 hI283)
          have f294 := (gr_b_0_69 hI283)
          have f295 := (gr_b_0_64 hI283)
          have f296 := (gr_b_0_122 hI283)
          have f297 := (gr_b_0_123 hI283)
          have f298 := (gr_b_0_3 hI283)
          have f299 := (gr_b_0_74 hI283)
          have f300 := (gr_b_0_77 hI283)
          have KTM_I283 := gr_TM_fr KTM_I259 (fun k => g282 52 k rfl) (fun k => g282 53 k rfl) (fun k => g282 54 k rfl) (g282 0 64 rfl)
          have KTO_I283 := gr_TO_fr KTO_I259 (fun k => g282 52 k rfl) (fun k => g282 53 k rfl) (fun k => g282 54 k rfl) (fun k => g282 55 k rfl) (fun k => g282 6 k rfl) (g282 0 64 rfl) (g282 0 3 rfl)
          have t301 := (gr_ATp_rr A280).2.2.1.resolve_left (by exact gz_m 275 (by omega))
          have A302 := gr_ATp_nx A280 q282.2.2.2.2.2
          have t303 := gr_ATp_l A302
          obtain ⟨_, _, -, -, -, -⟩ := q282
          refine gv_callV hD rfl (As := []) (st := []) rfl (by decide) rfl rfl (gr_lV hws rfl) (Nat.le_of_ble_eq_true rfl) (gz_Ev_mono (d := 10) (by exact gz_m 276 (by omega)) E282) ?_
          show gv_X _ _ (135, [(2, .inl z258), (0, .inr (.inr (some 0))), (1, .inl a1)], [], gr_sh ++ ext, gr_h I283 J284)
          refine gv_run 1 true hD (pc' := 136) (lv' := [(2, .inl z258), (0, .inr (.inr (some 0))), (1, .inl a1)]) (st' := [.inl z258]) (h' := gr_h I283 J284) (C := (True ∧ True)) rfl ⟨trivial, trivial⟩ ?_
          exact gv_iret hD rfl ⟨I283, J284, rfl, hI283, FI283, FJ284, KTM_I283, KTO_I283, ⟨_, rfl, by exact gz_m 277 (by omega), by exact gz_m 278 (by omega), (gr_ATp_rr A302).1, (gr_ATp_rr A302).2.1, (gr_ATp_rr A302).2.2.1, (gr_ATp_rr A302).2.2.2.1, ⟨(gr_ATp_rr A302).2.2.2.2, (gs_TQ_y (c := gs_X β N9 p9) (n := 1) (by rw [gs_tm_1 (by exact gz_m 279 (by omega))]; unfold gs_atm; (repeat first | rw [if_pos (by exact gz_m 280 (by omega))] | rw [if_neg (by exact gz_m 281 (by omega))])) (by exact gz_m 282 (by omega)) (by exact gz_m 283 (by omega)) A302 (by exact gz_m 284 (by omega)))⟩, by exact gz_m 285 (by omega), by exact gz_m 286 (by omega), by exact gz_m 287 (by omega), by exact gz_m 288 (by omega), by exact gz_m 289 (by omega), by exact gz_m 290 (by omega), by exact gz_m 291 (by omega), by exact gz_m 292 (by omega), by exact gz_m 293 (by omega), (gr_OWN_x (show gr_OWN z258 (I 0 123) (I 0 122) I259 from Or.inr ⟨by exact gz_m 294 (by omega), by exact gz_m 295 (by omega)⟩) (gr_TS9_fr (fun k => g282 55 k rfl) (fun k => g282 52 k rfl) (fun k => g282 53 k rfl) (fun k => g282 54 k rfl)) (by exact gz_m 296 (by omega)) (by exact gz_m 297 (by omega)) (by exact gz_m 298 (by omega))), (gr_TS9_tr (gr_TS9_tr (gr_TS9_rf I) q258.2.2.2.2.2.1 (by exact gz_m 299 (by omega))) (gr_TS9_fr (fun k => g282 55 k rfl) (fun k => g282 52 k rfl) (fun k => g282 53 k rfl) (fun k => g282 54 k rfl)) (by exact gz_m 300 (by omega)))⟩⟩
        · refine gv_run 2 true hD (pc' := 113) (lv' := [(0, .inr (.inr (some 0))), (1, .inl a1)]) (st' := [.inl 5, .inr (.inr (some 0))]) (h' := gr_h I J) (C := ((True ∧ True) ∧ True)) rfl ⟨⟨trivial, trivial⟩, trivial⟩ ?_
          obtain ⟨r304, h304, E304, P304⟩ := r_none_p (ws0 := ws0) (tb := tb) hws htb ext β N9 p9 I J hI 5 ⟨by exact gz_m 301 (by omega), by exact gz_m 302 (by omega)⟩ x8 (by exact gz_m 303 (by omega))
          obtain ⟨I305, J306, rfl, hI305, g304, k304, ⟨z304, rfl, q304⟩⟩ := P304
          have FI305 := gr_frt FI g304 rfl rfl
          have FJ306 := gr_fjt FJ k304 rfl rfl
          have t307 := g304 0 71 rfl
          have t308 := g304 0 72 rfl
          have t309 := g304 0 73 rfl
          have t310 := g304 0 69 rfl
          have t311 := g304 0 64 rfl
          have t312 := g304 0 122 rfl
          have t313 := g304 0 123 rfl
          have t314 := g304 0 3 rfl
          have t315 := g304 0 74 rfl
          have f316 := (gr_b_0_71 hI305)
          have f317 := (gr_b_0_72 hI305)
          have f318 := (gr_b_0_73 hI305)
          have f319 := (gr_b_0_69 hI305)
          have f320 := (gr_b_0_64 hI305)
          have f321 := (gr_b_0_122 hI305)
          have f322 := (gr_b_0_123 hI305)
          have f323 := (gr_b_0_3 hI305)
          have f324 := (gr_b_0_74 hI305)
          have f325 := (gr_b_0_77 hI305)
          have KTM_I305 := gr_TM_fr KTM_I (fun k => g304 52 k rfl) (fun k => g304 53 k rfl) (fun k => g304 54 k rfl) (g304 0 64 rfl)
          have KTO_I305 := gr_TO_fr KTO_I (fun k => g304 52 k rfl) (fun k => g304 53 k rfl) (fun k => g304 54 k rfl) (fun k => g304 55 k rfl) (fun k => g304 6 k rfl) (g304 0 64 rfl) (g304 0 3 rfl)
          have A326 := gr_ATp_F x8 g304 k304 rfl
          have t327 := gr_ATp_l A326
          refine gv_callV hD rfl (As := [.inl 5]) (st := []) rfl (by decide) rfl rfl (gr_lV hws rfl) (Nat.le_of_ble_eq_true rfl) (gz_Ev_mono (d := 3) (by exact gz_m 304 (by omega)) E304) ?_
          show gv_X _ _ (116, [(0, .inr (.inr (some 0))), (1, .inl a1)], [.inl z304], gr_sh ++ ext, gr_h I305 J306)
          exact gv_iret hD rfl ⟨I305, J306, rfl, hI305, FI305, FJ306, KTM_I305, KTO_I305, ⟨_, rfl, by exact gz_m 305 (by omega), by exact gz_m 306 (by omega), (gr_ATp_rr A326).1, (gr_ATp_rr A326).2.1, (gr_ATp_rr A326).2.2.1, (gr_ATp_rr A326).2.2.2.1, ⟨(gr_ATp_rr A326).2.2.2.2, (gs_TQ_n (c := -1 - gs_A β N9 p9) (n := 0) (by rw [gs_tm_1 (by exact gz_m 307 (by omega))]; unfold gs_atm; (repeat first | rw [if_pos (by exact gz_m 308 (by omega))] | rw [if_neg (by exact gz_m 309 (by omega))])) (by exact gz_m 310 (by omega)) (by exact gz_m 311 (by omega)) (by exact gz_m 312 (by omega)))⟩, by exact gz_m 313 (by omega), by exact gz_m 314 (by omega), by exact gz_m 315 (by omega), by exact gz_m 316 (by omega), by exact gz_m 317 (by omega), by exact gz_m 318 (by omega), by exact gz_m 319 (by omega), by exact gz_m 320 (by omega), by exact gz_m 321 (by omega), (Or.inl (by exact gz_m 322 (by omega))), (gr_TS9_tr (gr_TS9_rf I) (gr_TS9_fr (fun k => g304 55 k rfl) (fun k => g304 52 k rfl) (fun k => g304 53 k rfl) (fun k => g304 54 k rfl)) (by exact gz_m 323 (by omega)))⟩⟩
  · have t328 := (gr_ATp_k x8 (c := 1) (by exact gz_m 324 (by omega))).mp (by exact gz_m 325 (by omega))
    have t329 := (gr_ATp_rr x8).2.2.1.resolve_left (by exact gz_m 326 (by omega))
    have f330 := (gr_b_0_122 hI)
    refine gv_run 5 true hD (pc' := 15) (lv' := [(2, .inl ((I 0 122) - 1)), (0, .inr (.inr (some 0))), (1, .inl a1)]) (st' := []) (h' := gr_h I J) (C := (((((True ∧ True) ∧ True) ∧ True) ∧ True) ∧ True)) rfl ⟨⟨⟨⟨⟨trivial, trivial⟩, trivial⟩, trivial⟩, trivial⟩, trivial⟩ ?_
    refine gv_pick [1, 0] rfl ?_
    exact L15 _ (((I 0 122) - 1)) (Nat.lt_succ_self _) (by exact gz_m 327 (by omega))
