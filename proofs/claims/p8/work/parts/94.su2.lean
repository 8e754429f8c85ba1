def gr_RR9 (I : gr_I) : Prop := (I 0 71 = 5 ∨ I 0 73 ≤ I 0 69) ∧ I 0 72 ≤ I 0 69 ∧ (I 0 71 = 0 ∨ (I 0 72 < I 0 73 ∧ I 0 72 < I 0 69)) ∧ (I 0 71 = 3 → 2 ≤ I 0 73 - I 0 72 ∧ I 0 73 - I 0 72 ≤ 14) ∧ I 0 72 ≤ I 0 73
set_option maxHeartbeats 32000000 in
set_option maxRecDepth 100000 in
theorem r_term_p {ws0 : List Cond} {tb : String → gz_T} (hws : ∀ w ∈ gr_ws, w ∈ ws0) (htb : tb RX13 = gr_T) (ext : gz_Sh) : ∀ (nr : Nat), ∀ (I : gr_I) (J : gr_J) (hI : gr_Inv I) (a1 : Int) (β : Int → Int) (N9 : Int) (p9 : Int) (m9 : Int) (ha1 : 1 ≤ a1 ∧ a1 ≤ 41) (x0 : I 0 71 = 5 ∨ I 0 73 ≤ I 0 69) (x1 : I 0 72 ≤ I 0 69) (x2 : I 0 71 = 0 ∨ (I 0 72 < I 0 73 ∧ I 0 72 < I 0 69)) (x3 : I 0 71 = 3 → 2 ≤ I 0 73 - I 0 72 ∧ I 0 73 - I 0 72 ≤ 14) (x4 : I 0 72 ≤ I 0 73) (x5 : I 0 64 + I 0 69 - I 0 72 ≤ 1900) (x6 : I 0 122 ≤ a1) (x7 : I 0 123 < I 0 3) (x8 : gr_ATp β N9 p9 I J) (x9 : 0 ≤ p9) (x10 : 4 * (1001 - gs_A β N9 p9) + 4 ≤ m9) (KTM_I : gr_TM I) (KTO_I : gr_TO I) (_ : (42 - a1).toNat < nr), ∃ r h', gz_Ev ws0 tb (14 + 2 * nr) (yX13_term, cX13_term, 4, (some .int)) [.inr (.inr (some 0)), .inl a1] (gr_sh ++ ext) (gr_h I J) r (gr_sh ++ ext) h' 0 0 ∧ (∃ (I' : gr_I) (J' : gr_J), h' = gr_h I' J' ∧ gr_Inv I' ∧ gr_fr [64, 71, 72, 73, 74, 75, 76, 77, 122] [52, 53, 54, 55, 75] I I' ∧ gr_fj [64, 71, 72, 73, 74, 75, 76, 77, 122] [52, 53, 54, 55, 75] J J' ∧ gr_TM I' ∧ gr_TO I' ∧ (∃ z : Int, r = some (.inl z) ∧ (-1) ≤ z ∧ z ≤ 1999 ∧ (I' 0 71 = 5 ∨ I' 0 73 ≤ I' 0 69) ∧ (I' 0 72 ≤ I' 0 69) ∧ (I' 0 71 = 0 ∨ (I' 0 72 < I' 0 73 ∧ I' 0 72 < I' 0 69)) ∧ (I' 0 71 = 3 → 2 ≤ I' 0 73 - I' 0 72 ∧ I' 0 73 - I' 0 72 ≤ 14) ∧ ((I' 0 72 ≤ I' 0 73) ∧ gs_TQ β N9 (gs_tm β N9 (I 6 (Int.toNat (I 0 123))) m9 0 a1 p9) z I I' J') ∧ (I' 0 69 = I 0 69) ∧ (I 0 73 ≤ I' 0 73) ∧ (I 0 72 ≤ I' 0 72) ∧ (I 0 64 ≤ I' 0 64) ∧ (I' 0 64 - I' 0 72 ≤ I 0 64 - I 0 72) ∧ (I 0 122 ≤ I' 0 122) ∧ (z < 0 ∨ I' 0 122 = I 0 122) ∧ (z < I' 0 64) ∧ (z < 0 ∨ I 0 72 < I' 0 72) ∧ (gr_OWN z (I 0 123) (I 0 122) I') ∧ (gr_TS9 I I'))) := by
  intro nr
  induction nr with
  | zero => intro I J hI a1 β N9 p9 m9 ha1 x0 x1 x2 x3 x4 x5 x6 x7 x8 x9 x10 KTM_I KTO_I hnr; exact gz_m 0 (by omega)
  | succ nr ihR =>
  intro I J hI a1 β N9 p9 m9 ha1 x0 x1 x2 x3 x4 x5 x6 x7 x8 x9 x10 KTM_I KTO_I hnr
  show ∃ r h', gz_Ev ws0 tb (14 + 2 * nr + 1 + 1) (yX13_term, cX13_term, 4, (some .int)) [.inr (.inr (some 0)), .inl a1] (gr_sh ++ ext) (gr_h I J) r (gr_sh ++ ext) h' 0 0 ∧ (∃ (I' : gr_I) (J' : gr_J), h' = gr_h I' J' ∧ gr_Inv I' ∧ gr_fr [64, 71, 72, 73, 74, 75, 76, 77, 122] [52, 53, 54, 55, 75] I I' ∧ gr_fj [64, 71, 72, 73, 74, 75, 76, 77, 122] [52, 53, 54, 55, 75] J J' ∧ gr_TM I' ∧ gr_TO I' ∧ (∃ z : Int, r = some (.inl z) ∧ (-1) ≤ z ∧ z ≤ 1999 ∧ (I' 0 71 = 5 ∨ I' 0 73 ≤ I' 0 69) ∧ (I' 0 72 ≤ I' 0 69) ∧ (I' 0 71 = 0 ∨ (I' 0 72 < I' 0 73 ∧ I' 0 72 < I' 0 69)) ∧ (I' 0 71 = 3 → 2 ≤ I' 0 73 - I' 0 72 ∧ I' 0 73 - I' 0 72 ≤ 14) ∧ ((I' 0 72 ≤ I' 0 73) ∧ gs_TQ β N9 (gs_tm β N9 (I 6 (Int.toNat (I 0 123))) m9 0 a1 p9) z I I' J') ∧ (I' 0 69 = I 0 69) ∧ (I 0 73 ≤ I' 0 73) ∧ (I 0 72 ≤ I' 0 72) ∧ (I 0 64 ≤ I' 0 64) ∧ (I' 0 64 - I' 0 72 ≤ I 0 64 - I 0 72) ∧ (I 0 122 ≤ I' 0 122) ∧ (z < 0 ∨ I' 0 122 = I 0 122) ∧ (z < I' 0 64) ∧ (z < 0 ∨ I 0 72 < I' 0 72) ∧ (gr_OWN z (I 0 123) (I 0 122) I') ∧ (gr_TS9 I I')))
  have FI : gr_fr [64, 71, 72, 73, 74, 75, 76, 77, 122] [52, 53, 54, 55, 75] I I := fun _ _ _ => rfl
  have FJ : gr_fj [64, 71, 72, 73, 74, 75, 76, 77, 122] [52, 53, 54, 55, 75] J J := fun _ _ _ => rfl
  have hD : gv_D (gr_E ws0 tb (14 + 2 * nr + 1) (yX13_term, cX13_term, 4, (some .int)) kX13_term) := gq_of oX13_term
  refine gr_ev (d := (14 + 2 * nr + 1)) (l := kX13_term) (Po := fun r h' => (∃ (I' : gr_I) (J' : gr_J), h' = gr_h I' J' ∧ gr_Inv I' ∧ gr_fr [64, 71, 72, 73, 74, 75, 76, 77, 122] [52, 53, 54, 55, 75] I I' ∧ gr_fj [64, 71, 72, 73, 74, 75, 76, 77, 122] [52, 53, 54, 55, 75] J J' ∧ gr_TM I' ∧ gr_TO I' ∧ (∃ z : Int, r = some (.inl z) ∧ (-1) ≤ z ∧ z ≤ 1999 ∧ (I' 0 71 = 5 ∨ I' 0 73 ≤ I' 0 69) ∧ (I' 0 72 ≤ I' 0 69) ∧ (I' 0 71 = 0 ∨ (I' 0 72 < I' 0 73 ∧ I' 0 72 < I' 0 69)) ∧ (I' 0 71 = 3 → 2 ≤ I' 0 73 - I' 0 72 ∧ I' 0 73 - I' 0 72 ≤ 14) ∧ ((I' 0 72 ≤ I' 0 73) ∧ gs_TQ β N9 (gs_tm β N9 (I 6 (Int.toNat (I 0 123))) m9 0 a1 p9) z I I' J') ∧ (I' 0 69 = I 0 69) ∧ (I 0 73 ≤ I' 0 73) ∧ (I 0 72 ≤ I' 0 72) ∧ (I 0 64 ≤ I' 0 64) ∧ (I' 0 64 - I' 0 72 ≤ I 0 64 - I 0 72) ∧ (I 0 122 ≤ I' 0 122) ∧ (z < 0 ∨ I' 0 122 = I 0 122) ∧ (z < I' 0 64) ∧ (z < 0 ∨ I 0 72 < I' 0 72) ∧ (gr_OWN z (I 0 123) (I 0 122) I') ∧ (gr_TS9 I I')))) htb rfl (Nat.le_of_ble_eq_true rfl) ?_
  have tAT := gr_ATp_l x8
  clear x0 x2 x3
  have f1 := (gr_b_0_71 hI)
  have f2 := (gr_b_0_72 hI)
  have f3 := (gr_b_0_73 hI)
  have f4 := (gr_b_0_69 hI)
  have f5 := (gr_b_0_64 hI)
  have f6 := (gr_b_0_122 hI)
  have f7 := (gr_b_0_123 hI)
  have f8 := (gr_b_0_3 hI)
  have f9 := (gr_b_0_77 hI)
  have L39 : ∀ (I10 : gr_I) (J11 : gr_J) (p_12 : Int), gr_Inv I10 → gr_fr [64, 71, 72, 73, 74, 75, 76, 77, 122] [52, 53, 54, 55, 75] I I10 → gr_fj [64, 71, 72, 73, 74, 75, 76, 77, 122] [52, 53, 54, 55, 75] J J11 → gr_TM I10 → gr_TO I10 → ((1 ≤ a1 ∧ a1 ≤ 40) ∧ (a1 ≤ 40) ∧ (I10 0 71 = 1) ∧ (I 0 72 < I10 0 72) ∧ (I10 0 64 = I 0 64) ∧ (I10 0 122 = I 0 122) ∧ (0 ≤ p_12) ∧ (I10 0 72 ≤ I10 0 69) ∧ (I10 0 72 ≤ I10 0 73) ∧ (I10 0 69 = I 0 69) ∧ (I 0 73 ≤ I10 0 73) ∧ (I 0 72 ≤ I10 0 72)) → (gr_TS9 I I10) → (gr_ATp β N9 p_12 I10 J11) → ((gs_tm β N9 (I 6 (Int.toNat (I 0 123))) m9 0 a1 p9) = gs_lam2 β N9 (gs_tm β N9 (I 6 (Int.toNat (I 0 123))) (m9 - 1) 0 (a1 + 1)) p_12) → gv_X (gr_E ws0 tb (14 + 2 * nr + 1) (yX13_term, cX13_term, 4, (some .int)) kX13_term) (gv_Q cX13_term (some .int) (gr_sh ++ ext) (fun r h' => (∃ (I' : gr_I) (J' : gr_J), h' = gr_h I' J' ∧ gr_Inv I' ∧ gr_fr [64, 71, 72, 73, 74, 75, 76, 77, 122] [52, 53, 54, 55, 75] I I' ∧ gr_fj [64, 71, 72, 73, 74, 75, 76, 77, 122] [52, 53, 54, 55, 75] J J' ∧ gr_TM I' ∧ gr_TO I' ∧ (∃ z : Int, r = some (.inl z) ∧ (-1) ≤ z ∧ z ≤ 1999 ∧ (I' 0 71 = 5 ∨ I' 0 73 ≤ I' 0 69) ∧ (I' 0 72 ≤ I' 0 69) ∧ (I' 0 71 = 0 ∨ (I' 0 72 < I' 0 73 ∧ I' 0 72 < I' 0 69)) ∧ (I' 0 71 = 3 → 2 ≤ I' 0 73 - I' 0 72 ∧ I' 0 73 - I' 0 72 ≤ 14) ∧ ((I' 0 72 ≤ I' 0 73) ∧ gs_TQ β N9 (gs_tm β N9 (I 6 (Int.toNat (I 0 123))) m9 0 a1 p9) z I I' J') ∧ (I' 0 69 = I 0 69) ∧ (I 0 73 ≤ I' 0 73) ∧ (I 0 72 ≤ I' 0 72) ∧ (I 0 64 ≤ I' 0 64) ∧ (I' 0 64 - I' 0 72 ≤ I 0 64 - I 0 72) ∧ (I 0 122 ≤ I' 0 122) ∧ (z < 0 ∨ I' 0 122 = I 0 122) ∧ (z < I' 0 64) ∧ (z < 0 ∨ I 0 72 < I' 0 72) ∧ (gr_OWN z (I 0 123) (I 0 122) I') ∧ (gr_TS9 I I'))))) (39, [(0, .inr (.inr (some 0))), (1, .inl a1)], [], gr_sh ++ ext, gr_h I10 J11) := by
    intro I10 J11 p_12 hI10 FI10 FJ11 KTM_I10 KTO_I10 m_12 e5_12 e7_12 e8_12
    obtain ⟨ha1_12, e0_12, e1_12, e2_12, e3_12, e4_12, e6_12, e9_12, e10_12, e11_12, e12_12, e13_12⟩ := m_12
    have f13 := (gr_b_0_71 hI10)
    have f14 := (gr_b_0_72 hI10)
    have f15 := (gr_b_0_73 hI10)
    have f16 := (gr_b_0_69 hI10)
    have f17 := (gr_b_0_64 hI10)
    have f18 := (gr_b_0_122 hI10)
    have f19 := (gr_b_0_123 hI10)
    have f20 := (gr_b_0_3 hI10)
    have f21 := (gr_b_0_77 hI10)
    have t22 := FI10 0 123 rfl
    have t23 := FI10 0 3 rfl
    have t24 := gr_ATp_l e7_12
    have L74 : ∀ (I25 : gr_I) (J26 : gr_J) (p_27 : Int), gr_Inv I25 → gr_fr [64, 71, 72, 73, 74, 75, 76, 77, 122] [52, 53, 54, 55, 75] I I25 → gr_fj [64, 71, 72, 73, 74, 75, 76, 77, 122] [52, 53, 54, 55, 75] J J26 → gr_TM I25 → gr_TO I25 → ((1 ≤ a1 ∧ a1 ≤ 40) ∧ (a1 ≤ 40) ∧ (I 0 72 < I25 0 72) ∧ (I25 0 64 = I 0 64) ∧ (I25 0 122 = I 0 122 + 1) ∧ (0 ≤ p_27) ∧ (I25 0 72 ≤ I25 0 69) ∧ (I25 0 72 ≤ I25 0 73) ∧ (I25 0 69 = I 0 69) ∧ (I 0 73 ≤ I25 0 73) ∧ (I 0 72 ≤ I25 0 72)) → (gr_TS9 I I25) → (gr_ATp β N9 p_27 I25 J26) → ((gs_tm β N9 (I 6 (Int.toNat (I 0 123))) m9 0 a1 p9) = gs_bd (gs_tm β N9 (I 6 (Int.toNat (I 0 123))) (m9 - 1) 0 (a1 + 1) p_27) (fun q9 => (q9, 1))) → gv_X (gr_E ws0 tb (14 + 2 * nr + 1) (yX13_term, cX13_term, 4, (some .int)) kX13_term) (gv_Q cX13_term (some .int) (gr_sh ++ ext) (fun r h' => (∃ (I' : gr_I) (J' : gr_J), h' = gr_h I' J' ∧ gr_Inv I' ∧ gr_fr [64, 71, 72, 73, 74, 75, 76, 77, 122] [52, 53, 54, 55, 75] I I' ∧ gr_fj [64, 71, 72, 73, 74, 75, 76, 77, 122] [52, 53, 54, 55, 75] J J' ∧ gr_TM I' ∧ gr_TO I' ∧ (∃ z : Int, r = some (.inl z) ∧ (-1) ≤ z ∧ z ≤ 1999 ∧ (I' 0 71 = 5 ∨ I' 0 73 ≤ I' 0 69) ∧ (I' 0 72 ≤ I' 0 69) ∧ (I' 0 71 = 0 ∨ (I' 0 72 < I' 0 73 ∧ I' 0 72 < I' 0 69)) ∧ (I' 0 71 = 3 → 2 ≤ I' 0 73 - I' 0 72 ∧ I' 0 73 - I' 0 72 ≤ 14) ∧ ((I' 0 72 ≤ I' 0 73) ∧ gs_TQ β N9 (gs_tm β N9 (I 6 (Int.toNat (I 0 123))) m9 0 a1 p9) z I I' J') ∧ (I' 0 69 = I 0 69) ∧ (I 0 73 ≤ I' 0 73) ∧ (I 0 72 ≤ I' 0 72) ∧ (I 0 64 ≤ I' 0 64) ∧ (I' 0 64 - I' 0 72 ≤ I 0 64 - I 0 72) ∧ (I 0 122 ≤ I' 0 122) ∧ (z < 0 ∨ I' 0 122 = I 0 122) ∧ (z < I' 0 64) ∧ (z < 0 ∨ I 0 72 < I' 0 72) ∧ (gr_OWN z (I 0 123) (I 0 122) I') ∧ (gr_TS9 I I'))))) (74, [(0, .inr (.inr (some 0))), (1, .inl a1)], [], gr_sh ++ ext, gr_h I25 J26) := by
      intro I25 J26 p_27 hI25 FI25 FJ26 KTM_I25 KTO_I25 m_27 e4_27 e6_27 e7_27
      clear ha1_12 e0_12 e1_12 e2_12 e3_12 e4_12 e6_12 e9_12 e10_12 e11_12 e12_12 e13_12 f13 f14 f15 f16 f17 f18 f19 f20 f21 t22 t23 t24
      obtain ⟨ha1_27, e0_27, e1_27, e2_27, e3_27, e5_27, e8_27, e9_27, e10_27, e11_27, e12_27⟩ := m_27
      have f28 := (gr_b_0_71 hI25)
      have f29 := (gr_b_0_72 hI25)
      have f30 := (gr_b_0_73 hI25)
      have f31 := (gr_b_0_69 hI25)
      have f32 := (gr_b_0_64 hI25)
      have f33 := (gr_b_0_122 hI25)
      have f34 := (gr_b_0_123 hI25)
      have f35 := (gr_b_0_3 hI25)
      have f36 := (gr_b_0_77 hI25)
      have t37 := FI25 0 123 rfl
      have t38 := FI25 0 3 rfl
      have t39 := gr_ATp_l e6_27
      refine gv_run 4 true hD (pc' := 78) (lv' := [(0, .inr (.inr (some 0))), (1, .inl a1)]) (st' := [.inl (a1 + 1), .inr (.inr (some 0))]) (h' := gr_h I25 J26) (C := ((((True ∧ True) ∧ True) ∧ True) ∧ True)) rfl ⟨⟨⟨⟨trivial, trivial⟩, trivial⟩, trivial⟩, trivial⟩ ?_
      obtain ⟨r40, h40, E40, P40⟩ := ihR I25 J26 hI25 (a1 + 1) β N9 p_27 (m9 - 1) ⟨by exact gz_m 1 (by omega), by exact gz_m 2 (by omega)⟩ (gr_ATp_rr e6_27).1 (gr_ATp_rr e6_27).2.1 (gr_ATp_rr e6_27).2.2.1 (gr_ATp_rr e6_27).2.2.2.1 (gr_ATp_rr e6_27).2.2.2.2 (by exact gz_m 3 (by omega)) (by exact gz_m 4 (by omega)) (by exact gz_m 5 (by omega)) e6_27 (by exact gz_m 6 (by omega)) (by exact gz_m 7 (by omega)) KTM_I25 KTO_I25 (by exact gz_m 8 (by omega))
      obtain ⟨I41, J42, rfl, hI41, g40, k40, KTM_I41, KTO_I41, ⟨z40, rfl, q40⟩⟩ := P40
      have FI41 := gr_frt FI25 g40 rfl rfl
      have FJ42 := gr_fjt FJ26 k40 rfl rfl
      have t43 := g40 0 69 rfl
      have t44 := g40 0 123 rfl
      have t45 := g40 0 3 rfl
      have f46 := (gr_b_0_71 hI41)
      have f47 := (gr_b_0_72 hI41)
      have f48 := (gr_b_0_73 hI41)
      have f49 := (gr_b_0_69 hI41)
      have f50 := (gr_b_0_64 hI41)
      have f51 := (gr_b_0_122 hI41)
      have f52 := (gr_b_0_123 hI41)
      have f53 := (gr_b_0_3 hI41)
      have f54 := (gr_b_0_77 hI41)
      refine gv_callV hD rfl (As := [.inl (a1 + 1)]) (st := []) rfl (by decide) rfl rfl (gr_lV hws rfl) (Nat.le_of_ble_eq_true rfl) (gz_Ev_mono (d := (14 + 2 * nr)) (by exact gz_m 9 (by omega)) E40) ?_
      show gv_X _ _ (81, [(0, .inr (.inr (some 0))), (1, .inl a1)], [.inl z40], gr_sh ++ ext, gr_h I41 J42)
      have f55 := (gr_b_0_122 hI41)
      refine gv_run 6 true hD (pc' := 89) (lv' := [(2, .inl z40), (0, .inr (.inr (some 0))), (1, .inl a1)]) (st' := [.inl ((I41 0 122) - 1), .inr (.inr (some 0))]) (h' := gr_h I41 J42) (C := ((((((True ∧ True) ∧ True) ∧ True) ∧ True) ∧ True) ∧ True)) rfl ⟨⟨⟨⟨⟨⟨trivial, trivial⟩, trivial⟩, trivial⟩, trivial⟩, trivial⟩, trivial⟩ ?_
      refine gv_run 1 true hD (pc' := 92) (lv' := [(2, .inl z40), (0, .inr (.inr (some 0))), (1, .inl a1)]) (st' := []) (h' := gz_up (gr_h I41 J42) 0 122 (.inl (((I41 0 122) - 1)))) (C := (True ∧ True)) rfl ⟨trivial, trivial⟩ ?_
      refine gr_st hI41 FI41 rfl rfl ⟨⟨by show 0 ≤ _; exact gz_m 10 (by omega), by show _ ≤ 47; exact gz_m 11 (by omega)⟩, trivial⟩ (fun I56 hI56 FI56 q57 p57 => ?_)
      have t58 := p57 0 71 (by decide)
      have t59 := p57 0 72 (by decide)
      have t60 := p57 0 73 (by decide)
      have t61 := p57 0 69 (by decide)
      have t62 := p57 0 64 (by decide)
      have t63 := p57 0 123 (by decide)
      have t64 := p57 0 3 (by decide)
      have t65 := p57 0 77 (by decide)
      have f66 := (gr_b_0_71 hI56)
      have f67 := (gr_b_0_72 hI56)
      have f68 := (gr_b_0_73 hI56)
      have f69 := (gr_b_0_69 hI56)
      have f70 := (gr_b_0_64 hI56)
      have f71 := (gr_b_0_122 hI56)
      have f72 := (gr_b_0_123 hI56)
      have f73 := (gr_b_0_3 hI56)
      have f74 := (gr_b_0_77 hI56)
      have KTM_I56 := gr_TM_fr KTM_I41 (fun k => p57 52 k (fun q => absurd q.1 (by decide))) (fun k => p57 53 k (fun q => absurd q.1 (by decide))) (fun k => p57 54 k (fun q => absurd q.1 (by decide))) (p57 0 64 (by decide))
      have KTO_I56 := gr_TO_fr KTO_I41 (fun k => p57 52 k (fun q => absurd q.1 (by decide))) (fun k => p57 53 k (fun q => absurd q.1 (by decide))) (fun k => p57 54 k (fun q => absurd q.1 (by decide))) (fun k => p57 55 k (fun q => absurd q.1 (by decide))) (fun k => p57 6 k (fun q => absurd q.1 (by decide))) (p57 0 64 (by decide)) (p57 0 3 (by decide))
      have t75 := FI56 0 123 rfl
      have t76 := FI56 0 3 rfl
      refine gv_run 1 true hD (pc' := 93) (lv' := [(2, .inl z40), (0, .inr (.inr (some 0))), (1, .inl a1)]) (st' := [.inl z40]) (h' := gr_h I56 J42) (C := (True ∧ True)) rfl ⟨trivial, trivial⟩ ?_
      refine gv_if_ge (t := 100) hD rfl rfl ⟨by exact gz_m 12 (by omega), by exact gz_m 13 (by omega)⟩ (fun c77 => ?_) (fun c77 => ?_)
      · have Q78 := q40.2.2.2.2.2.2.1.2
        rw [FI25 0 123 rfl, FI25 6 (Int.toNat (I 0 123)) rfl] at Q78
        obtain ⟨u78, A78, U78⟩ := gs_O9_1 Q78 (by exact gz_m 14 (by omega))
        have A79 := gr_ATp_sf A78 p57 rfl
        have t80 := gr_ATp_l A79
        refine gv_run 5 true hD (pc' := 105) (lv' := [(2, .inl z40), (0, .inr (.inr (some 0))), (1, .inl a1)]) (st' := [.inr (.inl (Int64.ofNat 0)), .inl 0, .inl z40, .inl 0, .inr (.inr (some 0))]) (h' := gr_h I56 J42) (C := (((((True ∧ True) ∧ True) ∧ True) ∧ True) ∧ True)) rfl ⟨⟨⟨⟨⟨trivial, trivial⟩, trivial⟩, trivial⟩, trivial⟩, trivial⟩ ?_
        obtain ⟨r81, h81, E81, P81⟩ := r_node_w (ws0 := ws0) (tb := tb) hws htb ext I56 J42 hI56 0 z40 0 (Int64.ofNat 0) ⟨by exact gz_m 15 (by omega), by exact gz_m 16 (by omega)⟩ ⟨by exact gz_m 17 (by omega), by exact gz_m 18 (by omega)⟩ ⟨by exact gz_m 19 (by omega), by exact gz_m 20 (by omega)⟩ (by exact gz_m 21 (by omega)) (by exact gz_m 22 (by omega)) (by exact gz_m 23 (by omega)) KTO_I56 (gr_NDp_0 (gr_OWN_x (f' := (I25 0 123)) (b' := (I25 0 122)) q40.2.2.2.2.2.2.2.2.2.2.2.2.2.2.2.2.1 (gr_TS9_fr (fun k => p57 55 k (fun q => absurd q.1 (by decide))) (fun k => p57 52 k (fun q => absurd q.1 (by decide))) (fun k => p57 53 k (fun q => absurd q.1 (by decide))) (fun k => p57 54 k (fun q => absurd q.1 (by decide)))) (by exact gz_m 24 (by omega)) rfl (Int.le_refl _)) (by exact gz_m 25 (by omega)) (by exact gz_m 26 (by omega)) (by exact gz_m 27 (by omega))) (by exact gz_m 28 (by omega)) KTM_I56
        obtain ⟨I82, J83, rfl, hI82, g81, k81, KTM_I82, ⟨z81, rfl, q81⟩⟩ := P81
        have FI82 := gr_frt FI56 g81 rfl rfl
        have FJ83 := gr_fjt FJ42 k81 rfl rfl
        have t84 := g81 0 71 rfl
        have t85 := g81 0 72 rfl
        have t86 := g81 0 73 rfl
        have t87 := g81 0 69 rfl
        have t88 := g81 0 122 rfl
        have t89 := g81 0 123 rfl
        have t90 := g81 0 3 rfl
        have t91 := g81 0 77 rfl
        have f92 := (gr_b_0_71 hI82)
        have f93 := (gr_b_0_72 hI82)
        have f94 := (gr_b_0_73 hI82)
        have f95 := (gr_b_0_69 hI82)
        have f96 := (gr_b_0_64 hI82)
        have f97 := (gr_b_0_122 hI82)
        have f98 := (gr_b_0_123 hI82)
        have f99 := (gr_b_0_3 hI82)
        have f100 := (gr_b_0_77 hI82)
        have KTO_I82 : gr_TO I82 := q81.2.2.2.2.1
        have A101 := gr_ATp_F A79 g81 k81 rfl
        have t102 := gr_ATp_l A101
        refine gv_callV hD rfl (As := [.inl 0, .inl z40, .inl 0, .inr (.inl (Int64.ofNat 0))]) (st := []) rfl (by decide) rfl rfl (gr_lV hws rfl) (Nat.le_of_ble_eq_true rfl) (gz_Ev_mono (d := 1) (by exact gz_m 29 (by omega)) E81) ?_
        show gv_X _ _ (108, [(2, .inl z40), (0, .inr (.inr (some 0))), (1, .inl a1)], [.inl z81], gr_sh ++ ext, gr_h I82 J83)
        exact gv_iret hD rfl ⟨I82, J83, rfl, hI82, FI82, FJ83, KTM_I82, KTO_I82, ⟨_, rfl, by exact gz_m 30 (by omega), by exact gz_m 31 (by omega), (gr_ATp_rr A101).1, (gr_ATp_rr A101).2.1, (gr_ATp_rr A101).2.2.1, (gr_ATp_rr A101).2.2.2.1, ⟨(gr_ATp_rr A101).2.2.2.2, (gs_TQ_y (c := (gs_tm β N9 (I 6 (Int.toNat (I 0 123))) (m9 - 1) 0 (a1 + 1) p_27).1) (n := (gs_tm β N9 (I 6 (Int.toNat (I 0 123))) (m9 - 1) 0 (a1 + 1) p_27).2 + 1) (e7_27.trans (gs_bd_e (by exact gz_m 32 (by omega)))) (by exact gz_m 33 (by omega)) (by exact gz_m 34 (by omega)) A101 (by exact gz_m 35 (by omega)))⟩, by exact gz_m 36 (by omega), by exact gz_m 37 (by omega), by exact gz_m 38 (by omega), by exact gz_m 39 (by omega), by exact gz_m 40 (by omega), by exact gz_m 41 (by omega), by exact gz_m 42 (by omega), by exact gz_m 43 (by omega), by exact gz_m 44 (by omega), (gr_OWN_x (show gr_OWN z81 (I 0 123) (I 0 122) I82 from Or.inr ⟨by exact gz_m 45 (by omega), by exact gz_m 46 (by omega)⟩) (gr_TS9_rf _) (by exact gz_m 47 (by omega)) (by exact gz_m 48 (by omega)) (by exact gz_m 49 (by omega))), (gr_TS9_tr (gr_TS9_tr (gr_TS9_tr e4_27 q40.2.2.2.2.2.2.2.2.2.2.2.2.2.2.2.2.2 (by exact gz_m 50 (by omega))) (gr_TS9_fr (fun k => p57 55 k (fun q => absurd q.1 (by decide))) (fun k => p57 52 k (fun q => absurd q.1 (by decide))) (fun k => p57 53 k (fun q => absurd q.1 (by decide))) (fun k => p57 54 k (fun q => absurd q.1 (by decide)))) (by exact gz_m 51 (by omega))) q81.2.2.2.2.2.1 (by exact gz_m 52 (by omega)))⟩⟩
      · have Q103 := q40.2.2.2.2.2.2.1.2
        rw [FI25 0 123 rfl, FI25 6 (Int.toNat (I 0 123)) rfl] at Q103
        obtain ⟨u103, u103_⟩ := gs_O9_0 Q103 (by exact gz_m 53 (by omega))
        refine gv_run 2 true hD (pc' := 108) (lv' := [(2, .inl z40), (0, .inr (.inr (some 0))), (1, .inl a1)]) (st' := [.inl (-1)]) (h' := gr_h I56 J42) (C := ((True ∧ True) ∧ True)) rfl ⟨⟨trivial, trivial⟩, trivial⟩ ?_
        exact gv_iret hD rfl ⟨I56, J42, rfl, hI56, FI56, FJ42, KTM_I56, KTO_I56, ⟨_, rfl, by exact gz_m 54 (by omega), by exact gz_m 55 (by omega), by exact gz_m 56 (by omega), by exact gz_m 57 (by omega), by exact gz_m 58 (by omega), by exact gz_m 59 (by omega), ⟨by exact gz_m 60 (by omega), (gs_TQ_n (c := (gs_tm β N9 (I 6 (Int.toNat (I 0 123))) (m9 - 1) 0 (a1 + 1) p_27).1) (n := (gs_tm β N9 (I 6 (Int.toNat (I 0 123))) (m9 - 1) 0 (a1 + 1) p_27).2) (e7_27.trans ((gs_bd_x (by exact gz_m 61 (by omega))).trans gs_pr)) (by exact gz_m 62 (by omega)) (by exact gz_m 63 (by omega)) (by exact gz_m 64 (by omega)))⟩, by exact gz_m 65 (by omega), by exact gz_m 66 (by omega), by exact gz_m 67 (by omega), by exact gz_m 68 (by omega), by exact gz_m 69 (by omega), by exact gz_m 70 (by omega), by exact gz_m 71 (by omega), by exact gz_m 72 (by omega), by exact gz_m 73 (by omega), (Or.inl (by exact gz_m 74 (by omega))), (gr_TS9_tr (gr_TS9_tr e4_27 q40.2.2.2.2.2.2.2.2.2.2.2.2.2.2.2.2.2 (by exact gz_m 75 (by omega))) (gr_TS9_fr (fun k => p57 55 k (fun q => absurd q.1 (by decide))) (fun k => p57 52 k (fun q => absurd q.1 (by decide))) (fun k => p57 53 k (fun q => absurd q.1 (by decide))) (fun k => p57 54 k (fun q => absurd q.1 (by decide)))) (by exact gz_m 76 (by omega)))⟩⟩
    have f104 := (gr_b_0_122 hI10)
    refine gv_run 7 true hD (pc' := 50) (lv' := [(0, .inr (.inr (some 0))), (1, .inl a1)]) (st' := [.inl 1, .inl (I10 0 122), .inr (.inr (some 0)), .inl (I10 0 122), .inr (.inr (some 75))]) (h' := gr_h I10 J11) (C := (((((((True ∧ True) ∧ True) ∧ True) ∧ True) ∧ True) ∧ True) ∧ True)) rfl ⟨⟨⟨⟨⟨⟨⟨trivial, trivial⟩, trivial⟩, trivial⟩, trivial⟩, trivial⟩, trivial⟩, trivial⟩ ?_
    refine gv_run 2 true hD (pc' := 54) (lv' := [(0, .inr (.inr (some 0))), (1, .inl a1)]) (st' := [.inl (I10 0 122), .inr (.inr (some 75))]) (h' := gz_up (gr_h I10 J11) 0 122 (.inl (((I10 0 122) + 1)))) (C := ((True ∧ True) ∧ True)) rfl ⟨⟨trivial, trivial⟩, trivial⟩ ?_
    refine gr_st hI10 FI10 rfl rfl ⟨⟨by show 0 ≤ _; exact gz_m 77 (by omega), by show _ ≤ 47; exact gz_m 78 (by omega)⟩, trivial⟩ (fun I105 hI105 FI105 q106 p106 => ?_)
    have t107 := p106 0 71 (by decide)
    have t108 := p106 0 72 (by decide)
    have t109 := p106 0 73 (by decide)
    have t110 := p106 0 69 (by decide)
    have t111 := p106 0 64 (by decide)
    have t112 := p106 0 123 (by decide)
    have t113 := p106 0 3 (by decide)
    have t114 := p106 0 77 (by decide)
    have f115 := (gr_b_0_71 hI105)
    have f116 := (gr_b_0_72 hI105)
    have f117 := (gr_b_0_73 hI105)
    have f118 := (gr_b_0_69 hI105)
    have f119 := (gr_b_0_64 hI105)
    have f120 := (gr_b_0_122 hI105)
    have f121 := (gr_b_0_123 hI105)
    have f122 := (gr_b_0_3 hI105)
    have f123 := (gr_b_0_77 hI105)
    have KTM_I105 := gr_TM_fr KTM_I10 (fun k => p106 52 k (fun q => absurd q.1 (by decide))) (fun k => p106 53 k (fun q => absurd q.1 (by decide))) (fun k => p106 54 k (fun q => absurd q.1 (by decide))) (p106 0 64 (by decide))
    have KTO_I105 := gr_TO_fr KTO_I10 (fun k => p106 52 k (fun q => absurd q.1 (by decide))) (fun k => p106 53 k (fun q => absurd q.1 (by decide))) (fun k => p106 54 k (fun q => absurd q.1 (by decide))) (fun k => p106 55 k (fun q => absurd q.1 (by decide))) (fun k => p106 6 k (fun q => absurd q.1 (by decide))) (p106 0 64 (by decide)) (p106 0 3 (by decide))
    have t124 := FI105 0 123 rfl
    have t125 := FI105 0 3 rfl
    have A126 := gr_ATp_sf e7_12 p106 rfl
    refine gv_run 3 true hD (pc' := 59) (lv' := [(0, .inr (.inr (some 0))), (1, .inl a1)]) (st' := []) (h' := gz_up (gr_h I105 J11) 75 (Int.toNat ((I10 0 122))) (.inr (.inl (J11 0 75)))) (C := (((True ∧ True) ∧ True) ∧ (0 ≤ (I10 0 122) ∧ (I10 0 122) < ((48 : Nat) : Int)))) rfl ⟨⟨⟨trivial, trivial⟩, trivial⟩, ⟨by exact gz_m 79 (by omega), by exact gz_m 80 (by omega)⟩⟩ ?_
    refine gr_stJq FJ11 rfl rfl (fun J127 FJ127 q128 p128 => ?_)
    have A129 := gr_ATp_sj' A126 p128 rfl
    refine gv_run 1 true hD (pc' := 60) (lv' := [(0, .inr (.inr (some 0))), (1, .inl a1)]) (st' := [.inr (.inr (some 0))]) (h' := gr_h I105 J127) (C := (True ∧ True)) rfl ⟨trivial, trivial⟩ ?_
    obtain ⟨r130, h130, E130, P130⟩ := r_next_p (ws0 := ws0) (tb := tb) hws htb ext β N9 I105 J127 hI105   ((gr_ATp_rr A129).1.resolve_left (by exact gz_m 81 (by omega))) A129.1.1 A129.1.2
    obtain ⟨I131, J132, rfl, hI131, g130, k130, ⟨rfl, q130⟩⟩ := P130
    have FI131 := gr_frt FI105 g130 rfl rfl
    have FJ132 := gr_fjt FJ127 k130 rfl rfl
    have t133 := g130 0 69 rfl
    have t134 := g130 0 64 rfl
    have t135 := g130 0 122 rfl
    have t136 := g130 0 123 rfl
    have t137 := g130 0 3 rfl
    have t138 := g130 0 77 rfl
    have f139 := (gr_b_0_71 hI131)
    have f140 := (gr_b_0_72 hI131)
    have f141 := (gr_b_0_73 hI131)
    have f142 := (gr_b_0_69 hI131)
    have f143 := (gr_b_0_64 hI131)
    have f144 := (gr_b_0_122 hI131)
    have f145 := (gr_b_0_123 hI131)
    have f146 := (gr_b_0_3 hI131)
    have f147 := (gr_b_0_77 hI131)
    have KTM_I131 := gr_TM_fr KTM_I105 (fun k => g130 52 k rfl) (fun k => g130 53 k rfl) (fun k => g130 54 k rfl) (g130 0 64 rfl)
    have KTO_I131 := gr_TO_fr KTO_I105 (fun k => g130 52 k rfl) (fun k => g130 53 k rfl) (fun k => g130 54 k rfl) (fun k => g130 55 k rfl) (fun k => g130 6 k rfl) (g130 0 64 rfl) (g130 0 3 rfl)
    have t148 := (gr_ATp_rr A129).2.2.1.resolve_left (by exact gz_m 82 (by omega))
    have A149 := gr_ATp_nx A129 q130.2.2.2.2.2
    have t150 := gr_ATp_l A149
    obtain ⟨_, _, -, -, -, -⟩ := q130
    refine gv_callV hD rfl (As := []) (st := []) rfl (by decide) rfl rfl (gr_lV hws rfl) (Nat.le_of_ble_eq_true rfl) (gz_Ev_mono (d := 10) (by exact gz_m 83 (by omega)) E130) ?_
    show gv_X _ _ (63, [(0, .inr (.inr (some 0))), (1, .inl a1)], [], gr_sh ++ ext, gr_h I131 J132)
    refine gv_run 2 true hD (pc' := 66) (lv' := [(0, .inr (.inr (some 0))), (1, .inl a1)]) (st' := [.inl 46, .inr (.inr (some 0))]) (h' := gr_h I131 J132) (C := ((True ∧ True) ∧ True)) rfl ⟨⟨trivial, trivial⟩, trivial⟩ ?_
    obtain ⟨r151, h151, E151, P151⟩ := r_need_p (ws0 := ws0) (tb := tb) hws htb ext β N9 (gs_X β N9 p_12) I131 J132 hI131 46 ⟨by exact gz_m 84 (by omega), by exact gz_m 85 (by omega)⟩ (gr_ATp_rr A149).1 (gr_ATp_rr A149).2.1 (gr_ATp_rr A149).2.2.1 (gr_ATp_rr A149).2.2.2.1 (gr_ATp_rr A149).2.2.2.2 A149 (by exact gz_m 86 (by omega))
    obtain ⟨I152, J153, rfl, hI152, g151, k151, ⟨z151, rfl, q151⟩⟩ := P151
    have FI152 := gr_frt FI131 g151 rfl rfl
    have FJ153 := gr_fjt FJ132 k151 rfl rfl
    have t154 := g151 0 69 rfl
    have t155 := g151 0 64 rfl
    have t156 := g151 0 122 rfl
    have t157 := g151 0 123 rfl
    have t158 := g151 0 3 rfl
    have f159 := (gr_b_0_71 hI152)
    have f160 := (gr_b_0_72 hI152)
    have f161 := (gr_b_0_73 hI152)
    have f162 := (gr_b_0_69 hI152)
    have f163 := (gr_b_0_64 hI152)
    have f164 := (gr_b_0_122 hI152)
    have f165 := (gr_b_0_123 hI152)
    have f166 := (gr_b_0_3 hI152)
    have f167 := (gr_b_0_77 hI152)
    have KTM_I152 := gr_TM_fr KTM_I131 (fun k => g151 52 k rfl) (fun k => g151 53 k rfl) (fun k => g151 54 k rfl) (g151 0 64 rfl)
    have KTO_I152 := gr_TO_fr KTO_I131 (fun k => g151 52 k rfl) (fun k => g151 53 k rfl) (fun k => g151 54 k rfl) (fun k => g151 55 k rfl) (fun k => g151 6 k rfl) (g151 0 64 rfl) (g151 0 3 rfl)
    refine gv_callV hD rfl (As := [.inl 46]) (st := []) rfl (by decide) rfl rfl (gr_lV hws rfl) (Nat.le_of_ble_eq_true rfl) (gz_Ev_mono (d := 11) (by exact gz_m 87 (by omega)) E151) ?_
    show gv_X _ _ (69, [(0, .inr (.inr (some 0))), (1, .inl a1)], [.inl z151], gr_sh ++ ext, gr_h I152 J153)
    refine gv_if_ne (t := 74) hD rfl rfl ⟨by exact gz_m 88 (by omega), by exact gz_m 89 (by omega)⟩ (fun c168 => ?_) (fun c168 => ?_)
    · obtain ⟨u169, A169⟩ := gs_or1 q151.2.2.2.2.2.2.2.2.2.2.2 (by exact gz_m 90 (by omega))
      have t170 := gr_ATp_l A169
      have t171 := (q151.2.2.2.2.2.2.2.2.2.2.1).resolve_left (by exact gz_m 91 (by omega))
      obtain ⟨_, _, -, _, -, -, _, _, _, _, -, -⟩ := q151
      have t172 := (gr_ATp_rr A149).2.2.1.resolve_left (by exact gz_m 92 (by omega))
      exact L74 I152 J153 ((gs_need β N9 46 (gs_X β N9 p_12))) hI152 FI152 FJ153 KTM_I152 KTO_I152 (by exact gz_m 93 (by omega)) (gr_TS9_tr (gr_TS9_tr (gr_TS9_tr e5_12 (gr_TS9_fr (fun k => p106 55 k (fun q => absurd q.1 (by decide))) (fun k => p106 52 k (fun q => absurd q.1 (by decide))) (fun k => p106 53 k (fun q => absurd q.1 (by decide))) (fun k => p106 54 k (fun q => absurd q.1 (by decide)))) (by exact gz_m 94 (by omega))) (gr_TS9_fr (fun k => g130 55 k rfl) (fun k => g130 52 k rfl) (fun k => g130 53 k rfl) (fun k => g130 54 k rfl)) (by exact gz_m 95 (by omega))) (gr_TS9_fr (fun k => g151 55 k rfl) (fun k => g151 52 k rfl) (fun k => g151 53 k rfl) (fun k => g151 54 k rfl)) (by exact gz_m 96 (by omega))) A169 (e8_12.trans (by unfold gs_lam2; (repeat first | rw [if_pos (by exact gz_m 97 (by omega))] | rw [if_neg (by exact gz_m 98 (by omega))])))
    · obtain ⟨u173, u173_⟩ := gs_or0 q151.2.2.2.2.2.2.2.2.2.2.2 (by exact gz_m 99 (by omega))
      refine gv_run 1 true hD (pc' := 73) (lv' := [(0, .inr (.inr (some 0))), (1, .inl a1)]) (st' := [.inl (-1)]) (h' := gr_h I152 J153) (C := (True ∧ True)) rfl ⟨trivial, trivial⟩ ?_
      exact gv_iret hD rfl ⟨I152, J153, rfl, hI152, FI152, FJ153, KTM_I152, KTO_I152, ⟨_, rfl, by exact gz_m 100 (by omega), by exact gz_m 101 (by omega), by exact gz_m 102 (by omega), by exact gz_m 103 (by omega), by exact gz_m 104 (by omega), by exact gz_m 105 (by omega), ⟨by exact gz_m 106 (by omega), (gs_TQ_n (c := gs_need β N9 46 (gs_X β N9 p_12)) (n := 0) (e8_12.trans (by unfold gs_lam2; (repeat first | rw [if_pos (by exact gz_m 107 (by omega))] | rw [if_neg (by exact gz_m 108 (by omega))]))) (by exact gz_m 109 (by omega)) (by exact gz_m 110 (by omega)) (by exact gz_m 111 (by omega)))⟩, by exact gz_m 112 (by omega), by exact gz_m 113 (by omega), by exact gz_m 114 (by omega), by exact gz_m 115 (by omega), by exact gz_m 116 (by omega), by exact gz_m 117 (by omega), by exact gz_m 118 (by omega), by exact gz_m 119 (by omega), by exact gz_m 120 (by omega), (Or.inl (by exact gz_m 121 (by omega))), (gr_TS9_tr (gr_TS9_tr (gr_TS9_tr e5_12 (gr_TS9_fr (fun k => p106 55 k (fun q => absurd q.1 (by decide))) (fun k => p106 52 k (fun q => absurd q.1 (by decide))) (fun k => p106 53 k (fun q => absurd q.1 (by decide))) (fun k => p106 54 k (fun q => absurd q.1 (by decide)))) (by exact gz_m 122 (by omega))) (gr_TS9_fr (fun k => g130 55 k rfl) (fun k => g130 52 k rfl) (fun k => g130 53 k rfl) (fun k => g130 54 k rfl)) (by exact gz_m 123 (by omega))) (gr_TS9_fr (fun k => g151 55 k rfl) (fun k => g151 52 k rfl) (fun k => g151 53 k rfl) (fun k => g151 54 k rfl)) (by exact gz_m 124 (by omega)))⟩⟩
  have L115 : ∀ (n : Nat) (I174 : gr_I) (J175 : gr_J) (v2_176 : Int) (p_176 : Int) (f_176 : Int), (1001 - I174 0 72).toNat < n → gr_Inv I174 → gr_fr [64, 71, 72, 73, 74, 75, 76, 77, 122] [52, 53, 54, 55, 75] I I174 → gr_fj [64, 71, 72, 73, 74, 75, 76, 77, 122] [52, 53, 54, 55, 75] J J175 → gr_TM I174 → gr_TO I174 → ((1 ≤ a1 ∧ a1 ≤ 40) ∧ ((-1) ≤ v2_176 ∧ v2_176 ≤ 1999) ∧ (I174 0 64 - I174 0 72 ≤ I 0 64 - I 0 72) ∧ (I 0 64 ≤ I174 0 64) ∧ (I 0 122 ≤ I174 0 122) ∧ (v2_176 < 0 ∨ I174 0 122 = I 0 122) ∧ (v2_176 < I174 0 64) ∧ (a1 ≤ 40) ∧ (v2_176 < 0 ∨ I 0 72 < I174 0 72) ∧ (I174 0 72 ≤ I174 0 69) ∧ (I174 0 72 ≤ I174 0 73) ∧ (I174 0 69 = I 0 69) ∧ (I 0 73 ≤ I174 0 73) ∧ (I 0 72 ≤ I174 0 72)) → (gr_TS9 I I174) → (gr_OWN v2_176 (I 0 123) (I 0 122) I174) → (gs_O9 v2_176 (0 ≤ p_176 ∧ gr_ATp β N9 p_176 I174 J175 ∧ 4 * (1001 - gs_A β N9 p_176) + 2 ≤ f_176 ∧ (gs_tm β N9 (I 6 (Int.toNat (I 0 123))) m9 0 a1 p9) = gs_shf (I174 0 64 - I 0 64) (gs_tm β N9 (I 6 (Int.toNat (I 0 123))) f_176 2 a1 p_176)) ((gs_tm β N9 (I 6 (Int.toNat (I 0 123))) m9 0 a1 p9).1 < 0 ∧ I174 0 77 = -1 - (gs_tm β N9 (I 6 (Int.toNat (I 0 123))) m9 0 a1 p9).1)) → (gr_RR9 I174) → gv_X (gr_E ws0 tb (14 + 2 * nr + 1) (yX13_term, cX13_term, 4, (some .int)) kX13_term) (gv_Q cX13_term (some .int) (gr_sh ++ ext) (fun r h' => (∃ (I' : gr_I) (J' : gr_J), h' = gr_h I' J' ∧ gr_Inv I' ∧ gr_fr [64, 71, 72, 73, 74, 75, 76, 77, 122] [52, 53, 54, 55, 75] I I' ∧ gr_fj [64, 71, 72, 73, 74, 75, 76, 77, 122] [52, 53, 54, 55, 75] J J' ∧ gr_TM I' ∧ gr_TO I' ∧ (∃ z : Int, r = some (.inl z) ∧ (-1) ≤ z ∧ z ≤ 1999 ∧ (I' 0 71 = 5 ∨ I' 0 73 ≤ I' 0 69) ∧ (I' 0 72 ≤ I' 0 69) ∧ (I' 0 71 = 0 ∨ (I' 0 72 < I' 0 73 ∧ I' 0 72 < I' 0 69)) ∧ (I' 0 71 = 3 → 2 ≤ I' 0 73 - I' 0 72 ∧ I' 0 73 - I' 0 72 ≤ 14) ∧ ((I' 0 72 ≤ I' 0 73) ∧ gs_TQ β N9 (gs_tm β N9 (I 6 (Int.toNat (I 0 123))) m9 0 a1 p9) z I I' J') ∧ (I' 0 69 = I 0 69) ∧ (I 0 73 ≤ I' 0 73) ∧ (I 0 72 ≤ I' 0 72) ∧ (I 0 64 ≤ I' 0 64) ∧ (I' 0 64 - I' 0 72 ≤ I 0 64 - I 0 72) ∧ (I 0 122 ≤ I' 0 122) ∧ (z < 0 ∨ I' 0 122 = I 0 122) ∧ (z < I' 0 64) ∧ (z < 0 ∨ I 0 72 < I' 0 72) ∧ (gr_OWN z (I 0 123) (I 0 122) I') ∧ (gr_TS9 I I'))))) (115, [(0, .inr (.inr (some 0))), (1, .inl a1), (2, .inl v2_176)], [], gr_sh ++ ext, gr_h I174 J175) := by
    intro n
    induction n with
    | zero => intro I174 J175 v2_176 p_176 f_176 hn; exact gz_m 125 (by omega)
    | succ n ih115 =>
      intro I174 J175 v2_176 p_176 f_176 hn hI174 FI174 FJ175 KTM_I174 KTO_I174 m_176 e7_176 e8_176 e9_176 e10_176
      obtain ⟨ha1_176, hv2_176, e0_176, e1_176, e2_176, e3_176, e4_176, e5_176, e6_176, e11_176, e12_176, e13_176, e14_176, e15_176⟩ := m_176
      have f177 := (gr_b_0_71 hI174)
      have f178 := (gr_b_0_72 hI174)
      have f179 := (gr_b_0_73 hI174)
      have f180 := (gr_b_0_69 hI174)
      have f181 := (gr_b_0_64 hI174)
      have f182 := (gr_b_0_122 hI174)
      have f183 := (gr_b_0_123 hI174)
      have f184 := (gr_b_0_3 hI174)
      have f185 := (gr_b_0_77 hI174)
      have t186 := FI174 0 123 rfl
      have t187 := FI174 0 3 rfl
      have L128 : ∀ (n : Nat) (I188 : gr_I) (J189 : gr_J) (v2_190 : Int) (p_190 : Int) (f_190 : Int) (g_190 : Int), (1001 - I188 0 72).toNat < n → gr_Inv I188 → gr_fr [64, 71, 72, 73, 74, 75, 76, 77, 122] [52, 53, 54, 55, 75] I I188 → gr_fj [64, 71, 72, 73, 74, 75, 76, 77, 122] [52, 53, 54, 55, 75] J J189 → gr_TM I188 → gr_TO I188 → ((1 ≤ a1 ∧ a1 ≤ 40) ∧ (0 ≤ v2_190 ∧ v2_190 ≤ 1999) ∧ (I 0 72 < I188 0 72) ∧ (I 0 64 ≤ I188 0 64) ∧ (I188 0 64 - I188 0 72 ≤ I 0 64 - I 0 72) ∧ (I188 0 122 = I 0 122) ∧ (0 ≤ v2_190 ∧ v2_190 < I188 0 64) ∧ (a1 ≤ 40) ∧ (I188 0 71 = 4) ∧ (I174 0 72 ≤ I188 0 72) ∧ (0 ≤ p_190) ∧ (I188 0 72 ≤ I188 0 69) ∧ (I188 0 72 ≤ I188 0 73) ∧ (I188 0 69 = I 0 69) ∧ (I 0 73 ≤ I188 0 73) ∧ (I 0 72 ≤ I188 0 72)) → (gr_TS9 I I188) → (gr_OWN v2_190 (I 0 123) (I 0 122) I188) → (gr_ATp β N9 p_190 I188 J189) → ((gs_tm β N9 (I 6 (Int.toNat (I 0 123))) m9 0 a1 p9) = gs_shf (I188 0 64 - I 0 64) (gs_bd (gs_tm β N9 (I 6 (Int.toNat (I 0 123))) f_190 3 a1 p_190) (gs_tm β N9 (I 6 (Int.toNat (I 0 123))) g_190 2 a1))) → (4 * (1001 - gs_A β N9 p_190) + 1 ≤ f_190) → (4 * (1001 - gs_A β N9 p_190) - 2 ≤ g_190) → (gs_T β N9 p_190 = 40 ∨ gs_T β N9 p_190 = 44) → gv_X (gr_E ws0 tb (14 + 2 * nr + 1) (yX13_term, cX13_term, 4, (some .int)) kX13_term) (gv_Q cX13_term (some .int) (gr_sh ++ ext) (fun r h' => (∃ (I' : gr_I) (J' : gr_J), h' = gr_h I' J' ∧ gr_Inv I' ∧ gr_fr [64, 71, 72, 73, 74, 75, 76, 77, 122] [52, 53, 54, 55, 75] I I' ∧ gr_fj [64, 71, 72, 73, 74, 75, 76, 77, 122] [52, 53, 54, 55, 75] J J' ∧ gr_TM I' ∧ gr_TO I' ∧ (∃ z : Int, r = some (.inl z) ∧ (-1) ≤ z ∧ z ≤ 1999 ∧ (I' 0 71 = 5 ∨ I' 0 73 ≤ I' 0 69) ∧ (I' 0 72 ≤ I' 0 69) ∧ (I' 0 71 = 0 ∨ (I' 0 72 < I' 0 73 ∧ I' 0 72 < I' 0 69)) ∧ (I' 0 71 = 3 → 2 ≤ I' 0 73 - I' 0 72 ∧ I' 0 73 - I' 0 72 ≤ 14) ∧ ((I' 0 72 ≤ I' 0 73) ∧ gs_TQ β N9 (gs_tm β N9 (I 6 (Int.toNat (I 0 123))) m9 0 a1 p9) z I I' J') ∧ (I' 0 69 = I 0 69) ∧ (I 0 73 ≤ I' 0 73) ∧ (I 0 72 ≤ I' 0 72) ∧ (I 0 64 ≤ I' 0 64) ∧ (I' 0 64 - I' 0 72 ≤ I 0 64 - I 0 72) ∧ (I 0 122 ≤ I' 0 122) ∧ (z < 0 ∨ I' 0 122 = I 0 122) ∧ (z < I' 0 64) ∧ (z < 0 ∨ I 0 72 < I' 0 72) ∧ (gr_OWN z (I 0 123) (I 0 122) I') ∧ (gr_TS9 I I'))))) (128, [(0, .inr (.inr (some 0))), (1, .inl a1), (2, .inl v2_190)], [], gr_sh ++ ext, gr_h I188 J189) := by
        intro n
        induction n with
        | zero => intro I188 J189 v2_190 p_190 f_190 g_190 hn; exact gz_m 126 (by omega)
        | succ n ih128 =>
          intro I188 J189 v2_190 p_190 f_190 g_190 hn hI188 FI188 FJ189 KTM_I188 KTO_I188 m_190 e8_190 e9_190 e11_190 e12_190 e13_190 e14_190 e15_190
          clear ha1_176 hv2_176 e0_176 e1_176 e2_176 e3_176 e4_176 e5_176 e6_176 e11_176 e12_176 e13_176 e14_176 e15_176 f177 f178 f179 f180 f181 f182 f183 f184 f185 t186 t187
          obtain ⟨ha1_190, hv2_190, e0_190, e1_190, e2_190, e3_190, e4_190, e5_190, e6_190, e7_190, e10_190, e16_190, e17_190, e18_190, e19_190, e20_190⟩ := m_190
          have f191 := (gr_b_0_71 hI188)
          have f192 := (gr_b_0_72 hI188)
          have f193 := (gr_b_0_73 hI188)
          have f194 := (gr_b_0_69 hI188)
          have f195 := (gr_b_0_64 hI188)
          have f196 := (gr_b_0_122 hI188)
          have f197 := (gr_b_0_123 hI188)
          have f198 := (gr_b_0_3 hI188)
          have f199 := (gr_b_0_77 hI188)
          have t200 := FI188 0 123 rfl
          have t201 := FI188 0 3 rfl
          have t202 := gr_ATp_l e11_190
          refine gv_run 1 true hD (pc' := 129) (lv' := [(0, .inr (.inr (some 0))), (1, .inl a1), (2, .inl v2_190)]) (st' := [.inr (.inr (some 0))]) (h' := gr_h I188 J189) (C := (True ∧ True)) rfl ⟨trivial, trivial⟩ ?_
          obtain ⟨r203, h203, E203, P203⟩ := r_next_p (ws0 := ws0) (tb := tb) hws htb ext β N9 I188 J189 hI188   ((gr_ATp_rr e11_190).1.resolve_left (by exact gz_m 127 (by omega))) e11_190.1.1 e11_190.1.2
          obtain ⟨I204, J205, rfl, hI204, g203, k203, ⟨rfl, q203⟩⟩ := P203
          have FI204 := gr_frt FI188 g203 rfl rfl
          have FJ205 := gr_fjt FJ189 k203 rfl rfl
          have t206 := g203 0 69 rfl
          have t207 := g203 0 64 rfl
          have t208 := g203 0 122 rfl
          have t209 := g203 0 123 rfl
          have t210 := g203 0 3 rfl
          have t211 := g203 0 77 rfl
          have f212 := (gr_b_0_71 hI204)
          have f213 := (gr_b_0_72 hI204)
          have f214 := (gr_b_0_73 hI204)
          have f215 := (gr_b_0_69 hI204)
          have f216 := (gr_b_0_64 hI204)
          have f217 := (gr_b_0_122 hI204)
          have f218 := (gr_b_0_123 hI204)
          have f219 := (gr_b_0_3 hI204)
          have f220 := (gr_b_0_77 hI204)
          have KTM_I204 := gr_TM_fr KTM_I188 (fun k => g203 52 k rfl) (fun k => g203 53 k rfl) (fun k => g203 54 k rfl) (g203 0 64 rfl)
          have KTO_I204 := gr_TO_fr KTO_I188 (fun k => g203 52 k rfl) (fun k => g203 53 k rfl) (fun k => g203 54 k rfl) (fun k => g203 55 k rfl) (fun k => g203 6 k rfl) (g203 0 64 rfl) (g203 0 3 rfl)
          have t221 := (gr_ATp_rr e11_190).2.2.1.resolve_left (by exact gz_m 128 (by omega))
          have A222 := gr_ATp_nx e11_190 q203.2.2.2.2.2
          have t223 := gr_ATp_l A222
          obtain ⟨_, _, -, -, -, -⟩ := q203
          refine gv_callV hD rfl (As := []) (st := []) rfl (by decide) rfl rfl (gr_lV hws rfl) (Nat.le_of_ble_eq_true rfl) (gz_Ev_mono (d := 10) (by exact gz_m 129 (by omega)) E203) ?_
          show gv_X _ _ (132, [(0, .inr (.inr (some 0))), (1, .inl a1), (2, .inl v2_190)], [], gr_sh ++ ext, gr_h I204 J205)
          refine gv_run 4 true hD (pc' := 136) (lv' := [(0, .inr (.inr (some 0))), (1, .inl a1), (2, .inl v2_190)]) (st' := [.inl (a1 + 1), .inr (.inr (some 0))]) (h' := gr_h I204 J205) (C := ((((True ∧ True) ∧ True) ∧ True) ∧ True)) rfl ⟨⟨⟨⟨trivial, trivial⟩, trivial⟩, trivial⟩, trivial⟩ ?_
          obtain ⟨r224, h224, E224, P224⟩ := ihR I204 J205 hI204 (a1 + 1) β N9 (gs_X β N9 p_190) (f_190 - 1) ⟨by exact gz_m 130 (by omega), by exact gz_m 131 (by omega)⟩ (gr_ATp_rr A222).1 (gr_ATp_rr A222).2.1 (gr_ATp_rr A222).2.2.1 (gr_ATp_rr A222).2.2.2.1 (gr_ATp_rr A222).2.2.2.2 (by exact gz_m 132 (by omega)) (by exact gz_m 133 (by omega)) (by exact gz_m 134 (by omega)) A222 (by exact gz_m 135 (by omega)) (by exact gz_m 136 (by omega)) KTM_I204 KTO_I204 (by exact gz_m 137 (by omega))
          obtain ⟨I225, J226, rfl, hI225, g224, k224, KTM_I225, KTO_I225, ⟨z224, rfl, q224⟩⟩ := P224
          have FI225 := gr_frt FI204 g224 rfl rfl
          have FJ226 := gr_fjt FJ205 k224 rfl rfl
          have t227 := g224 0 69 rfl
          have t228 := g224 0 123 rfl
          have t229 := g224 0 3 rfl
          have f230 := (gr_b_0_71 hI225)
          have f231 := (gr_b_0_72 hI225)
          have f232 := (gr_b_0_73 hI225)
          have f233 := (gr_b_0_69 hI225)
          have f234 := (gr_b_0_64 hI225)
          have f235 := (gr_b_0_122 hI225)
          have f236 := (gr_b_0_123 hI225)
          have f237 := (gr_b_0_3 hI225)
          have f238 := (gr_b_0_77 hI225)
          refine gv_callV hD rfl (As := [.inl (a1 + 1)]) (st := []) rfl (by decide) rfl rfl (gr_lV hws rfl) (Nat.le_of_ble_eq_true rfl) (gz_Ev_mono (d := (14 + 2 * nr)) (by exact gz_m 138 (by omega)) E224) ?_
          show gv_X _ _ (139, [(0, .inr (.inr (some 0))), (1, .inl a1), (2, .inl v2_190)], [.inl z224], gr_sh ++ ext, gr_h I225 J226)
          refine gv_run 2 true hD (pc' := 141) (lv' := [(3, .inl z224), (0, .inr (.inr (some 0))), (1, .inl a1), (2, .inl v2_190)]) (st' := [.inl z224]) (h' := gr_h I225 J226) (C := ((True ∧ True) ∧ True)) rfl ⟨⟨trivial, trivial⟩, trivial⟩ ?_
          refine gv_if_ge (t := 146) hD rfl rfl ⟨by exact gz_m 139 (by omega), by exact gz_m 140 (by omega)⟩ (fun c239 => ?_) (fun c239 => ?_)
          · have Q240 := q224.2.2.2.2.2.2.1.2
            rw [FI204 0 123 rfl, FI204 6 (Int.toNat (I 0 123)) rfl] at Q240
            obtain ⟨u240, A240, U240⟩ := gs_O9_1 Q240 (by exact gz_m 141 (by omega))
            have t241 := gr_ATp_l A240
            refine gv_run 5 true hD (pc' := 151) (lv' := [(3, .inl z224), (0, .inr (.inr (some 0))), (1, .inl a1), (2, .inl v2_190)]) (st' := [.inr (.inl (Int64.ofNat 0)), .inl z224, .inl v2_190, .inl 4, .inr (.inr (some 0))]) (h' := gr_h I225 J226) (C := (((((True ∧ True) ∧ True) ∧ True) ∧ True) ∧ True)) rfl ⟨⟨⟨⟨⟨trivial, trivial⟩, trivial⟩, trivial⟩, trivial⟩, trivial⟩ ?_
            obtain ⟨r242, h242, E242, P242⟩ := r_node_w (ws0 := ws0) (tb := tb) hws htb ext I225 J226 hI225 4 v2_190 z224 (Int64.ofNat 0) ⟨by exact gz_m 142 (by omega), by exact gz_m 143 (by omega)⟩ ⟨by exact gz_m 144 (by omega), by exact gz_m 145 (by omega)⟩ ⟨by exact gz_m 146 (by omega), by exact gz_m 147 (by omega)⟩ (by exact gz_m 148 (by omega)) (by exact gz_m 149 (by omega)) (by exact gz_m 150 (by omega)) KTO_I225 (gr_NDp_4 (gr_OWN_x (f' := (I 0 123)) (b' := (I 0 122)) e9_190 (gr_TS9_tr (gr_TS9_fr (fun k => g203 55 k rfl) (fun k => g203 52 k rfl) (fun k => g203 53 k rfl) (fun k => g203 54 k rfl)) q224.2.2.2.2.2.2.2.2.2.2.2.2.2.2.2.2.2 (by exact gz_m 151 (by omega))) (by exact gz_m 152 (by omega)) rfl (Int.le_refl _)) (gr_OWN_x (f' := (I204 0 123)) (b' := (I204 0 122)) q224.2.2.2.2.2.2.2.2.2.2.2.2.2.2.2.2.1 (gr_TS9_rf _) (by exact gz_m 153 (by omega)) rfl (Int.le_refl _)) (by exact gz_m 154 (by omega)) (by exact gz_m 155 (by omega)) (by exact gz_m 156 (by omega)) (by exact gz_m 157 (by omega)) (by exact gz_m 158 (by omega)) (by exact gz_m 159 (by omega))) (by exact gz_m 160 (by omega)) KTM_I225
            obtain ⟨I243, J244, rfl, hI243, g242, k242, KTM_I243, ⟨z242, rfl, q242⟩⟩ := P242
            have FI243 := gr_frt FI225 g242 rfl rfl
            have FJ244 := gr_fjt FJ226 k242 rfl rfl
            have t245 := g242 0 71 rfl
            have t246 := g242 0 72 rfl
            have t247 := g242 0 73 rfl
            have t248 := g242 0 69 rfl
            have t249 := g242 0 122 rfl
            have t250 := g242 0 123 rfl
            have t251 := g242 0 3 rfl
            have t252 := g242 0 77 rfl
            have f253 := (gr_b_0_71 hI243)
            have f254 := (gr_b_0_72 hI243)
            have f255 := (gr_b_0_73 hI243)
            have f256 := (gr_b_0_69 hI243)
            have f257 := (gr_b_0_64 hI243)
            have f258 := (gr_b_0_122 hI243)
            have f259 := (gr_b_0_123 hI243)
            have f260 := (gr_b_0_3 hI243)
            have f261 := (gr_b_0_77 hI243)
            have KTO_I243 : gr_TO I243 := q242.2.2.2.2.1
            have A262 := gr_ATp_F A240 g242 k242 rfl
            have t263 := gr_ATp_l A262
            refine gv_callV hD rfl (As := [.inl 4, .inl v2_190, .inl z224, .inr (.inl (Int64.ofNat 0))]) (st := []) rfl (by decide) rfl rfl (gr_lV hws rfl) (Nat.le_of_ble_eq_true rfl) (gz_Ev_mono (d := 1) (by exact gz_m 161 (by omega)) E242) ?_
            show gv_X _ _ (154, [(3, .inl z224), (0, .inr (.inr (some 0))), (1, .inl a1), (2, .inl v2_190)], [.inl z242], gr_sh ++ ext, gr_h I243 J244)
            refine gv_run 3 true hD (pc' := 158) (lv' := [(2, .inl z242), (3, .inl z224), (0, .inr (.inr (some 0))), (1, .inl a1)]) (st' := [.inl 44, .inr (.inr (some 0))]) (h' := gr_h I243 J244) (C := (((True ∧ True) ∧ True) ∧ True)) rfl ⟨⟨⟨trivial, trivial⟩, trivial⟩, trivial⟩ ?_
            obtain ⟨r264, h264, E264, P264⟩ := r_sign_p (ws0 := ws0) (tb := tb) hws htb ext β N9 ((gs_tm β N9 (I 6 (Int.toNat (I 0 123))) (f_190 - 1) 0 (a1 + 1) (gs_X β N9 p_190)).1) I243 J244 hI243 44 ⟨by exact gz_m 162 (by omega), by exact gz_m 163 (by omega)⟩ (fun h9 => by have g9 := (gr_ATp_rr A262).2.2.1; exact gz_m 164 (by omega)) A262 (by exact gz_m 165 (by omega))
            obtain ⟨rfl, ⟨z264, rfl, q264⟩⟩ := P264
            have V264 := gs_or_mk q264.2.2.2
            obtain ⟨_, _, o264, -⟩ := q264
            refine gv_callV hD rfl (As := [.inl 44]) (st := []) rfl (by decide) rfl rfl (gr_lV hws rfl) (Nat.le_of_ble_eq_true rfl) (gz_Ev_mono (d := 1) (by exact gz_m 166 (by omega)) E264) ?_
            show gv_X _ _ (161, [(2, .inl z242), (3, .inl z224), (0, .inr (.inr (some 0))), (1, .inl a1)], [.inl z264], gr_sh ++ ext, gr_h I243 J244)
            refine gv_if_ne (t := 128) hD rfl rfl ⟨by exact gz_m 167 (by omega), by exact gz_m 168 (by omega)⟩ (fun c265 => ?_) (fun c265 => ?_)
            · have u266 := gs_or1 V264 (by exact gz_m 169 (by omega))
              have t267 := o264.resolve_left (by exact gz_m 170 (by omega))
              have t268 := (gr_ATp_rr A262).2.2.1.resolve_left (by exact gz_m 171 (by omega))
              clear o264 V264
              refine gv_pick [2, 3, 0] rfl ?_
              exact ih128 I243 J244 z242 ((gs_tm β N9 (I 6 (Int.toNat (I 0 123))) (f_190 - 1) 0 (a1 + 1) (gs_X β N9 p_190)).1) (f_190 - 1) g_190 (by exact gz_m 172 (by omega)) hI243 FI243 FJ244 KTM_I243 KTO_I243 (by exact gz_m 173 (by omega)) (gr_TS9_tr (gr_TS9_tr (gr_TS9_tr e8_190 (gr_TS9_fr (fun k => g203 55 k rfl) (fun k => g203 52 k rfl) (fun k => g203 53 k rfl) (fun k => g203 54 k rfl)) (by exact gz_m 174 (by omega))) q224.2.2.2.2.2.2.2.2.2.2.2.2.2.2.2.2.2 (by exact gz_m 175 (by omega))) q242.2.2.2.2.2.1 (by exact gz_m 176 (by omega))) (gr_OWN_x (show gr_OWN z242 (I 0 123) (I 0 122) I243 from Or.inr ⟨by exact gz_m 177 (by omega), by exact gz_m 178 (by omega)⟩) (gr_TS9_rf _) (by exact gz_m 179 (by omega)) (by exact gz_m 180 (by omega)) (by exact gz_m 181 (by omega))) A262 (by rw [show I243 0 64 - I 0 64 = I188 0 64 - I 0 64 + (gs_tm β N9 (I 6 (Int.toNat (I 0 123))) (f_190 - 1) 0 (a1 + 1) (gs_X β N9 p_190)).2 + 1 from by exact gz_m 182 (by omega)]; exact gs_ar_c e12_190 (by exact gz_m 183 (by omega)) (by exact gz_m 184 (by omega)) (by exact gz_m 185 (by omega))) (by exact gz_m 186 (by omega)) (by exact gz_m 187 (by omega)) (by exact gz_m 188 (by omega))
            · have u269 := gs_or0 V264 (by exact gz_m 189 (by omega))
              clear o264 V264
              refine gv_run 2 true hD (pc' := 167) (lv' := [(2, .inl z242), (3, .inl z224), (0, .inr (.inr (some 0))), (1, .inl a1)]) (st' := [.inl 41, .inr (.inr (some 0))]) (h' := gr_h I243 J244) (C := ((True ∧ True) ∧ True)) rfl ⟨⟨trivial, trivial⟩, trivial⟩ ?_
              obtain ⟨r270, h270, E270, P270⟩ := r_need_p (ws0 := ws0) (tb := tb) hws htb ext β N9 ((gs_tm β N9 (I 6 (Int.toNat (I 0 123))) (f_190 - 1) 0 (a1 + 1) (gs_X β N9 p_190)).1) I243 J244 hI243 41 ⟨by exact gz_m 190 (by omega), by exact gz_m 191 (by omega)⟩ (gr_ATp_rr A262).1 (gr_ATp_rr A262).2.1 (gr_ATp_rr A262).2.2.1 (gr_ATp_rr A262).2.2.2.1 (gr_ATp_rr A262).2.2.2.2 A262 (by exact gz_m 192 (by omega))
              obtain ⟨I271, J272, rfl, hI271, g270, k270, ⟨z270, rfl, q270⟩⟩ := P270
              have FI271 := gr_frt FI243 g270 rfl rfl
              have FJ272 := gr_fjt FJ244 k270 rfl rfl
              have t273 := g270 0 69 rfl
              have t274 := g270 0 64 rfl
              have t275 := g270 0 122 rfl
              have t276 := g270 0 123 rfl
              have t277 := g270 0 3 rfl
              have f278 := (gr_b_0_71 hI271)
              have f279 := (gr_b_0_72 hI271)
              have f280 := (gr_b_0_73 hI271)
              have f281 := (gr_b_0_69 hI271)
              have f282 := (gr_b_0_64 hI271)
              have f283 := (gr_b_0_122 hI271)
              have f284 := (gr_b_0_123 hI271)
              have f285 := (gr_b_0_3 hI271)
              have f286 := (gr_b_0_77 hI271)
              have KTM_I271 := gr_TM_fr KTM_I243 (fun k => g270 52 k rfl) (fun k => g270 53 k rfl) (fun k => g270 54 k rfl) (g270 0 64 rfl)
              have KTO_I271 := gr_TO_fr KTO_I243 (fun k => g270 52 k rfl) (fun k => g270 53 k rfl) (fun k => g270 54 k rfl) (fun k => g270 55 k rfl) (fun k => g270 6 k rfl) (g270 0 64 rfl) (g270 0 3 rfl)
              refine gv_callV hD rfl (As := [.inl 41]) (st := []) rfl (by decide) rfl rfl (gr_lV hws rfl) (Nat.le_of_ble_eq_true rfl) (gz_Ev_mono (d := 11) (by exact gz_m 193 (by omega)) E270) ?_
              show gv_X _ _ (170, [(2, .inl z242), (3, .inl z224), (0, .inr (.inr (some 0))), (1, .inl a1)], [.inl z270], gr_sh ++ ext, gr_h I271 J272)
              refine gv_if_ne (t := 115) hD rfl rfl ⟨by exact gz_m 194 (by omega), by exact gz_m 195 (by omega)⟩ (fun c287 => ?_) (fun c287 => ?_)
              · obtain ⟨u288, A288⟩ := gs_or1 q270.2.2.2.2.2.2.2.2.2.2.2 (by exact gz_m 196 (by omega))
                have t289 := gr_ATp_l A288
                have t290 := (q270.2.2.2.2.2.2.2.2.2.2.1).resolve_left (by exact gz_m 197 (by omega))
                obtain ⟨_, _, -, _, -, -, _, _, _, _, -, -⟩ := q270
                have t291 := (gr_ATp_rr A262).2.2.1.resolve_left (by exact gz_m 198 (by omega))
                refine gv_pick [2, 3, 0] rfl ?_
                exact ih115 I271 J272 z242 ((gs_need β N9 41 (gs_tm β N9 (I 6 (Int.toNat (I 0 123))) (f_190 - 1) 0 (a1 + 1) (gs_X β N9 p_190)).1)) g_190 (by exact gz_m 199 (by omega)) hI271 FI271 FJ272 KTM_I271 KTO_I271 (by exact gz_m 200 (by omega)) (gr_TS9_tr (gr_TS9_tr (gr_TS9_tr (gr_TS9_tr e8_190 (gr_TS9_fr (fun k => g203 55 k rfl) (fun k => g203 52 k rfl) (fun k => g203 53 k rfl) (fun k => g203 54 k rfl)) (by exact gz_m 201 (by omega))) q224.2.2.2.2.2.2.2.2.2.2.2.2.2.2.2.2.2 (by exact gz_m 202 (by omega))) q242.2.2.2.2.2.1 (by exact gz_m 203 (by omega))) (gr_TS9_fr (fun k => g270 55 k rfl) (fun k => g270 52 k rfl) (fun k => g270 53 k rfl) (fun k => g270 54 k rfl)) (by exact gz_m 204 (by omega))) (gr_OWN_x (show gr_OWN z242 (I 0 123) (I 0 122) I243 from Or.inr ⟨by exact gz_m 205 (by omega), by exact gz_m 206 (by omega)⟩) (gr_TS9_fr (fun k => g270 55 k rfl) (fun k => g270 52 k rfl) (fun k => g270 53 k rfl) (fun k => g270 54 k rfl)) (by exact gz_m 207 (by omega)) (by exact gz_m 208 (by omega)) (by exact gz_m 209 (by omega))) (Or.inl ⟨by exact gz_m 210 (by omega), by exact gz_m 211 (by omega), A288, by exact gz_m 212 (by omega), (by rw [show I271 0 64 - I 0 64 = I188 0 64 - I 0 64 + (gs_tm β N9 (I 6 (Int.toNat (I 0 123))) (f_190 - 1) 0 (a1 + 1) (gs_X β N9 p_190)).2 + 1 from by exact gz_m 213 (by omega)]; exact gs_ar_y e12_190 (by exact gz_m 214 (by omega)) (by exact gz_m 215 (by omega)) (by exact gz_m 216 (by omega)) (by exact gz_m 217 (by omega)))⟩) (gr_ATp_rr A288)
              · obtain ⟨u292, u292_⟩ := gs_or0 q270.2.2.2.2.2.2.2.2.2.2.2 (by exact gz_m 218 (by omega))
                refine gv_run 1 true hD (pc' := 174) (lv' := [(2, .inl z242), (3, .inl z224), (0, .inr (.inr (some 0))), (1, .inl a1)]) (st' := [.inl (-1)]) (h' := gr_h I271 J272) (C := (True ∧ True)) rfl ⟨trivial, trivial⟩ ?_
                exact gv_iret hD rfl ⟨I271, J272, rfl, hI271, FI271, FJ272, KTM_I271, KTO_I271, ⟨_, rfl, by exact gz_m 219 (by omega), by exact gz_m 220 (by omega), by exact gz_m 221 (by omega), by exact gz_m 222 (by omega), by exact gz_m 223 (by omega), by exact gz_m 224 (by omega), ⟨by exact gz_m 225 (by omega), (gs_TQ_n (gs_ar_n e12_190 (by exact gz_m 226 (by omega)) (by exact gz_m 227 (by omega)) (by exact gz_m 228 (by omega)) (by exact gz_m 229 (by omega))) (by exact gz_m 230 (by omega)) (by exact gz_m 231 (by omega)) (by exact gz_m 232 (by omega)))⟩, by exact gz_m 233 (by omega), by exact gz_m 234 (by omega), by exact gz_m 235 (by omega), by exact gz_m 236 (by omega), by exact gz_m 237 (by omega), by exact gz_m 238 (by omega), by exact gz_m 239 (by omega), by exact gz_m 240 (by omega), by exact gz_m 241 (by omega), (Or.inl (by exact gz_m 242 (by omega))), (gr_TS9_tr (gr_TS9_tr (gr_TS9_tr (gr_TS9_tr e8_190 (gr_TS9_fr (fun k => g203 55 k rfl) (fun k => g203 52 k rfl) (fun k => g203 53 k rfl) (fun k => g203 54 k rfl)) (by exact gz_m 243 (by omega))) q224.2.2.2.2.2.2.2.2.2.2.2.2.2.2.2.2.2 (by exact gz_m 244 (by omega))) q242.2.2.2.2.2.1 (by exact gz_m 245 (by omega))) (gr_TS9_fr (fun k => g270 55 k rfl) (fun k => g270 52 k rfl) (fun k => g270 53 k rfl) (fun k => g270 54 k rfl)) (by exact gz_m 246 (by omega)))⟩⟩
          · have Q293 := q224.2.2.2.2.2.2.1.2
            rw [FI204 0 123 rfl, FI204 6 (Int.toNat (I 0 123)) rfl] at Q293
            obtain ⟨u293, u293_⟩ := gs_O9_0 Q293 (by exact gz_m 247 (by omega))
            refine gv_run 1 true hD (pc' := 145) (lv' := [(3, .inl z224), (0, .inr (.inr (some 0))), (1, .inl a1), (2, .inl v2_190)]) (st' := [.inl (-1)]) (h' := gr_h I225 J226) (C := (True ∧ True)) rfl ⟨trivial, trivial⟩ ?_
            exact gv_iret hD rfl ⟨I225, J226, rfl, hI225, FI225, FJ226, KTM_I225, KTO_I225, ⟨_, rfl, by exact gz_m 248 (by omega), by exact gz_m 249 (by omega), by exact gz_m 250 (by omega), by exact gz_m 251 (by omega), by exact gz_m 252 (by omega), by exact gz_m 253 (by omega), ⟨by exact gz_m 254 (by omega), (gs_TQ_n (gs_ar_x e12_190 (by exact gz_m 255 (by omega)) (by exact gz_m 256 (by omega))) (by exact gz_m 257 (by omega)) (by exact gz_m 258 (by omega)) (by exact gz_m 259 (by omega)))⟩, by exact gz_m 260 (by omega), by exact gz_m 261 (by omega), by exact gz_m 262 (by omega), by exact gz_m 263 (by omega), by exact gz_m 264 (by omega), by exact gz_m 265 (by omega), by exact gz_m 266 (by omega), by exact gz_m 267 (by omega), by exact gz_m 268 (by omega), (Or.inl (by exact gz_m 269 (by omega))), (gr_TS9_tr (gr_TS9_tr e8_190 (gr_TS9_fr (fun k => g203 55 k rfl) (fun k => g203 52 k rfl) (fun k => g203 53 k rfl) (fun k => g203 54 k rfl)) (by exact gz_m 270 (by omega))) q224.2.2.2.2.2.2.2.2.2.2.2.2.2.2.2.2.2 (by exact gz_m 271 (by omega)))⟩⟩
      refine gv_run 1 true hD (pc' := 116) (lv' := [(0, .inr (.inr (some 0))), (1, .inl a1), (2, .inl v2_176)]) (st' := [.inl v2_176]) (h' := gr_h I174 J175) (C := (True ∧ True)) rfl ⟨trivial, trivial⟩ ?_
      refine gv_if_lt (t := 175) hD rfl rfl ⟨by exact gz_m 272 (by omega), by exact gz_m 273 (by omega)⟩ (fun c294 => ?_) (fun c294 => ?_)
      · obtain ⟨u295, u295_⟩ := gs_O9_0 e9_176 (by exact gz_m 274 (by omega))
        refine gv_run 1 true hD (pc' := 176) (lv' := [(0, .inr (.inr (some 0))), (1, .inl a1), (2, .inl v2_176)]) (st' := [.inl v2_176]) (h' := gr_h I174 J175) (C := (True ∧ True)) rfl ⟨trivial, trivial⟩ ?_
        exact gv_iret hD rfl ⟨I174, J175, rfl, hI174, FI174, FJ175, KTM_I174, KTO_I174, ⟨_, rfl, by exact gz_m 275 (by omega), by exact gz_m 276 (by omega), e10_176.1, e10_176.2.1, e10_176.2.2.1, e10_176.2.2.2.1, ⟨e10_176.2.2.2.2, (gs_TQ_n gs_pr (by exact gz_m 277 (by omega)) (by exact gz_m 278 (by omega)) (by exact gz_m 279 (by omega)))⟩, by exact gz_m 280 (by omega), by exact gz_m 281 (by omega), by exact gz_m 282 (by omega), by exact gz_m 283 (by omega), by exact gz_m 284 (by omega), by exact gz_m 285 (by omega), by exact gz_m 286 (by omega), by exact gz_m 287 (by omega), by exact gz_m 288 (by omega), (Or.inl (by exact gz_m 289 (by omega))), e7_176⟩⟩
      · obtain ⟨u296, A296, f296_, E296⟩ := gs_O9_1 e9_176 (by exact gz_m 290 (by omega))
        have t297 := gr_ATp_l A296
        refine gv_run 2 true hD (pc' := 122) (lv' := [(0, .inr (.inr (some 0))), (1, .inl a1), (2, .inl v2_176)]) (st' := [.inl 40, .inr (.inr (some 0))]) (h' := gr_h I174 J175) (C := ((True ∧ True) ∧ True)) rfl ⟨⟨trivial, trivial⟩, trivial⟩ ?_
        obtain ⟨r298, h298, E298, P298⟩ := r_sign_p (ws0 := ws0) (tb := tb) hws htb ext β N9 p_176 I174 J175 hI174 40 ⟨by exact gz_m 291 (by omega), by exact gz_m 292 (by omega)⟩ (fun h9 => by have g9 := (gr_ATp_rr A296).2.2.1; exact gz_m 293 (by omega)) A296 (by exact gz_m 294 (by omega))
        obtain ⟨rfl, ⟨z298, rfl, q298⟩⟩ := P298
        have V298 := gs_or_mk q298.2.2.2
        obtain ⟨_, _, o298, -⟩ := q298
        refine gv_callV hD rfl (As := [.inl 40]) (st := []) rfl (by decide) rfl rfl (gr_lV hws rfl) (Nat.le_of_ble_eq_true rfl) (gz_Ev_mono (d := 1) (by exact gz_m 295 (by omega)) E298) ?_
        show gv_X _ _ (125, [(0, .inr (.inr (some 0))), (1, .inl a1), (2, .inl v2_176)], [.inl z298], gr_sh ++ ext, gr_h I174 J175)
        refine gv_if_eq (t := 175) hD rfl rfl ⟨by exact gz_m 296 (by omega), by exact gz_m 297 (by omega)⟩ (fun c299 => ?_) (fun c299 => ?_)
        · have u300 := gs_or0 V298 (by exact gz_m 298 (by omega))
          clear o298 V298
          refine gv_run 1 true hD (pc' := 176) (lv' := [(0, .inr (.inr (some 0))), (1, .inl a1), (2, .inl v2_176)]) (st' := [.inl v2_176]) (h' := gr_h I174 J175) (C := (True ∧ True)) rfl ⟨trivial, trivial⟩ ?_
          exact gv_iret hD rfl ⟨I174, J175, rfl, hI174, FI174, FJ175, KTM_I174, KTO_I174, ⟨_, rfl, by exact gz_m 299 (by omega), by exact gz_m 300 (by omega), (gr_ATp_rr A296).1, (gr_ATp_rr A296).2.1, (gr_ATp_rr A296).2.2.1, (gr_ATp_rr A296).2.2.2.1, ⟨(gr_ATp_rr A296).2.2.2.2, (gs_TQ_y (c := p_176) (n := I174 0 64 - I 0 64 + 0) (E296.trans (by rw [gs_tm_2 (by exact gz_m 301 (by omega)), if_neg (by exact gz_m 302 (by omega))]; rfl)) (by exact gz_m 303 (by omega)) (by exact gz_m 304 (by omega)) A296 (by exact gz_m 305 (by omega)))⟩, by exact gz_m 306 (by omega), by exact gz_m 307 (by omega), by exact gz_m 308 (by omega), by exact gz_m 309 (by omega), by exact gz_m 310 (by omega), by exact gz_m 311 (by omega), by exact gz_m 312 (by omega), by exact gz_m 313 (by omega), by exact gz_m 314 (by omega), (gr_OWN_x e8_176 (gr_TS9_rf _) (by exact gz_m 315 (by omega)) (by exact gz_m 316 (by omega)) (by exact gz_m 317 (by omega))), e7_176⟩⟩
        · have u301 := gs_or1 V298 (by exact gz_m 318 (by omega))
          have t302 := o298.resolve_left (by exact gz_m 319 (by omega))
          have t303 := (gr_ATp_rr A296).2.2.1.resolve_left (by exact gz_m 320 (by omega))
          clear o298 V298
          exact L128 _ I174 J175 v2_176 p_176 (f_176 - 1) (f_176 - 1) (Nat.lt_succ_self _) hI174 FI174 FJ175 KTM_I174 KTO_I174 (by exact gz_m 321 (by omega)) e7_176 (gr_OWN_x e8_176 (gr_TS9_rf _) (by exact gz_m 322 (by omega)) (by exact gz_m 323 (by omega)) (by exact gz_m 324 (by omega))) A296 (E296.trans (by rw [gs_tm_2 (by exact gz_m 325 (by omega)), if_pos (by exact gz_m 326 (by omega))])) (by exact gz_m 327 (by omega)) (by exact gz_m 328 (by omega)) (by exact gz_m 329 (by omega))
  refine gv_run 2 true hD (pc' := 3) (lv' := [(0, .inr (.inr (some 0))), (1, .inl a1)]) (st' := [.inl 40, .inl a1]) (h' := gr_h I J) (C := ((True ∧ True) ∧ True)) rfl ⟨⟨trivial, trivial⟩, trivial⟩ ?_
  refine gv_icmp_le (t := 12) hD rfl rfl ⟨⟨by exact gz_m 330 (by omega), by exact gz_m 331 (by omega)⟩, ⟨by exact gz_m 332 (by omega), by exact gz_m 333 (by omega)⟩⟩ (fun c304 => ?_) (fun c304 => ?_)
  · refine gv_run 2 true hD (pc' := 15) (lv' := [(0, .inr (.inr (some 0))), (1, .inl a1)]) (st' := [.inl 92, .inr (.inr (some 0))]) (h' := gr_h I J) (C := ((True ∧ True) ∧ True)) rfl ⟨⟨trivial, trivial⟩, trivial⟩ ?_
    obtain ⟨r305, h305, E305, P305⟩ := r_sign_p (ws0 := ws0) (tb := tb) hws htb ext β N9 p9 I J hI 92 ⟨by exact gz_m 334 (by omega), by exact gz_m 335 (by omega)⟩ (fun h9 => by have g9 := (gr_ATp_rr x8).2.2.1; exact gz_m 336 (by omega)) x8 (by exact gz_m 337 (by omega))
    obtain ⟨rfl, ⟨z305, rfl, q305⟩⟩ := P305
    have V305 := gs_or_mk q305.2.2.2
    obtain ⟨_, _, o305, -⟩ := q305
    refine gv_callV hD rfl (As := [.inl 92]) (st := []) rfl (by decide) rfl rfl (gr_lV hws rfl) (Nat.le_of_ble_eq_true rfl) (gz_Ev_mono (d := 1) (by exact gz_m 338 (by omega)) E305) ?_
    show gv_X _ _ (18, [(0, .inr (.inr (some 0))), (1, .inl a1)], [.inl z305], gr_sh ++ ext, gr_h I J)
    refine gv_if_eq (t := 109) hD rfl rfl ⟨by exact gz_m 339 (by omega), by exact gz_m 340 (by omega)⟩ (fun c306 => ?_) (fun c306 => ?_)
    · have u307 := gs_or0 V305 (by exact gz_m 341 (by omega))
      clear o305 V305
      refine gv_run 2 true hD (pc' := 111) (lv' := [(0, .inr (.inr (some 0))), (1, .inl a1)]) (st' := [.inl a1, .inr (.inr (some 0))]) (h' := gr_h I J) (C := ((True ∧ True) ∧ True)) rfl ⟨⟨trivial, trivial⟩, trivial⟩ ?_
      obtain ⟨r308, h308, E308, P308⟩ := r_atom_p (ws0 := ws0) (tb := tb) hws htb ext nr ihR I J hI a1 β N9 p9 (m9 - 1) ⟨by exact gz_m 342 (by omega), by exact gz_m 343 (by omega)⟩ (gr_ATp_rr x8).1 (gr_ATp_rr x8).2.1 (gr_ATp_rr x8).2.2.1 (gr_ATp_rr x8).2.2.2.1 (gr_ATp_rr x8).2.2.2.2 (by exact gz_m 344 (by omega)) (by exact gz_m 345 (by omega)) (by exact gz_m 346 (by omega)) x8 (by exact gz_m 347 (by omega)) (by exact gz_m 348 (by omega)) KTM_I KTO_I (by exact gz_m 349 (by omega))
      obtain ⟨I309, J310, rfl, hI309, g308, k308, KTM_I309, KTO_I309, ⟨z308, rfl, q308⟩⟩ := P308
      have FI309 := gr_frt FI g308 rfl rfl
      have FJ310 := gr_fjt FJ k308 rfl rfl
      have t311 := g308 0 69 rfl
      have t312 := g308 0 123 rfl
      have t313 := g308 0 3 rfl
      have f314 := (gr_b_0_71 hI309)
      have f315 := (gr_b_0_72 hI309)
      have f316 := (gr_b_0_73 hI309)
      have f317 := (gr_b_0_69 hI309)
      have f318 := (gr_b_0_64 hI309)
      have f319 := (gr_b_0_122 hI309)
      have f320 := (gr_b_0_123 hI309)
      have f321 := (gr_b_0_3 hI309)
      have f322 := (gr_b_0_77 hI309)
      refine gv_callV hD rfl (As := [.inl a1]) (st := []) rfl (by decide) rfl rfl (gr_lV hws rfl) (Nat.le_of_ble_eq_true rfl) (gz_Ev_mono (d := (14 + 2 * nr + 1)) (Nat.le_refl _) E308) ?_
      show gv_X _ _ (114, [(0, .inr (.inr (some 0))), (1, .inl a1)], [.inl z308], gr_sh ++ ext, gr_h I309 J310)
      refine gv_run 1 true hD (pc' := 115) (lv' := [(2, .inl z308), (0, .inr (.inr (some 0))), (1, .inl a1)]) (st' := []) (h' := gr_h I309 J310) (C := (True ∧ True)) rfl ⟨trivial, trivial⟩ ?_
      refine gv_pick [1, 2, 0] rfl ?_
      exact L115 _ I309 J310 z308 ((gs_tm β N9 (I 6 (Int.toNat (I 0 123))) (m9 - 1) 1 a1 p9).1) (m9 - 1) (Nat.lt_succ_self _) hI309 FI309 FJ310 KTM_I309 KTO_I309 (by exact gz_m 350 (by omega)) (gr_TS9_tr (gr_TS9_rf I) q308.2.2.2.2.2.2.2.2.2.2.2.2.2.2.2.2.2 (by exact gz_m 351 (by omega))) (gr_OWN_x q308.2.2.2.2.2.2.2.2.2.2.2.2.2.2.2.2.1 (gr_TS9_rf _) (by exact gz_m 352 (by omega)) (by exact gz_m 353 (by omega)) (by exact gz_m 354 (by omega))) (gs_tq_at q308.2.2.2.2.2.2.1.2 (by rw [gs_tm_0 (by exact gz_m 355 (by omega))]; (repeat first | rw [if_pos (by exact gz_m 356 (by omega))] | rw [if_neg (by exact gz_m 357 (by omega))])) (fun a9 h9 => by have g9 := gr_ATp_l a9; exact gz_m 358 (by omega))) ⟨q308.2.2.1, q308.2.2.2.1, q308.2.2.2.2.1, q308.2.2.2.2.2.1, q308.2.2.2.2.2.2.1.1⟩
    · have u323 := gs_or1 V305 (by exact gz_m 359 (by omega))
      have t324 := o305.resolve_left (by exact gz_m 360 (by omega))
      have t325 := (gr_ATp_rr x8).2.2.1.resolve_left (by exact gz_m 361 (by omega))
      clear o305 V305
      refine gv_run 1 true hD (pc' := 22) (lv' := [(0, .inr (.inr (some 0))), (1, .inl a1)]) (st' := [.inr (.inr (some 0))]) (h' := gr_h I J) (C := (True ∧ True)) rfl ⟨trivial, trivial⟩ ?_
      obtain ⟨r326, h326, E326, P326⟩ := r_next_p (ws0 := ws0) (tb := tb) hws htb ext β N9 I J hI   ((gr_ATp_rr x8).1.resolve_left (by exact gz_m 362 (by omega))) x8.1.1 x8.1.2
      obtain ⟨I327, J328, rfl, hI327, g326, k326, ⟨rfl, q326⟩⟩ := P326
      have FI327 := gr_frt FI g326 rfl rfl
      have FJ328 := gr_fjt FJ k326 rfl rfl
      have t329 := g326 0 69 rfl
      have t330 := g326 0 64 rfl
      have t331 := g326 0 122 rfl
      have t332 := g326 0 123 rfl
      have t333 := g326 0 3 rfl
      have t334 := g326 0 77 rfl
      have f335 := (gr_b_0_71 hI327)
      have f336 := (gr_b_0_72 hI327)
      have f337 := (gr_b_0_73 hI327)
      have f338 := (gr_b_0_69 hI327)
      have f339 := (gr_b_0_64 hI327)
      have f340 := (gr_b_0_122 hI327)
      have f341 := (gr_b_0_123 hI327)
      have f342 := (gr_b_0_3 hI327)
      have f343 := (gr_b_0_77 hI327)
      have KTM_I327 := gr_TM_fr KTM_I (fun k => g326 52 k rfl) (fun k => g326 53 k rfl) (fun k => g326 54 k rfl) (g326 0 64 rfl)
      have KTO_I327 := gr_TO_fr KTO_I (fun k => g326 52 k rfl) (fun k => g326 53 k rfl) (fun k => g326 54 k rfl) (fun k => g326 55 k rfl) (fun k => g326 6 k rfl) (g326 0 64 rfl) (g326 0 3 rfl)
      have t344 := (gr_ATp_rr x8).2.2.1.resolve_left (by exact gz_m 363 (by omega))
      have A345 := gr_ATp_nx x8 q326.2.2.2.2.2
      have t346 := gr_ATp_l A345
      obtain ⟨_, _, -, -, -, -⟩ := q326
      refine gv_callV hD rfl (As := []) (st := []) rfl (by decide) rfl rfl (gr_lV hws rfl) (Nat.le_of_ble_eq_true rfl) (gz_Ev_mono (d := 10) (by exact gz_m 364 (by omega)) E326) ?_
      show gv_X _ _ (25, [(0, .inr (.inr (some 0))), (1, .inl a1)], [], gr_sh ++ ext, gr_h I327 J328)
      have f347 := (gr_b_0_71 hI327)
      refine gv_run 3 true hD (pc' := 30) (lv' := [(0, .inr (.inr (some 0))), (1, .inl a1)]) (st' := [.inl 1, .inl (I327 0 71)]) (h' := gr_h I327 J328) (C := (((True ∧ True) ∧ True) ∧ True)) rfl ⟨⟨⟨trivial, trivial⟩, trivial⟩, trivial⟩ ?_
      refine gv_icmp_eq (t := 39) hD rfl rfl ⟨⟨by exact gz_m 365 (by omega), by exact gz_m 366 (by omega)⟩, ⟨by exact gz_m 367 (by omega), by exact gz_m 368 (by omega)⟩⟩ (fun c348 => ?_) (fun c348 => ?_)
      · have t349 := (gr_ATp_k A345 (c := 1) (by exact gz_m 369 (by omega))).mp (by exact gz_m 370 (by omega))
        have t350 := (gr_ATp_rr A345).2.2.1.resolve_left (by exact gz_m 371 (by omega))
        exact L39 I327 J328 (gs_X β N9 p9) hI327 FI327 FJ328 KTM_I327 KTO_I327 (by exact gz_m 372 (by omega)) (gr_TS9_tr (gr_TS9_rf I) (gr_TS9_fr (fun k => g326 55 k rfl) (fun k => g326 52 k rfl) (fun k => g326 53 k rfl) (fun k => g326 54 k rfl)) (by exact gz_m 373 (by omega))) A345 (by rw [gs_tm_0 (by exact gz_m 374 (by omega))]; unfold gs_lam; (repeat first | rw [if_pos (by exact gz_m 375 (by omega))] | rw [if_neg (by exact gz_m 376 (by omega))]))
      · have t351 := gr_ATp_ne A345 (c := 1) (by exact gz_m 377 (by omega)) (by exact gz_m 378 (by omega))
        refine gv_run 2 true hD (pc' := 35) (lv' := [(0, .inr (.inr (some 0))), (1, .inl a1)]) (st' := [.inl 1, .inr (.inr (some 0))]) (h' := gr_h I327 J328) (C := ((True ∧ True) ∧ True)) rfl ⟨⟨trivial, trivial⟩, trivial⟩ ?_
        obtain ⟨r352, h352, E352, P352⟩ := r_none_p (ws0 := ws0) (tb := tb) hws htb ext β N9 (gs_X β N9 p9) I327 J328 hI327 1 ⟨by exact gz_m 379 (by omega), by exact gz_m 380 (by omega)⟩ A345 (by exact gz_m 381 (by omega))
        obtain ⟨I353, J354, rfl, hI353, g352, k352, ⟨z352, rfl, q352⟩⟩ := P352
        have FI353 := gr_frt FI327 g352 rfl rfl
        have FJ354 := gr_fjt FJ328 k352 rfl rfl
        have t355 := g352 0 71 rfl
        have t356 := g352 0 72 rfl
        have t357 := g352 0 73 rfl
        have t358 := g352 0 69 rfl
        have t359 := g352 0 64 rfl
        have t360 := g352 0 122 rfl
        have t361 := g352 0 123 rfl
        have t362 := g352 0 3 rfl
        have f363 := (gr_b_0_71 hI353)
        have f364 := (gr_b_0_72 hI353)
        have f365 := (gr_b_0_73 hI353)
        have f366 := (gr_b_0_69 hI353)
        have f367 := (gr_b_0_64 hI353)
        have f368 := (gr_b_0_122 hI353)
        have f369 := (gr_b_0_123 hI353)
        have f370 := (gr_b_0_3 hI353)
        have f371 := (gr_b_0_77 hI353)
        have KTM_I353 := gr_TM_fr KTM_I327 (fun k => g352 52 k rfl) (fun k => g352 53 k rfl) (fun k => g352 54 k rfl) (g352 0 64 rfl)
        have KTO_I353 := gr_TO_fr KTO_I327 (fun k => g352 52 k rfl) (fun k => g352 53 k rfl) (fun k => g352 54 k rfl) (fun k => g352 55 k rfl) (fun k => g352 6 k rfl) (g352 0 64 rfl) (g352 0 3 rfl)
        have A372 := gr_ATp_F A345 g352 k352 rfl
        have t373 := gr_ATp_l A372
        refine gv_callV hD rfl (As := [.inl 1]) (st := []) rfl (by decide) rfl rfl (gr_lV hws rfl) (Nat.le_of_ble_eq_true rfl) (gz_Ev_mono (d := 3) (by exact gz_m 382 (by omega)) E352) ?_
        show gv_X _ _ (38, [(0, .inr (.inr (some 0))), (1, .inl a1)], [.inl z352], gr_sh ++ ext, gr_h I353 J354)
        exact gv_iret hD rfl ⟨I353, J354, rfl, hI353, FI353, FJ354, KTM_I353, KTO_I353, ⟨_, rfl, by exact gz_m 383 (by omega), by exact gz_m 384 (by omega), (gr_ATp_rr A372).1, (gr_ATp_rr A372).2.1, (gr_ATp_rr A372).2.2.1, (gr_ATp_rr A372).2.2.2.1, ⟨(gr_ATp_rr A372).2.2.2.2, (gs_TQ_n (c := -1 - gs_A β N9 (gs_X β N9 p9)) (n := 0) (by rw [gs_tm_0 (by exact gz_m 385 (by omega))]; unfold gs_lam; (repeat first | rw [if_pos (by exact gz_m 386 (by omega))] | rw [if_neg (by exact gz_m 387 (by omega))])) (by exact gz_m 388 (by omega)) (by exact gz_m 389 (by omega)) (by exact gz_m 390 (by omega)))⟩, by exact gz_m 391 (by omega), by exact gz_m 392 (by omega), by exact gz_m 393 (by omega), by exact gz_m 394 (by omega), by exact gz_m 395 (by omega), by exact gz_m 396 (by omega), by exact gz_m 397 (by omega), by exact gz_m 398 (by omega), by exact gz_m 399 (by omega), (Or.inl (by exact gz_m 400 (by omega))), (gr_TS9_tr (gr_TS9_tr (gr_TS9_rf I) (gr_TS9_fr (fun k => g326 55 k rfl) (fun k => g326 52 k rfl) (fun k => g326 53 k rfl) (fun k => g326 54 k rfl)) (by exact gz_m 401 (by omega))) (gr_TS9_fr (fun k => g352 55 k rfl) (fun k => g352 52 k rfl) (fun k => g352 53 k rfl) (fun k => g352 54 k rfl)) (by exact gz_m 402 (by omega)))⟩⟩
  · refine gv_run 2 true hD (pc' := 8) (lv' := [(0, .inr (.inr (some 0))), (1, .inl a1)]) (st' := [.inl 5, .inr (.inr (some 0))]) (h' := gr_h I J) (C := ((True ∧ True) ∧ True)) rfl ⟨⟨trivial, trivial⟩, trivial⟩ ?_
    obtain ⟨r374, h374, E374, P374⟩ := r_none_p (ws0 := ws0) (tb := tb) hws htb ext β N9 p9 I J hI 5 ⟨by exact gz_m 403 (by omega), by exact gz_m 404 (by omega)⟩ x8 (by exact gz_m 405 (by omega))
    obtain ⟨I375, J376, rfl, hI375, g374, k374, ⟨z374, rfl, q374⟩⟩ := P374
    have FI375 := gr_frt FI g374 rfl rfl
    have FJ376 := gr_fjt FJ k374 rfl rfl
    have t377 := g374 0 71 rfl
    have t378 := g374 0 72 rfl
    have t379 := g374 0 73 rfl
    have t380 := g374 0 69 rfl
    have t381 := g374 0 64 rfl
    have t382 := g374 0 122 rfl
    have t383 := g374 0 123 rfl
    have t384 := g374 0 3 rfl
    have f385 := (gr_b_0_71 hI375)
    have f386 := (gr_b_0_72 hI375)
    have f387 := (gr_b_0_73 hI375)
    have f388 := (gr_b_0_69 hI375)
    have f389 := (gr_b_0_64 hI375)
    have f390 := (gr_b_0_122 hI375)
    have f391 := (gr_b_0_123 hI375)
    have f392 := (gr_b_0_3 hI375)
    have f393 := (gr_b_0_77 hI375)
    have KTM_I375 := gr_TM_fr KTM_I (fun k => g374 52 k rfl) (fun k => g374 53 k rfl) (fun k => g374 54 k rfl) (g374 0 64 rfl)
    have KTO_I375 := gr_TO_fr KTO_I (fun k => g374 52 k rfl) (fun k => g374 53 k rfl) (fun k => g374 54 k rfl) (fun k => g374 55 k rfl) (fun k => g374 6 k rfl) (g374 0 64 rfl) (g374 0 3 rfl)
    have A394 := gr_ATp_F x8 g374 k374 rfl
    have t395 := gr_ATp_l A394
    refine gv_callV hD rfl (As := [.inl 5]) (st := []) rfl (by decide) rfl rfl (gr_lV hws rfl) (Nat.le_of_ble_eq_true rfl) (gz_Ev_mono (d := 3) (by exact gz_m 406 (by omega)) E374) ?_
    show gv_X _ _ (11, [(0, .inr (.inr (some 0))), (1, .inl a1)], [.inl z374], gr_sh ++ ext, gr_h I375 J376)
    exact gv_iret hD rfl ⟨I375, J376, rfl, hI375, FI375, FJ376, KTM_I375, KTO_I375, ⟨_, rfl, by exact gz_m 407 (by omega), by exact gz_m 408 (by omega), (gr_ATp_rr A394).1, (gr_ATp_rr A394).2.1, (gr_ATp_rr A394).2.2.1, (gr_ATp_rr A394).2.2.2.1, ⟨(gr_ATp_rr A394).2.2.2.2, (gs_TQ_n (c := -1 - gs_A β N9 p9) (n := 0) (by rw [gs_tm_0 (by exact gz_m 409 (by omega))]; unfold gs_lam; (repeat first | rw [if_pos (by exact gz_m 410 (by omega))] | rw [if_neg (by exact gz_m 411 (by omega))])) (by exact gz_m 412 (by omega)) (by exact gz_m 413 (by omega)) (by exact gz_m 414 (by omega)))⟩, by exact gz_m 415 (by omega), by exact gz_m 416 (by omega), by exact gz_m 417 (by omega), by exact gz_m 418 (by omega), by exact gz_m 419 (by omega), by exact gz_m 420 (by omega), by exact gz_m 421 (by omega), by exact gz_m 422 (by omega), by exact gz_m 423 (by omega), (Or.inl (by exact gz_m 424 (by omega))), (gr_TS9_tr (gr_TS9_rf I) (gr_TS9_fr (fun k => g374 55 k rfl) (fun k => g374 52 k rfl) (fun k => g374 53 k rfl) (fun k => g374 54 k rfl)) (by exact gz_m 425 (by omega)))⟩⟩
