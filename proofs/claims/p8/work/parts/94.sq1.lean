set_option maxHeartbeats 32000000 in
set_option maxRecDepth 100000 in
theorem r_pattern_p_L218_L393_L425 {ws0 : List Cond} {tb : String → gz_T} (hws : ∀ w ∈ gr_ws, w ∈ ws0) (htb : tb RX13 = gr_T) (ext : gz_Sh) (β : Int → Int) (N9 : Int) (p9 : Int) (I : gr_I) (J : gr_J) (hI : gr_Inv I) (x1 : I 0 72 ≤ I 0 69) (x4 : I 0 72 ≤ I 0 73) (x5 : 0 ≤ I 0 6) (x6 : I 0 59 + I 0 69 - I 0 72 ≤ 1900) (x7 : I 0 42 + I 0 69 - I 0 72 ≤ 1900) (x8 : gr_ATp β N9 p9 I J) (x9 : 0 ≤ p9) (x10 : gr_KW J) (x11 : gs_PDa I) (v2_11 : Int64) (v4_80 : Int) : ∀ (I124 : gr_I) (J125 : gr_J) (p_126 : Int), gr_Inv I124 → gr_fr [42, 59, 71, 72, 73, 74, 75, 76, 77, 106] [17, 23, 31, 32, 33, 34, 35, 51, 64, 65, 66] I I124 → gr_fj [42, 59, 71, 72, 73, 74, 75, 76, 77, 106] [17, 23, 31, 32, 33, 34, 35, 51, 64, 65, 66] J J125 → gr_LKs I I124 → gr_PTs I I124 → ((0 ≤ (I 0 6) ∧ (I 0 6) ≤ 7) ∧ (0 ≤ v4_80 ∧ v4_80 ≤ 24) ∧ (v4_80 ≤ 24) ∧ (I124 17 (Int.toNat (I 0 6)) ≤ 23) ∧ (0 ≤ p_126) ∧ (I124 0 72 ≤ I124 0 69) ∧ (I124 0 72 ≤ I124 0 73) ∧ (I124 0 69 = I 0 69) ∧ (I 0 73 ≤ I124 0 73) ∧ (I 0 72 ≤ I124 0 72) ∧ (I124 0 6 = I 0 6) ∧ (I124 0 59 - I124 0 72 ≤ I 0 59 - I 0 72) ∧ (I124 0 42 - I124 0 72 ≤ I 0 42 - I 0 72)) → (gr_ATp β N9 p_126 I124 J125) → ((gs_pat β N9 I J (I 0 78) p9) = p_126) → (v2_11 = (gs_rn β N9 p9)) → ((gs_qtw β N9 I J p9).2 = (fo_ll (gs_en9 I124) v4_80)) → (gs_eok I124 v4_80) → ((∀ k, I124 17 k = I 17 k) ∧ (∀ k, I124 31 k = I 31 k) ∧ (∀ k, I124 32 k = I 32 k) ∧ (∀ k, I124 33 k = I 33 k) ∧ (∀ k, I124 34 k = I 34 k) ∧ (∀ k, J125 23 k = J 23 k)) → gv_X (gr_E ws0 tb 11 (yX13_pattern, cX13_pattern, 8, (some .boolean)) kX13_pattern) (gv_Q cX13_pattern (some .boolean) (gr_sh ++ ext) (fun r hₚ => (∃ (Iₚ : gr_I) (Jₚ : gr_J), hₚ = gr_h Iₚ Jₚ ∧ gr_Inv Iₚ ∧ gr_fr [42, 59, 71, 72, 73, 74, 75, 76, 77, 106] [17, 23, 31, 32, 33, 34, 35, 51, 64, 65, 66] I Iₚ ∧ gr_fj [42, 59, 71, 72, 73, 74, 75, 76, 77, 106] [17, 23, 31, 32, 33, 34, 35, 51, 64, 65, 66] J Jₚ ∧ (∃ z : Int, r = some (.inl z) ∧ 0 ≤ z ∧ z ≤ 1 ∧ (Iₚ 0 71 = 5 ∨ Iₚ 0 73 ≤ Iₚ 0 69) ∧ (Iₚ 0 72 ≤ Iₚ 0 69) ∧ (Iₚ 0 71 = 0 ∨ (Iₚ 0 72 < Iₚ 0 73 ∧ Iₚ 0 72 < Iₚ 0 69)) ∧ (Iₚ 0 71 = 3 → 2 ≤ Iₚ 0 73 - Iₚ 0 72 ∧ Iₚ 0 73 - Iₚ 0 72 ≤ 14) ∧ (Iₚ 0 72 ≤ Iₚ 0 73) ∧ (Iₚ 0 69 = I 0 69) ∧ (I 0 73 ≤ Iₚ 0 73) ∧ (I 0 72 ≤ Iₚ 0 72) ∧ (Iₚ 0 59 - Iₚ 0 72 ≤ I 0 59 - I 0 72) ∧ (Iₚ 0 42 - Iₚ 0 72 ≤ I 0 42 - I 0 72) ∧ (gr_LKs I Iₚ) ∧ (gr_PTs I Iₚ) ∧ (gs_Or z (0 ≤ (gs_pat β N9 I J (I 0 78) p9) ∧ gr_ATp β N9 (gs_pat β N9 I J (I 0 78) p9) Iₚ Jₚ ∧ gs_Upat (gs_rn β N9 p9) (gs_ptw β N9 I J p9).2 I J Iₚ Jₚ ∧ gs_Uct β N9 I J p9 Iₚ) ((gs_pat β N9 I J (I 0 78) p9) < 0 ∧ Iₚ 0 77 = -1 - (gs_pat β N9 I J (I 0 78) p9) ∧ gs_Spt I J Iₚ Jₚ ∧ ∀ j, Iₚ 33 j = I 33 j ∧ Iₚ 34 j = I 34 j)))))) (425, [(0, .inr (.inr (some 0))), (1, .inl (I 0 6)), (2, .inr (.inl v2_11)), (4, .inl v4_80)], [], gr_sh ++ ext, gr_h I124 J125) := by
  have FI : gr_fr [42, 59, 71, 72, 73, 74, 75, 76, 77, 106] [17, 23, 31, 32, 33, 34, 35, 51, 64, 65, 66] I I := fun _ _ _ => rfl
  have FJ : gr_fj [42, 59, 71, 72, 73, 74, 75, 76, 77, 106] [17, 23, 31, 32, 33, 34, 35, 51, 64, 65, 66] J J := fun _ _ _ => rfl
  have hD : gv_D (gr_E ws0 tb 11 (yX13_pattern, cX13_pattern, 8, (some .boolean)) kX13_pattern) := gq_of oX13_pattern
  have tAT := gr_ATp_l x8
  skip
  have KW := x10
  have f1 := (gr_b_0_71 hI)
  have f2 := (gr_b_0_72 hI)
  have f3 := (gr_b_0_73 hI)
  have f4 := (gr_b_0_69 hI)
  have f5 := (gr_b_0_6 hI)
  have f6 := (gr_b_0_59 hI)
  have f7 := (gr_b_0_42 hI)
  have f8 := (gr_b_0_106 hI)
  have KLK_I : gr_LKs I I := gr_LKs_rf
  have KPT_I : gr_PTs I I := gr_PTs_rf
  intro I124 J125 p_126 hI124 FI124 FJ125 KLK_I124 KPT_I124 m_126 e3_126 e4_126 e5_126 e6_126 e7_126 e8_126
  obtain ⟨h_I_0_6__126, hv4_80_126, e0_126, e1_126, e2_126, e9_126, e10_126, e11_126, e12_126, e13_126, e14_126, e15_126, e16_126⟩ := m_126
  have f127 := (gr_b_0_71 hI124)
  have f128 := (gr_b_0_72 hI124)
  have f129 := (gr_b_0_73 hI124)
  have f130 := (gr_b_0_69 hI124)
  have f131 := (gr_b_0_6 hI124)
  have f132 := (gr_b_0_59 hI124)
  have f133 := (gr_b_0_42 hI124)
  have f134 := (gr_b_0_106 hI124)
  have t135 := gr_ATp_l e3_126
  have L463 : ∀ (n : Nat) (I136 : gr_I) (J137 : gr_J) (v5_138 : Int) (v6_138 : Int) (p_138 : Int), (25 - v6_138).toNat < n → gr_Inv I136 → gr_fr [42, 59, 71, 72, 73, 74, 75, 76, 77, 106] [17, 23, 31, 32, 33, 34, 35, 51, 64, 65, 66] I I136 → gr_fj [42, 59, 71, 72, 73, 74, 75, 76, 77, 106] [17, 23, 31, 32, 33, 34, 35, 51, 64, 65, 66] J J137 → gr_LKs I I136 → gr_PTs I I136 → ((0 ≤ v4_80 ∧ v4_80 ≤ 24) ∧ (0 ≤ v5_138 ∧ v5_138 ≤ 191) ∧ (0 ≤ v6_138 ∧ v6_138 ≤ 24) ∧ (0 ≤ p_138) ∧ (I136 0 72 ≤ I136 0 69) ∧ (I136 0 72 ≤ I136 0 73) ∧ (I136 0 69 = I 0 69) ∧ (I 0 73 ≤ I136 0 73) ∧ (I 0 72 ≤ I136 0 72) ∧ (I136 0 6 = I 0 6) ∧ (I136 0 59 - I136 0 72 ≤ I 0 59 - I 0 72) ∧ (I136 0 42 - I136 0 72 ≤ I 0 42 - I 0 72)) → (gr_ATp β N9 p_138 I136 J137) → ((gs_pat β N9 I J (I 0 78) p9) = p_138) → ((gs_qtw β N9 I J p9).2 = (fo_ll (gs_en9 I136) v4_80)) → (gs_Upm (gs_rn β N9 p9) v4_80 (Int.toNat v6_138) I J I136 J137) → (v6_138 ≤ v4_80) → (v5_138 = 24 * I 0 6 + I 17 (Int.toNat (I 0 6))) → (gs_Uc9 I I136 (Int.toNat v6_138)) → (gs_eok I136 v4_80) → (0 ≤ I 17 (Int.toNat (I 0 6)) ∧ I 17 (Int.toNat (I 0 6)) < 24) → gv_X (gr_E ws0 tb 11 (yX13_pattern, cX13_pattern, 8, (some .boolean)) kX13_pattern) (gv_Q cX13_pattern (some .boolean) (gr_sh ++ ext) (fun r hₚ => (∃ (Iₚ : gr_I) (Jₚ : gr_J), hₚ = gr_h Iₚ Jₚ ∧ gr_Inv Iₚ ∧ gr_fr [42, 59, 71, 72, 73, 74, 75, 76, 77, 106] [17, 23, 31, 32, 33, 34, 35, 51, 64, 65, 66] I Iₚ ∧ gr_fj [42, 59, 71, 72, 73, 74, 75, 76, 77, 106] [17, 23, 31, 32, 33, 34, 35, 51, 64, 65, 66] J Jₚ ∧ (∃ z : Int, r = some (.inl z) ∧ 0 ≤ z ∧ z ≤ 1 ∧ (Iₚ 0 71 = 5 ∨ Iₚ 0 73 ≤ Iₚ 0 69) ∧ (Iₚ 0 72 ≤ Iₚ 0 69) ∧ (Iₚ 0 71 = 0 ∨ (Iₚ 0 72 < Iₚ 0 73 ∧ Iₚ 0 72 < Iₚ 0 69)) ∧ (Iₚ 0 71 = 3 → 2 ≤ Iₚ 0 73 - Iₚ 0 72 ∧ Iₚ 0 73 - Iₚ 0 72 ≤ 14) ∧ (Iₚ 0 72 ≤ Iₚ 0 73) ∧ (Iₚ 0 69 = I 0 69) ∧ (I 0 73 ≤ Iₚ 0 73) ∧ (I 0 72 ≤ Iₚ 0 72) ∧ (Iₚ 0 59 - Iₚ 0 72 ≤ I 0 59 - I 0 72) ∧ (Iₚ 0 42 - Iₚ 0 72 ≤ I 0 42 - I 0 72) ∧ (gr_LKs I Iₚ) ∧ (gr_PTs I Iₚ) ∧ (gs_Or z (0 ≤ (gs_pat β N9 I J (I 0 78) p9) ∧ gr_ATp β N9 (gs_pat β N9 I J (I 0 78) p9) Iₚ Jₚ ∧ gs_Upat (gs_rn β N9 p9) (gs_ptw β N9 I J p9).2 I J Iₚ Jₚ ∧ gs_Uct β N9 I J p9 Iₚ) ((gs_pat β N9 I J (I 0 78) p9) < 0 ∧ Iₚ 0 77 = -1 - (gs_pat β N9 I J (I 0 78) p9) ∧ gs_Spt I J Iₚ Jₚ ∧ ∀ j, Iₚ 33 j = I 33 j ∧ Iₚ 34 j = I 34 j)))))) (463, [(0, .inr (.inr (some 0))), (4, .inl v4_80), (5, .inl v5_138), (6, .inl v6_138)], [], gr_sh ++ ext, gr_h I136 J137) := by
    intro n
    induction n with
    | zero => intro I136 J137 v5_138 v6_138 p_138 hn; exact gz_m 3 (by omega)
    | succ n ih463 =>
      intro I136 J137 v5_138 v6_138 p_138 hn hI136 FI136 FJ137 KLK_I136 KPT_I136 m_138 e1_138 e2_138 e3_138 e4_138 e5_138 e6_138 e7_138 e8_138 e9_138
      clear h_I_0_6__126 hv4_80_126 e0_126 e1_126 e2_126 e9_126 e10_126 e11_126 e12_126 e13_126 e14_126 e15_126 e16_126 f127 f128 f129 f130 f131 f132 f133 f134 t135
      obtain ⟨hv4_80_138, hv5_138, hv6_138, e0_138, e10_138, e11_138, e12_138, e13_138, e14_138, e15_138, e16_138, e17_138⟩ := m_138
      have f139 := (gr_b_0_71 hI136)
      have f140 := (gr_b_0_72 hI136)
      have f141 := (gr_b_0_73 hI136)
      have f142 := (gr_b_0_69 hI136)
      have f143 := (gr_b_0_6 hI136)
      have f144 := (gr_b_0_59 hI136)
      have f145 := (gr_b_0_42 hI136)
      have f146 := (gr_b_0_106 hI136)
      have t147 := gr_ATp_l e1_138
      refine gv_run 2 true hD (pcₚ := 467) (lvₚ := [(0, .inr (.inr (some 0))), (4, .inl v4_80), (5, .inl v5_138), (6, .inl v6_138)]) (stₚ := [.inl v4_80, .inl v6_138]) (hₚ := gr_h I136 J137) (C := ((True ∧ True) ∧ True)) rfl ⟨⟨trivial, trivial⟩, trivial⟩ ?_
      refine gv_icmp_ge (t := 536) hD rfl rfl ⟨⟨by exact gz_m 4 (by omega), by exact gz_m 5 (by omega)⟩, ⟨by exact gz_m 6 (by omega), by exact gz_m 7 (by omega)⟩⟩ (fun c148 => ?_) (fun c148 => ?_)
      · refine gv_run 1 true hD (pcₚ := 537) (lvₚ := [(0, .inr (.inr (some 0))), (4, .inl v4_80), (5, .inl v5_138), (6, .inl v6_138)]) (stₚ := [.inl 1]) (hₚ := gr_h I136 J137) (C := (True ∧ True)) rfl ⟨trivial, trivial⟩ ?_
        have b149 : (I136 0 69 = I 0 69) ∧ (I 0 73 ≤ I136 0 73) ∧ (I 0 72 ≤ I136 0 72) ∧ (I136 0 59 - I136 0 72 ≤ I 0 59 - I 0 72) ∧ (I136 0 42 - I136 0 72 ≤ I 0 42 - I 0 72) := by exact gz_m 8 (by omega)
        exact gv_zret hD rfl (by exact gz_m 9 (by omega)) ⟨I136, J137, rfl, hI136, FI136, FJ137, ⟨_, rfl, by exact gz_m 10 (by omega), by exact gz_m 11 (by omega), (gr_ATp_rr e1_138).1, (gr_ATp_rr e1_138).2.1, (gr_ATp_rr e1_138).2.2.1, (gr_ATp_rr e1_138).2.2.2.1, (gr_ATp_rr e1_138).2.2.2.2, b149.1, b149.2.1, b149.2.2.1, b149.2.2.2.1, b149.2.2.2.2, KLK_I136, KPT_I136, (Or.inl ⟨by exact gz_m 12 (by omega), by rw [e2_138]; exact ⟨by exact gz_m 13 (by omega), e1_138, gs_Upat_mk e4_138 (by exact gz_m 14 (by omega)) (by exact gz_m 15 (by omega)) (by rw [gs_ptw_2 (show gs_qtw β N9 I J p9 = ((gs_qtw β N9 I J p9).1, (gs_qtw β N9 I J p9).2) from rfl), e3_138, fo_ll_map]; rfl), gs_Uct_mk e4_138 e7_138 (by exact gz_m 16 (by omega)) (by exact gz_m 17 (by omega)) ⟨⟨by exact gz_m 18 (by omega), by exact gz_m 19 (by omega)⟩, e9_138⟩ e3_138 e8_138⟩⟩)⟩⟩
      · refine gv_run 7 true hD (pcₚ := 482) (lvₚ := [(0, .inr (.inr (some 0))), (4, .inl v4_80), (5, .inl v5_138), (6, .inl v6_138)]) (stₚ := [.inl ((24 * v5_138) + v6_138), .inr (.inr (some 32))]) (hₚ := gr_h I136 J137) (C := (((((((True ∧ True) ∧ True) ∧ True) ∧ True) ∧ True) ∧ True) ∧ True)) rfl ⟨⟨⟨⟨⟨⟨⟨trivial, trivial⟩, trivial⟩, trivial⟩, trivial⟩, trivial⟩, trivial⟩, trivial⟩ ?_
        have f150 := (gr_b_64 hI136 (Int.toNat v6_138))
        refine gv_run 4 true hD (pcₚ := 489) (lvₚ := [(0, .inr (.inr (some 0))), (4, .inl v4_80), (5, .inl v5_138), (6, .inl v6_138)]) (stₚ := [.inl (I136 64 (Int.toNat v6_138)), .inl ((24 * v5_138) + v6_138), .inr (.inr (some 32))]) (hₚ := gr_h I136 J137) (C := ((((True ∧ True) ∧ True) ∧ True) ∧ (0 ≤ v6_138 ∧ v6_138 < ((420 : Nat) : Int)))) rfl ⟨⟨⟨⟨trivial, trivial⟩, trivial⟩, trivial⟩, ⟨by exact gz_m 20 (by omega), by exact gz_m 21 (by omega)⟩⟩ ?_
        refine gv_run 1 true hD (pcₚ := 490) (lvₚ := [(0, .inr (.inr (some 0))), (4, .inl v4_80), (5, .inl v5_138), (6, .inl v6_138)]) (stₚ := []) (hₚ := gz_up (gr_h I136 J137) 32 (Int.toNat (((24 * v5_138) + v6_138))) (.inl ((I136 64 (Int.toNat v6_138))))) (C := (True ∧ (0 ≤ (((24 * v5_138) + v6_138)) ∧ (((24 * v5_138) + v6_138)) < ((4608 : Nat) : Int)))) rfl ⟨trivial, ⟨by exact gz_m 22 (by omega), by exact gz_m 23 (by omega)⟩⟩ ?_
        refine gr_st hI136 FI136 rfl rfl ⟨⟨by show 0 ≤ _; exact gz_m 24 (by omega), by show _ ≤ 16777215; exact gz_m 25 (by omega)⟩, trivial⟩ (fun I151 hI151 FI151 q152 p152 => ?_)
        have t153 := p152 0 71 (fun q => absurd q.1 (by first | exact gz_ne rfl | decide))
        have t154 := p152 0 72 (fun q => absurd q.1 (by first | exact gz_ne rfl | decide))
        have t155 := p152 0 73 (fun q => absurd q.1 (by first | exact gz_ne rfl | decide))
        have t156 := p152 0 69 (fun q => absurd q.1 (by first | exact gz_ne rfl | decide))
        have t157 := p152 0 6 (fun q => absurd q.1 (by first | exact gz_ne rfl | decide))
        have t158 := p152 0 59 (fun q => absurd q.1 (by first | exact gz_ne rfl | decide))
        have t159 := p152 0 42 (fun q => absurd q.1 (by first | exact gz_ne rfl | decide))
        have t160 := p152 0 106 (fun q => absurd q.1 (by first | exact gz_ne rfl | decide))
        have t161 := p152 65 (Int.toNat v5_138) (fun q => absurd q.1 (by first | exact gz_ne rfl | decide))
        have f162 := (gr_b_0_71 hI151)
        have f163 := (gr_b_0_72 hI151)
        have f164 := (gr_b_0_73 hI151)
        have f165 := (gr_b_0_69 hI151)
        have f166 := (gr_b_0_6 hI151)
        have f167 := (gr_b_0_59 hI151)
        have f168 := (gr_b_0_42 hI151)
        have f169 := (gr_b_0_106 hI151)
        have KLK_I151 := gr_LKs_fr KLK_I136 (fun k => p152 51 k (fun q => absurd q.1 (by first | exact gz_ne rfl | decide))) (p152 0 59 (fun q => absurd q.1 (by first | exact gz_ne rfl | decide)))
        have KPT_I151 := gr_PTs_fr KPT_I136 (fun k => p152 35 k (fun q => absurd q.1 (by first | exact gz_ne rfl | decide))) (p152 0 42 (fun q => absurd q.1 (by first | exact gz_ne rfl | decide)))
        have A170 := gr_ATp_sr e1_138 p152 rfl
        refine gv_run 7 true hD (pcₚ := 502) (lvₚ := [(0, .inr (.inr (some 0))), (4, .inl v4_80), (5, .inl v5_138), (6, .inl v6_138)]) (stₚ := [.inl ((24 * v5_138) + v6_138), .inr (.inr (some 33))]) (hₚ := gr_h I151 J137) (C := (((((((True ∧ True) ∧ True) ∧ True) ∧ True) ∧ True) ∧ True) ∧ True)) rfl ⟨⟨⟨⟨⟨⟨⟨trivial, trivial⟩, trivial⟩, trivial⟩, trivial⟩, trivial⟩, trivial⟩, trivial⟩ ?_
        have f171 := (gr_b_65 hI151 (Int.toNat v6_138))
        refine gv_run 4 true hD (pcₚ := 509) (lvₚ := [(0, .inr (.inr (some 0))), (4, .inl v4_80), (5, .inl v5_138), (6, .inl v6_138)]) (stₚ := [.inl (I151 65 (Int.toNat v6_138)), .inl ((24 * v5_138) + v6_138), .inr (.inr (some 33))]) (hₚ := gr_h I151 J137) (C := ((((True ∧ True) ∧ True) ∧ True) ∧ (0 ≤ v6_138 ∧ v6_138 < ((420 : Nat) : Int)))) rfl ⟨⟨⟨⟨trivial, trivial⟩, trivial⟩, trivial⟩, ⟨by exact gz_m 26 (by omega), by exact gz_m 27 (by omega)⟩⟩ ?_
        refine gv_run 1 true hD (pcₚ := 510) (lvₚ := [(0, .inr (.inr (some 0))), (4, .inl v4_80), (5, .inl v5_138), (6, .inl v6_138)]) (stₚ := []) (hₚ := gz_up (gr_h I151 J137) 33 (Int.toNat (((24 * v5_138) + v6_138))) (.inl ((I151 65 (Int.toNat v6_138))))) (C := (True ∧ (0 ≤ (((24 * v5_138) + v6_138)) ∧ (((24 * v5_138) + v6_138)) < ((4608 : Nat) : Int)))) rfl ⟨trivial, ⟨by exact gz_m 28 (by omega), by exact gz_m 29 (by omega)⟩⟩ ?_
        refine gr_st hI151 FI151 rfl rfl ⟨⟨by show 0 ≤ _; exact gz_m 30 (by omega), by show _ ≤ 2000; exact gz_m 31 (by omega)⟩, trivial⟩ (fun I172 hI172 FI172 q173 p173 => ?_)
        have t174 := p173 0 71 (fun q => absurd q.1 (by first | exact gz_ne rfl | decide))
        have t175 := p173 0 72 (fun q => absurd q.1 (by first | exact gz_ne rfl | decide))
        have t176 := p173 0 73 (fun q => absurd q.1 (by first | exact gz_ne rfl | decide))
        have t177 := p173 0 69 (fun q => absurd q.1 (by first | exact gz_ne rfl | decide))
        have t178 := p173 0 6 (fun q => absurd q.1 (by first | exact gz_ne rfl | decide))
        have t179 := p173 0 59 (fun q => absurd q.1 (by first | exact gz_ne rfl | decide))
        have t180 := p173 0 42 (fun q => absurd q.1 (by first | exact gz_ne rfl | decide))
        have t181 := p173 0 106 (fun q => absurd q.1 (by first | exact gz_ne rfl | decide))
        have t182 := p173 65 (Int.toNat v5_138) (fun q => absurd q.1 (by first | exact gz_ne rfl | decide))
        have f183 := (gr_b_0_71 hI172)
        have f184 := (gr_b_0_72 hI172)
        have f185 := (gr_b_0_73 hI172)
        have f186 := (gr_b_0_69 hI172)
        have f187 := (gr_b_0_6 hI172)
        have f188 := (gr_b_0_59 hI172)
        have f189 := (gr_b_0_42 hI172)
        have f190 := (gr_b_0_106 hI172)
        have KLK_I172 := gr_LKs_fr KLK_I151 (fun k => p173 51 k (fun q => absurd q.1 (by first | exact gz_ne rfl | decide))) (p173 0 59 (fun q => absurd q.1 (by first | exact gz_ne rfl | decide)))
        have KPT_I172 := gr_PTs_fr KPT_I151 (fun k => p173 35 k (fun q => absurd q.1 (by first | exact gz_ne rfl | decide))) (p173 0 42 (fun q => absurd q.1 (by first | exact gz_ne rfl | decide)))
        have A191 := gr_ATp_sr A170 p173 rfl
        refine gv_run 7 true hD (pcₚ := 522) (lvₚ := [(0, .inr (.inr (some 0))), (4, .inl v4_80), (5, .inl v5_138), (6, .inl v6_138)]) (stₚ := [.inl ((24 * v5_138) + v6_138), .inr (.inr (some 34))]) (hₚ := gr_h I172 J137) (C := (((((((True ∧ True) ∧ True) ∧ True) ∧ True) ∧ True) ∧ True) ∧ True)) rfl ⟨⟨⟨⟨⟨⟨⟨trivial, trivial⟩, trivial⟩, trivial⟩, trivial⟩, trivial⟩, trivial⟩, trivial⟩ ?_
        have f192 := (gr_b_66 hI172 (Int.toNat v6_138))
        refine gv_run 4 true hD (pcₚ := 529) (lvₚ := [(0, .inr (.inr (some 0))), (4, .inl v4_80), (5, .inl v5_138), (6, .inl v6_138)]) (stₚ := [.inl (I172 66 (Int.toNat v6_138)), .inl ((24 * v5_138) + v6_138), .inr (.inr (some 34))]) (hₚ := gr_h I172 J137) (C := ((((True ∧ True) ∧ True) ∧ True) ∧ (0 ≤ v6_138 ∧ v6_138 < ((420 : Nat) : Int)))) rfl ⟨⟨⟨⟨trivial, trivial⟩, trivial⟩, trivial⟩, ⟨by exact gz_m 32 (by omega), by exact gz_m 33 (by omega)⟩⟩ ?_
        refine gv_run 1 true hD (pcₚ := 530) (lvₚ := [(0, .inr (.inr (some 0))), (4, .inl v4_80), (5, .inl v5_138), (6, .inl v6_138)]) (stₚ := []) (hₚ := gz_up (gr_h I172 J137) 34 (Int.toNat (((24 * v5_138) + v6_138))) (.inl ((I172 66 (Int.toNat v6_138))))) (C := (True ∧ (0 ≤ (((24 * v5_138) + v6_138)) ∧ (((24 * v5_138) + v6_138)) < ((4608 : Nat) : Int)))) rfl ⟨trivial, ⟨by exact gz_m 34 (by omega), by exact gz_m 35 (by omega)⟩⟩ ?_
        refine gr_st hI172 FI172 rfl rfl ⟨⟨by show (-1) ≤ _; exact gz_m 36 (by omega), by show _ ≤ 2000; exact gz_m 37 (by omega)⟩, trivial⟩ (fun I193 hI193 FI193 q194 p194 => ?_)
        have t195 := p194 0 71 (fun q => absurd q.1 (by first | exact gz_ne rfl | decide))
        have t196 := p194 0 72 (fun q => absurd q.1 (by first | exact gz_ne rfl | decide))
        have t197 := p194 0 73 (fun q => absurd q.1 (by first | exact gz_ne rfl | decide))
        have t198 := p194 0 69 (fun q => absurd q.1 (by first | exact gz_ne rfl | decide))
        have t199 := p194 0 6 (fun q => absurd q.1 (by first | exact gz_ne rfl | decide))
        have t200 := p194 0 59 (fun q => absurd q.1 (by first | exact gz_ne rfl | decide))
        have t201 := p194 0 42 (fun q => absurd q.1 (by first | exact gz_ne rfl | decide))
        have t202 := p194 0 106 (fun q => absurd q.1 (by first | exact gz_ne rfl | decide))
        have t203 := p194 65 (Int.toNat v5_138) (fun q => absurd q.1 (by first | exact gz_ne rfl | decide))
        have f204 := (gr_b_0_71 hI193)
        have f205 := (gr_b_0_72 hI193)
        have f206 := (gr_b_0_73 hI193)
        have f207 := (gr_b_0_69 hI193)
        have f208 := (gr_b_0_6 hI193)
        have f209 := (gr_b_0_59 hI193)
        have f210 := (gr_b_0_42 hI193)
        have f211 := (gr_b_0_106 hI193)
        have KLK_I193 := gr_LKs_fr KLK_I172 (fun k => p194 51 k (fun q => absurd q.1 (by first | exact gz_ne rfl | decide))) (p194 0 59 (fun q => absurd q.1 (by first | exact gz_ne rfl | decide)))
        have KPT_I193 := gr_PTs_fr KPT_I172 (fun k => p194 35 k (fun q => absurd q.1 (by first | exact gz_ne rfl | decide))) (p194 0 42 (fun q => absurd q.1 (by first | exact gz_ne rfl | decide)))
        have A212 := gr_ATp_sr A191 p194 rfl
        refine gv_run 2 true hD (pcₚ := 463) (lvₚ := [(6, .inl (v6_138 + 1)), (0, .inr (.inr (some 0))), (4, .inl v4_80), (5, .inl v5_138)]) (stₚ := []) (hₚ := gr_h I193 J137) (C := ((True ∧ True) ∧ True)) rfl ⟨⟨trivial, trivial⟩, trivial⟩ ?_
        refine gv_pick [1, 2, 3, 0] rfl ?_
        exact ih463 I193 J137 v5_138 (v6_138 + 1) p_138 (by exact gz_m 38 (by omega)) hI193 FI193 FJ137 KLK_I193 KPT_I193 (by exact gz_m 39 (by omega)) A212 e2_138 (by rw [e3_138, show fo_ll (gs_en9 I193) _ = fo_ll (gs_en9 I136) _ from (gs_ens_kp e8_138 (gr_LKs_fr (gr_LKs_fr (gr_LKs_fr gr_LKs_rf (fun k => p152 51 k (fun q => absurd q.1 (by first | exact gz_ne rfl | decide))) (p152 0 59 (fun q => absurd q.1 (by first | exact gz_ne rfl | decide)))) (fun k => p173 51 k (fun q => absurd q.1 (by first | exact gz_ne rfl | decide))) (p173 0 59 (fun q => absurd q.1 (by first | exact gz_ne rfl | decide)))) (fun k => p194 51 k (fun q => absurd q.1 (by first | exact gz_ne rfl | decide))) (p194 0 59 (fun q => absurd q.1 (by first | exact gz_ne rfl | decide)))) (gr_PTs_fr (gr_PTs_fr (gr_PTs_fr gr_PTs_rf (fun k => p152 35 k (fun q => absurd q.1 (by first | exact gz_ne rfl | decide))) (p152 0 42 (fun q => absurd q.1 (by first | exact gz_ne rfl | decide)))) (fun k => p173 35 k (fun q => absurd q.1 (by first | exact gz_ne rfl | decide))) (p173 0 42 (fun q => absurd q.1 (by first | exact gz_ne rfl | decide)))) (fun k => p194 35 k (fun q => absurd q.1 (by first | exact gz_ne rfl | decide))) (p194 0 42 (fun q => absurd q.1 (by first | exact gz_ne rfl | decide)))) (fun j => (((p194 64 j (fun q => absurd q.1 (by first | exact gz_ne rfl | decide))).trans (p173 64 j (fun q => absurd q.1 (by first | exact gz_ne rfl | decide)))).trans (p152 64 j (fun q => absurd q.1 (by first | exact gz_ne rfl | decide))))) (fun j => (((p194 65 j (fun q => absurd q.1 (by first | exact gz_ne rfl | decide))).trans (p173 65 j (fun q => absurd q.1 (by first | exact gz_ne rfl | decide)))).trans (p152 65 j (fun q => absurd q.1 (by first | exact gz_ne rfl | decide))))) (fun j => (((p194 66 j (fun q => absurd q.1 (by first | exact gz_ne rfl | decide))).trans (p173 66 j (fun q => absurd q.1 (by first | exact gz_ne rfl | decide)))).trans (p152 66 j (fun q => absurd q.1 (by first | exact gz_ne rfl | decide)))))).1]) (by rw [show Int.toNat (v6_138 + 1) = Int.toNat v6_138 + 1 from by exact gz_m 40 (by omega)]; exact gs_Upm_s e4_138 (by unfold gs_Pn; exact gz_m 41 (by omega)) p152 q152 p173 p194) (by exact gz_m 42 (by omega)) e6_138 (by rw [show Int.toNat (v6_138 + 1) = Int.toNat v6_138 + 1 from by exact gz_m 43 (by omega)]; exact gs_Uc9_s e7_138 p152 (by unfold gs_Pn; exact gz_m 44 (by omega)) p173 q173 (by unfold gs_Pn; exact gz_m 45 (by omega)) p194 q194) (gs_ens_kp e8_138 (gr_LKs_fr (gr_LKs_fr (gr_LKs_fr gr_LKs_rf (fun k => p152 51 k (fun q => absurd q.1 (by first | exact gz_ne rfl | decide))) (p152 0 59 (fun q => absurd q.1 (by first | exact gz_ne rfl | decide)))) (fun k => p173 51 k (fun q => absurd q.1 (by first | exact gz_ne rfl | decide))) (p173 0 59 (fun q => absurd q.1 (by first | exact gz_ne rfl | decide)))) (fun k => p194 51 k (fun q => absurd q.1 (by first | exact gz_ne rfl | decide))) (p194 0 59 (fun q => absurd q.1 (by first | exact gz_ne rfl | decide)))) (gr_PTs_fr (gr_PTs_fr (gr_PTs_fr gr_PTs_rf (fun k => p152 35 k (fun q => absurd q.1 (by first | exact gz_ne rfl | decide))) (p152 0 42 (fun q => absurd q.1 (by first | exact gz_ne rfl | decide)))) (fun k => p173 35 k (fun q => absurd q.1 (by first | exact gz_ne rfl | decide))) (p173 0 42 (fun q => absurd q.1 (by first | exact gz_ne rfl | decide)))) (fun k => p194 35 k (fun q => absurd q.1 (by first | exact gz_ne rfl | decide))) (p194 0 42 (fun q => absurd q.1 (by first | exact gz_ne rfl | decide)))) (fun j => (((p194 64 j (fun q => absurd q.1 (by first | exact gz_ne rfl | decide))).trans (p173 64 j (fun q => absurd q.1 (by first | exact gz_ne rfl | decide)))).trans (p152 64 j (fun q => absurd q.1 (by first | exact gz_ne rfl | decide))))) (fun j => (((p194 65 j (fun q => absurd q.1 (by first | exact gz_ne rfl | decide))).trans (p173 65 j (fun q => absurd q.1 (by first | exact gz_ne rfl | decide)))).trans (p152 65 j (fun q => absurd q.1 (by first | exact gz_ne rfl | decide))))) (fun j => (((p194 66 j (fun q => absurd q.1 (by first | exact gz_ne rfl | decide))).trans (p173 66 j (fun q => absurd q.1 (by first | exact gz_ne rfl | decide)))).trans (p152 66 j (fun q => absurd q.1 (by first | exact gz_ne rfl | decide)))))).2 e9_138
  refine gv_run 7 true hD (pcₚ := 435) (lvₚ := [(0, .inr (.inr (some 0))), (1, .inl (I 0 6)), (2, .inr (.inl v2_11)), (4, .inl v4_80)]) (stₚ := [.inl (I 0 6), .inr (.inr (some 17)), .inl (I 0 6), .inr (.inr (some 17)), .inl (24 * (I 0 6))]) (hₚ := gr_h I124 J125) (C := (((((((True ∧ True) ∧ True) ∧ True) ∧ True) ∧ True) ∧ True) ∧ True)) rfl ⟨⟨⟨⟨⟨⟨⟨trivial, trivial⟩, trivial⟩, trivial⟩, trivial⟩, trivial⟩, trivial⟩, trivial⟩ ?_
  have f213 := (gr_b_17 hI124 (Int.toNat ((I 0 6))))
  refine gv_run 1 true hD (pcₚ := 436) (lvₚ := [(0, .inr (.inr (some 0))), (1, .inl (I 0 6)), (2, .inr (.inl v2_11)), (4, .inl v4_80)]) (stₚ := [.inl (I124 17 (Int.toNat ((I 0 6)))), .inl (I 0 6), .inr (.inr (some 17)), .inl (24 * (I 0 6))]) (hₚ := gr_h I124 J125) (C := (True ∧ (0 ≤ (I 0 6) ∧ (I 0 6) < ((8 : Nat) : Int)))) rfl ⟨trivial, ⟨by exact gz_m 46 (by omega), by exact gz_m 47 (by omega)⟩⟩ ?_
  refine gv_run 3 true hD (pcₚ := 439) (lvₚ := [(0, .inr (.inr (some 0))), (1, .inl (I 0 6)), (2, .inr (.inl v2_11)), (4, .inl v4_80)]) (stₚ := [.inl ((I124 17 (Int.toNat ((I 0 6)))) + 1), .inl (I 0 6), .inr (.inr (some 17)), .inl (I124 17 (Int.toNat ((I 0 6)))), .inl (24 * (I 0 6))]) (hₚ := gr_h I124 J125) (C := (((True ∧ True) ∧ True) ∧ True)) rfl ⟨⟨⟨trivial, trivial⟩, trivial⟩, trivial⟩ ?_
  have t214 := (show I124 17 (Int.toNat (I 0 6)) = I 17 (Int.toNat (I 0 6)) from (e8_126.1 _))
  refine gv_run 1 true hD (pcₚ := 440) (lvₚ := [(0, .inr (.inr (some 0))), (1, .inl (I 0 6)), (2, .inr (.inl v2_11)), (4, .inl v4_80)]) (stₚ := [.inl (I124 17 (Int.toNat ((I 0 6)))), .inl (24 * (I 0 6))]) (hₚ := gz_up (gr_h I124 J125) 17 (Int.toNat ((I 0 6))) (.inl (((I124 17 (Int.toNat ((I 0 6)))) + 1)))) (C := (True ∧ (0 ≤ (I 0 6) ∧ (I 0 6) < ((8 : Nat) : Int)))) rfl ⟨trivial, ⟨by exact gz_m 48 (by omega), by exact gz_m 49 (by omega)⟩⟩ ?_
  refine gr_st hI124 FI124 rfl rfl ⟨⟨by show 0 ≤ _; exact gz_m 50 (by omega), by show _ ≤ 24; exact gz_m 51 (by omega)⟩, trivial⟩ (fun I215 hI215 FI215 q216 p216 => ?_)
  have t217 := p216 0 71 (fun q => absurd q.1 (by first | exact gz_ne rfl | decide))
  have t218 := p216 0 72 (fun q => absurd q.1 (by first | exact gz_ne rfl | decide))
  have t219 := p216 0 73 (fun q => absurd q.1 (by first | exact gz_ne rfl | decide))
  have t220 := p216 0 69 (fun q => absurd q.1 (by first | exact gz_ne rfl | decide))
  have t221 := p216 0 6 (fun q => absurd q.1 (by first | exact gz_ne rfl | decide))
  have t222 := p216 0 59 (fun q => absurd q.1 (by first | exact gz_ne rfl | decide))
  have t223 := p216 0 42 (fun q => absurd q.1 (by first | exact gz_ne rfl | decide))
  have t224 := p216 0 106 (fun q => absurd q.1 (by first | exact gz_ne rfl | decide))
  have f225 := (gr_b_0_71 hI215)
  have f226 := (gr_b_0_72 hI215)
  have f227 := (gr_b_0_73 hI215)
  have f228 := (gr_b_0_69 hI215)
  have f229 := (gr_b_0_6 hI215)
  have f230 := (gr_b_0_59 hI215)
  have f231 := (gr_b_0_42 hI215)
  have f232 := (gr_b_0_106 hI215)
  have KLK_I215 := gr_LKs_fr KLK_I124 (fun k => p216 51 k (fun q => absurd q.1 (by first | exact gz_ne rfl | decide))) (p216 0 59 (fun q => absurd q.1 (by first | exact gz_ne rfl | decide)))
  have KPT_I215 := gr_PTs_fr KPT_I124 (fun k => p216 35 k (fun q => absurd q.1 (by first | exact gz_ne rfl | decide))) (p216 0 42 (fun q => absurd q.1 (by first | exact gz_ne rfl | decide)))
  have A233 := gr_ATp_sr e3_126 p216 rfl
  refine gv_run 6 true hD (pcₚ := 450) (lvₚ := [(5, .inl ((24 * (I 0 6)) + (I124 17 (Int.toNat ((I 0 6)))))), (0, .inr (.inr (some 0))), (1, .inl (I 0 6)), (2, .inr (.inl v2_11)), (4, .inl v4_80)]) (stₚ := [.inr (.inl v2_11), .inl ((24 * (I 0 6)) + (I124 17 (Int.toNat ((I 0 6))))), .inr (.inr (some 23))]) (hₚ := gr_h I215 J125) (C := ((((((True ∧ True) ∧ True) ∧ True) ∧ True) ∧ True) ∧ True)) rfl ⟨⟨⟨⟨⟨⟨trivial, trivial⟩, trivial⟩, trivial⟩, trivial⟩, trivial⟩, trivial⟩ ?_
  refine gv_run 1 true hD (pcₚ := 451) (lvₚ := [(5, .inl ((24 * (I 0 6)) + (I124 17 (Int.toNat ((I 0 6)))))), (0, .inr (.inr (some 0))), (1, .inl (I 0 6)), (2, .inr (.inl v2_11)), (4, .inl v4_80)]) (stₚ := []) (hₚ := gz_up (gr_h I215 J125) 23 (Int.toNat (((24 * (I 0 6)) + (I124 17 (Int.toNat ((I 0 6))))))) (.inr (.inl v2_11))) (C := (True ∧ (0 ≤ (((24 * (I 0 6)) + (I124 17 (Int.toNat ((I 0 6)))))) ∧ (((24 * (I 0 6)) + (I124 17 (Int.toNat ((I 0 6)))))) < ((192 : Nat) : Int)))) rfl ⟨trivial, ⟨by exact gz_m 52 (by omega), by exact gz_m 53 (by omega)⟩⟩ ?_
  refine gr_stJq FJ125 rfl rfl (fun J234 FJ234 q235 p235 => ?_)
  have A236 := gr_ATp_sj' A233 p235 rfl
  refine gv_run 4 true hD (pcₚ := 459) (lvₚ := [(5, .inl ((24 * (I 0 6)) + (I124 17 (Int.toNat ((I 0 6)))))), (0, .inr (.inr (some 0))), (1, .inl (I 0 6)), (2, .inr (.inl v2_11)), (4, .inl v4_80)]) (stₚ := [.inl v4_80, .inl ((24 * (I 0 6)) + (I124 17 (Int.toNat ((I 0 6))))), .inr (.inr (some 31))]) (hₚ := gr_h I215 J234) (C := ((((True ∧ True) ∧ True) ∧ True) ∧ True)) rfl ⟨⟨⟨⟨trivial, trivial⟩, trivial⟩, trivial⟩, trivial⟩ ?_
  refine gv_run 1 true hD (pcₚ := 460) (lvₚ := [(5, .inl ((24 * (I 0 6)) + (I124 17 (Int.toNat ((I 0 6)))))), (0, .inr (.inr (some 0))), (1, .inl (I 0 6)), (2, .inr (.inl v2_11)), (4, .inl v4_80)]) (stₚ := []) (hₚ := gz_up (gr_h I215 J234) 31 (Int.toNat (((24 * (I 0 6)) + (I124 17 (Int.toNat ((I 0 6))))))) (.inl v4_80)) (C := (True ∧ (0 ≤ (((24 * (I 0 6)) + (I124 17 (Int.toNat ((I 0 6)))))) ∧ (((24 * (I 0 6)) + (I124 17 (Int.toNat ((I 0 6)))))) < ((192 : Nat) : Int)))) rfl ⟨trivial, ⟨by exact gz_m 54 (by omega), by exact gz_m 55 (by omega)⟩⟩ ?_
  refine gr_st hI215 FI215 rfl rfl ⟨⟨by show 0 ≤ _; exact gz_m 56 (by omega), by show _ ≤ 24; exact gz_m 57 (by omega)⟩, trivial⟩ (fun I237 hI237 FI237 q238 p238 => ?_)
  have t239 := p238 0 71 (fun q => absurd q.1 (by first | exact gz_ne rfl | decide))
  have t240 := p238 0 72 (fun q => absurd q.1 (by first | exact gz_ne rfl | decide))
  have t241 := p238 0 73 (fun q => absurd q.1 (by first | exact gz_ne rfl | decide))
  have t242 := p238 0 69 (fun q => absurd q.1 (by first | exact gz_ne rfl | decide))
  have t243 := p238 0 6 (fun q => absurd q.1 (by first | exact gz_ne rfl | decide))
  have t244 := p238 0 59 (fun q => absurd q.1 (by first | exact gz_ne rfl | decide))
  have t245 := p238 0 42 (fun q => absurd q.1 (by first | exact gz_ne rfl | decide))
  have t246 := p238 0 106 (fun q => absurd q.1 (by first | exact gz_ne rfl | decide))
  have t247 := p238 17 (Int.toNat ((I 0 6))) (fun q => absurd q.1 (by first | exact gz_ne rfl | decide))
  have t248 := p238 65 (Int.toNat (((24 * (I 0 6)) + (I124 17 (Int.toNat ((I 0 6))))))) (fun q => absurd q.1 (by first | exact gz_ne rfl | decide))
  have f249 := (gr_b_0_71 hI237)
  have f250 := (gr_b_0_72 hI237)
  have f251 := (gr_b_0_73 hI237)
  have f252 := (gr_b_0_69 hI237)
  have f253 := (gr_b_0_6 hI237)
  have f254 := (gr_b_0_59 hI237)
  have f255 := (gr_b_0_42 hI237)
  have f256 := (gr_b_0_106 hI237)
  have KLK_I237 := gr_LKs_fr KLK_I215 (fun k => p238 51 k (fun q => absurd q.1 (by first | exact gz_ne rfl | decide))) (p238 0 59 (fun q => absurd q.1 (by first | exact gz_ne rfl | decide)))
  have KPT_I237 := gr_PTs_fr KPT_I215 (fun k => p238 35 k (fun q => absurd q.1 (by first | exact gz_ne rfl | decide))) (p238 0 42 (fun q => absurd q.1 (by first | exact gz_ne rfl | decide)))
  have A257 := gr_ATp_sr A236 p238 rfl
  refine gv_run 2 true hD (pcₚ := 463) (lvₚ := [(6, .inl 0), (5, .inl ((24 * (I 0 6)) + (I124 17 (Int.toNat ((I 0 6)))))), (0, .inr (.inr (some 0))), (1, .inl (I 0 6)), (2, .inr (.inl v2_11)), (4, .inl v4_80)]) (stₚ := []) (hₚ := gr_h I237 J234) (C := ((True ∧ True) ∧ True)) rfl ⟨⟨trivial, trivial⟩, trivial⟩ ?_
  refine gv_pick [2, 5, 1, 0] rfl ?_
  exact L463 _ I237 J234 (((24 * (I 0 6)) + (I124 17 (Int.toNat ((I 0 6)))))) 0 p_126 (Nat.lt_succ_self _) hI237 FI237 FJ234 KLK_I237 KPT_I237 (by exact gz_m 58 (by omega)) A257 e4_126 (by rw [e6_126, show fo_ll (gs_en9 I237) _ = fo_ll (gs_en9 I124) _ from (gs_ens_kp e7_126 (gr_LKs_fr (gr_LKs_fr gr_LKs_rf (fun k => p216 51 k (fun q => absurd q.1 (by first | exact gz_ne rfl | decide))) (p216 0 59 (fun q => absurd q.1 (by first | exact gz_ne rfl | decide)))) (fun k => p238 51 k (fun q => absurd q.1 (by first | exact gz_ne rfl | decide))) (p238 0 59 (fun q => absurd q.1 (by first | exact gz_ne rfl | decide)))) (gr_PTs_fr (gr_PTs_fr gr_PTs_rf (fun k => p216 35 k (fun q => absurd q.1 (by first | exact gz_ne rfl | decide))) (p216 0 42 (fun q => absurd q.1 (by first | exact gz_ne rfl | decide)))) (fun k => p238 35 k (fun q => absurd q.1 (by first | exact gz_ne rfl | decide))) (p238 0 42 (fun q => absurd q.1 (by first | exact gz_ne rfl | decide)))) (fun j => ((p238 64 j (fun q => absurd q.1 (by first | exact gz_ne rfl | decide))).trans (p216 64 j (fun q => absurd q.1 (by first | exact gz_ne rfl | decide))))) (fun j => ((p238 65 j (fun q => absurd q.1 (by first | exact gz_ne rfl | decide))).trans (p216 65 j (fun q => absurd q.1 (by first | exact gz_ne rfl | decide))))) (fun j => ((p238 66 j (fun q => absurd q.1 (by first | exact gz_ne rfl | decide))).trans (p216 66 j (fun q => absurd q.1 (by first | exact gz_ne rfl | decide)))))).1]) (by have v9 : I124 17 (Int.toNat (I 0 6)) = I 17 (Int.toNat (I 0 6)) := (e8_126.1 _); exact gs_Upm_0 (fun j => ⟨(e8_126.1 j), (e8_126.2.2.2.2.2 j), (e8_126.2.1 j), (e8_126.2.2.1 j)⟩) (by exact gz_m 59 (by omega)) p216 (q216.trans (by exact gz_m 60 (by omega))) (by unfold gs_Pn; exact gz_m 61 (by omega)) p235 (q235.trans e5_126) (by unfold gs_Pn; exact gz_m 62 (by omega)) p238 q238 rfl) (by exact gz_m 63 (by omega)) (by exact gz_m 64 (by omega)) (gs_Uc9_0 (fun j => ⟨(((p238 33 j (fun q => absurd q.1 (by first | exact gz_ne rfl | decide))).trans (p216 33 j (fun q => absurd q.1 (by first | exact gz_ne rfl | decide)))).trans (e8_126.2.2.2.1 j)), (((p238 34 j (fun q => absurd q.1 (by first | exact gz_ne rfl | decide))).trans (p216 34 j (fun q => absurd q.1 (by first | exact gz_ne rfl | decide)))).trans (e8_126.2.2.2.2.1 j))⟩)) (gs_ens_kp e7_126 (gr_LKs_fr (gr_LKs_fr gr_LKs_rf (fun k => p216 51 k (fun q => absurd q.1 (by first | exact gz_ne rfl | decide))) (p216 0 59 (fun q => absurd q.1 (by first | exact gz_ne rfl | decide)))) (fun k => p238 51 k (fun q => absurd q.1 (by first | exact gz_ne rfl | decide))) (p238 0 59 (fun q => absurd q.1 (by first | exact gz_ne rfl | decide)))) (gr_PTs_fr (gr_PTs_fr gr_PTs_rf (fun k => p216 35 k (fun q => absurd q.1 (by first | exact gz_ne rfl | decide))) (p216 0 42 (fun q => absurd q.1 (by first | exact gz_ne rfl | decide)))) (fun k => p238 35 k (fun q => absurd q.1 (by first | exact gz_ne rfl | decide))) (p238 0 42 (fun q => absurd q.1 (by first | exact gz_ne rfl | decide)))) (fun j => ((p238 64 j (fun q => absurd q.1 (by first | exact gz_ne rfl | decide))).trans (p216 64 j (fun q => absurd q.1 (by first | exact gz_ne rfl | decide))))) (fun j => ((p238 65 j (fun q => absurd q.1 (by first | exact gz_ne rfl | decide))).trans (p216 65 j (fun q => absurd q.1 (by first | exact gz_ne rfl | decide))))) (fun j => ((p238 66 j (fun q => absurd q.1 (by first | exact gz_ne rfl | decide))).trans (p216 66 j (fun q => absurd q.1 (by first | exact gz_ne rfl | decide)))))).2 (by have v9 : I124 17 (Int.toNat (I 0 6)) = I 17 (Int.toNat (I 0 6)) := (e8_126.1 _); have v8 := (gr_b_17 hI (Int.toNat (I 0 6))); exact gz_m 65 (by omega))
set_option maxHeartbeats 32000000 in
set_option maxRecDepth 100000 in
theorem r_pattern_p_L218_L393 {ws0 : List Cond} {tb : String → gz_T} (hws : ∀ w ∈ gr_ws, w ∈ ws0) (htb : tb RX13 = gr_T) (ext : gz_Sh) (β : Int → Int) (N9 : Int) (p9 : Int) (I : gr_I) (J : gr_J) (hI : gr_Inv I) (x1 : I 0 72 ≤ I 0 69) (x4 : I 0 72 ≤ I 0 73) (x5 : 0 ≤ I 0 6) (x6 : I 0 59 + I 0 69 - I 0 72 ≤ 1900) (x7 : I 0 42 + I 0 69 - I 0 72 ≤ 1900) (x8 : gr_ATp β N9 p9 I J) (x9 : 0 ≤ p9) (x10 : gr_KW J) (x11 : gs_PDa I) (v2_11 : Int64) (v4_80 : Int) : ∀ (I112 : gr_I) (J113 : gr_J) (p_114 : Int), gr_Inv I112 → gr_fr [42, 59, 71, 72, 73, 74, 75, 76, 77, 106] [17, 23, 31, 32, 33, 34, 35, 51, 64, 65, 66] I I112 → gr_fj [42, 59, 71, 72, 73, 74, 75, 76, 77, 106] [17, 23, 31, 32, 33, 34, 35, 51, 64, 65, 66] J J113 → gr_LKs I I112 → gr_PTs I I112 → ((0 ≤ (I 0 6) ∧ (I 0 6) ≤ 7) ∧ (0 ≤ v4_80 ∧ v4_80 ≤ 358) ∧ (0 ≤ p_114) ∧ (I112 0 72 ≤ I112 0 69) ∧ (I112 0 72 ≤ I112 0 73) ∧ (I112 0 69 = I 0 69) ∧ (I 0 73 ≤ I112 0 73) ∧ (I 0 72 ≤ I112 0 72) ∧ (I112 0 6 = I 0 6) ∧ (I112 0 59 - I112 0 72 ≤ I 0 59 - I 0 72) ∧ (I112 0 42 - I112 0 72 ≤ I 0 42 - I 0 72)) → (gr_ATp β N9 p_114 I112 J113) → ((gs_pat β N9 I J (I 0 78) p9) = gs_done β N9 (if v4_80 ≤ 24 ∧ I 17 (Int.toNat (I 0 6)) < 24 then 1 else 0) (I 0 78) p_114) → (v2_11 = (gs_rn β N9 p9)) → ((gs_qtw β N9 I J p9).2 = (fo_ll (gs_en9 I112) v4_80)) → (gs_eok I112 v4_80) → ((∀ k, I112 17 k = I 17 k) ∧ (∀ k, I112 31 k = I 31 k) ∧ (∀ k, I112 32 k = I 32 k) ∧ (∀ k, I112 33 k = I 33 k) ∧ (∀ k, I112 34 k = I 34 k) ∧ (∀ k, J113 23 k = J 23 k)) → gv_X (gr_E ws0 tb 11 (yX13_pattern, cX13_pattern, 8, (some .boolean)) kX13_pattern) (gv_Q cX13_pattern (some .boolean) (gr_sh ++ ext) (fun r hₚ => (∃ (Iₚ : gr_I) (Jₚ : gr_J), hₚ = gr_h Iₚ Jₚ ∧ gr_Inv Iₚ ∧ gr_fr [42, 59, 71, 72, 73, 74, 75, 76, 77, 106] [17, 23, 31, 32, 33, 34, 35, 51, 64, 65, 66] I Iₚ ∧ gr_fj [42, 59, 71, 72, 73, 74, 75, 76, 77, 106] [17, 23, 31, 32, 33, 34, 35, 51, 64, 65, 66] J Jₚ ∧ (∃ z : Int, r = some (.inl z) ∧ 0 ≤ z ∧ z ≤ 1 ∧ (Iₚ 0 71 = 5 ∨ Iₚ 0 73 ≤ Iₚ 0 69) ∧ (Iₚ 0 72 ≤ Iₚ 0 69) ∧ (Iₚ 0 71 = 0 ∨ (Iₚ 0 72 < Iₚ 0 73 ∧ Iₚ 0 72 < Iₚ 0 69)) ∧ (Iₚ 0 71 = 3 → 2 ≤ Iₚ 0 73 - Iₚ 0 72 ∧ Iₚ 0 73 - Iₚ 0 72 ≤ 14) ∧ (Iₚ 0 72 ≤ Iₚ 0 73) ∧ (Iₚ 0 69 = I 0 69) ∧ (I 0 73 ≤ Iₚ 0 73) ∧ (I 0 72 ≤ Iₚ 0 72) ∧ (Iₚ 0 59 - Iₚ 0 72 ≤ I 0 59 - I 0 72) ∧ (Iₚ 0 42 - Iₚ 0 72 ≤ I 0 42 - I 0 72) ∧ (gr_LKs I Iₚ) ∧ (gr_PTs I Iₚ) ∧ (gs_Or z (0 ≤ (gs_pat β N9 I J (I 0 78) p9) ∧ gr_ATp β N9 (gs_pat β N9 I J (I 0 78) p9) Iₚ Jₚ ∧ gs_Upat (gs_rn β N9 p9) (gs_ptw β N9 I J p9).2 I J Iₚ Jₚ ∧ gs_Uct β N9 I J p9 Iₚ) ((gs_pat β N9 I J (I 0 78) p9) < 0 ∧ Iₚ 0 77 = -1 - (gs_pat β N9 I J (I 0 78) p9) ∧ gs_Spt I J Iₚ Jₚ ∧ ∀ j, Iₚ 33 j = I 33 j ∧ Iₚ 34 j = I 34 j)))))) (393, [(0, .inr (.inr (some 0))), (1, .inl (I 0 6)), (2, .inr (.inl v2_11)), (4, .inl v4_80)], [], gr_sh ++ ext, gr_h I112 J113) := by
  have FI : gr_fr [42, 59, 71, 72, 73, 74, 75, 76, 77, 106] [17, 23, 31, 32, 33, 34, 35, 51, 64, 65, 66] I I := fun _ _ _ => rfl
  have FJ : gr_fj [42, 59, 71, 72, 73, 74, 75, 76, 77, 106] [17, 23, 31, 32, 33, 34, 35, 51, 64, 65, 66] J J := fun _ _ _ => rfl
  have hD : gv_D (gr_E ws0 tb 11 (yX13_pattern, cX13_pattern, 8, (some .boolean)) kX13_pattern) := gq_of oX13_pattern
  have tAT := gr_ATp_l x8
  skip
  have KW := x10
  have f1 := (gr_b_0_71 hI)
  have f2 := (gr_b_0_72 hI)
  have f3 := (gr_b_0_73 hI)
  have f4 := (gr_b_0_69 hI)
  have f5 := (gr_b_0_6 hI)
  have f6 := (gr_b_0_59 hI)
  have f7 := (gr_b_0_42 hI)
  have f8 := (gr_b_0_106 hI)
  have KLK_I : gr_LKs I I := gr_LKs_rf
  have KPT_I : gr_PTs I I := gr_PTs_rf
  intro I112 J113 p_114 hI112 FI112 FJ113 KLK_I112 KPT_I112 m_114 e1_114 e2_114 e3_114 e4_114 e5_114 e6_114
  obtain ⟨h_I_0_6__114, hv4_80_114, e0_114, e7_114, e8_114, e9_114, e10_114, e11_114, e12_114, e13_114, e14_114⟩ := m_114
  have f115 := (gr_b_0_71 hI112)
  have f116 := (gr_b_0_72 hI112)
  have f117 := (gr_b_0_73 hI112)
  have f118 := (gr_b_0_69 hI112)
  have f119 := (gr_b_0_6 hI112)
  have f120 := (gr_b_0_59 hI112)
  have f121 := (gr_b_0_42 hI112)
  have f122 := (gr_b_0_106 hI112)
  have t123 := gr_ATp_l e1_114
  have L425 : ∀ (I124 : gr_I) (J125 : gr_J) (p_126 : Int), gr_Inv I124 → gr_fr [42, 59, 71, 72, 73, 74, 75, 76, 77, 106] [17, 23, 31, 32, 33, 34, 35, 51, 64, 65, 66] I I124 → gr_fj [42, 59, 71, 72, 73, 74, 75, 76, 77, 106] [17, 23, 31, 32, 33, 34, 35, 51, 64, 65, 66] J J125 → gr_LKs I I124 → gr_PTs I I124 → ((0 ≤ (I 0 6) ∧ (I 0 6) ≤ 7) ∧ (0 ≤ v4_80 ∧ v4_80 ≤ 24) ∧ (v4_80 ≤ 24) ∧ (I124 17 (Int.toNat (I 0 6)) ≤ 23) ∧ (0 ≤ p_126) ∧ (I124 0 72 ≤ I124 0 69) ∧ (I124 0 72 ≤ I124 0 73) ∧ (I124 0 69 = I 0 69) ∧ (I 0 73 ≤ I124 0 73) ∧ (I 0 72 ≤ I124 0 72) ∧ (I124 0 6 = I 0 6) ∧ (I124 0 59 - I124 0 72 ≤ I 0 59 - I 0 72) ∧ (I124 0 42 - I124 0 72 ≤ I 0 42 - I 0 72)) → (gr_ATp β N9 p_126 I124 J125) → ((gs_pat β N9 I J (I 0 78) p9) = p_126) → (v2_11 = (gs_rn β N9 p9)) → ((gs_qtw β N9 I J p9).2 = (fo_ll (gs_en9 I124) v4_80)) → (gs_eok I124 v4_80) → ((∀ k, I124 17 k = I 17 k) ∧ (∀ k, I124 31 k = I 31 k) ∧ (∀ k, I124 32 k = I 32 k) ∧ (∀ k, I124 33 k = I 33 k) ∧ (∀ k, I124 34 k = I 34 k) ∧ (∀ k, J125 23 k = J 23 k)) → gv_X (gr_E ws0 tb 11 (yX13_pattern, cX13_pattern, 8, (some .boolean)) kX13_pattern) (gv_Q cX13_pattern (some .boolean) (gr_sh ++ ext) (fun r hₚ => (∃ (Iₚ : gr_I) (Jₚ : gr_J), hₚ = gr_h Iₚ Jₚ ∧ gr_Inv Iₚ ∧ gr_fr [42, 59, 71, 72, 73, 74, 75, 76, 77, 106] [17, 23, 31, 32, 33, 34, 35, 51, 64, 65, 66] I Iₚ ∧ gr_fj [42, 59, 71, 72, 73, 74, 75, 76, 77, 106] [17, 23, 31, 32, 33, 34, 35, 51, 64, 65, 66] J Jₚ ∧ (∃ z : Int, r = some (.inl z) ∧ 0 ≤ z ∧ z ≤ 1 ∧ (Iₚ 0 71 = 5 ∨ Iₚ 0 73 ≤ Iₚ 0 69) ∧ (Iₚ 0 72 ≤ Iₚ 0 69) ∧ (Iₚ 0 71 = 0 ∨ (Iₚ 0 72 < Iₚ 0 73 ∧ Iₚ 0 72 < Iₚ 0 69)) ∧ (Iₚ 0 71 = 3 → 2 ≤ Iₚ 0 73 - Iₚ 0 72 ∧ Iₚ 0 73 - Iₚ 0 72 ≤ 14) ∧ (Iₚ 0 72 ≤ Iₚ 0 73) ∧ (Iₚ 0 69 = I 0 69) ∧ (I 0 73 ≤ Iₚ 0 73) ∧ (I 0 72 ≤ Iₚ 0 72) ∧ (Iₚ 0 59 - Iₚ 0 72 ≤ I 0 59 - I 0 72) ∧ (Iₚ 0 42 - Iₚ 0 72 ≤ I 0 42 - I 0 72) ∧ (gr_LKs I Iₚ) ∧ (gr_PTs I Iₚ) ∧ (gs_Or z (0 ≤ (gs_pat β N9 I J (I 0 78) p9) ∧ gr_ATp β N9 (gs_pat β N9 I J (I 0 78) p9) Iₚ Jₚ ∧ gs_Upat (gs_rn β N9 p9) (gs_ptw β N9 I J p9).2 I J Iₚ Jₚ ∧ gs_Uct β N9 I J p9 Iₚ) ((gs_pat β N9 I J (I 0 78) p9) < 0 ∧ Iₚ 0 77 = -1 - (gs_pat β N9 I J (I 0 78) p9) ∧ gs_Spt I J Iₚ Jₚ ∧ ∀ j, Iₚ 33 j = I 33 j ∧ Iₚ 34 j = I 34 j)))))) (425, [(0, .inr (.inr (some 0))), (1, .inl (I 0 6)), (2, .inr (.inl v2_11)), (4, .inl v4_80)], [], gr_sh ++ ext, gr_h I124 J125) := r_pattern_p_L218_L393_L425 (ws0 := ws0) (tb := tb) hws htb ext β N9 p9 I J hI x1 x4 x5 x6 x7 x8 x9 x10 x11 v2_11 v4_80
  refine gv_run 3 true hD (pcₚ := 398) (lvₚ := [(0, .inr (.inr (some 0))), (1, .inl (I 0 6)), (2, .inr (.inl v2_11)), (4, .inl v4_80)]) (stₚ := [.inl 24, .inl v4_80, .inr (.inr (some 0))]) (hₚ := gr_h I112 J113) (C := (((True ∧ True) ∧ True) ∧ True)) rfl ⟨⟨⟨trivial, trivial⟩, trivial⟩, trivial⟩ ?_
  refine gv_icmp_gt (t := 416) hD rfl rfl ⟨⟨by exact gz_m 66 (by omega), by exact gz_m 67 (by omega)⟩, ⟨by exact gz_m 68 (by omega), by exact gz_m 69 (by omega)⟩⟩ (fun c258 => ?_) (fun c258 => ?_)
  · refine gv_run 1 true hD (pcₚ := 417) (lvₚ := [(0, .inr (.inr (some 0))), (1, .inl (I 0 6)), (2, .inr (.inl v2_11)), (4, .inl v4_80)]) (stₚ := [.inl 0, .inr (.inr (some 0))]) (hₚ := gr_h I112 J113) (C := (True ∧ True)) rfl ⟨trivial, trivial⟩ ?_
    obtain ⟨r259, h259, E259, P259⟩ := r_done_p (ws0 := ws0) (tb := tb) hws htb ext β N9 p_114 I112 J113 hI112 0 ⟨by exact gz_m 70 (by omega), by exact gz_m 71 (by omega)⟩ (gr_ATp_rr e1_114).1 (gr_ATp_rr e1_114).2.1 (gr_ATp_rr e1_114).2.2.1 (gr_ATp_rr e1_114).2.2.2.1 (gr_ATp_rr e1_114).2.2.2.2 e1_114 (by exact gz_m 72 (by omega))
    obtain ⟨I260, J261, rfl, hI260, g259, k259, ⟨z259, rfl, q259⟩⟩ := P259
    have FI260 := gr_frt FI112 g259 rfl rfl
    have FJ261 := gr_fjt FJ113 k259 rfl rfl
    have t262 := g259 0 69 rfl
    have t263 := g259 0 6 rfl
    have t264 := g259 0 59 rfl
    have t265 := g259 0 42 rfl
    have t266 := g259 0 106 rfl
    have t267 := g259 17 (Int.toNat ((I 0 6))) rfl
    have f268 := (gr_b_0_71 hI260)
    have f269 := (gr_b_0_72 hI260)
    have f270 := (gr_b_0_73 hI260)
    have f271 := (gr_b_0_69 hI260)
    have f272 := (gr_b_0_6 hI260)
    have f273 := (gr_b_0_59 hI260)
    have f274 := (gr_b_0_42 hI260)
    have f275 := (gr_b_0_106 hI260)
    have KLK_I260 := gr_LKs_fr KLK_I112 (fun k => g259 51 k rfl) (g259 0 59 rfl)
    have KPT_I260 := gr_PTs_fr KPT_I112 (fun k => g259 35 k rfl) (g259 0 42 rfl)
    refine gv_callV hD rfl (As := [.inl 0]) (st := []) rfl (by decide) rfl rfl (gr_lV hws rfl) (Nat.le_of_ble_eq_true rfl) (gz_Ev_mono (d := 11) (by decide) E259) ?_
    show gv_X _ _ (420, [(0, .inr (.inr (some 0))), (1, .inl (I 0 6)), (2, .inr (.inl v2_11)), (4, .inl v4_80)], [.inl z259], gr_sh ++ ext, gr_h I260 J261)
    refine gv_if_ne (t := 425) hD rfl rfl ⟨by exact gz_m 73 (by omega), by exact gz_m 74 (by omega)⟩ (fun c276 => ?_) (fun c276 => ?_)
    · have Q277 := q259.2.2.2.2.2.2.2.2.2.2.2.2
      rw [FI112 0 78 rfl] at Q277
      obtain ⟨u277, A277⟩ := gs_or1 Q277 (by exact gz_m 75 (by omega))
      have t278 := gr_ATp_l A277
      have t279 := (q259.2.2.2.2.2.2.2.2.2.2.1).resolve_left (by exact gz_m 76 (by omega))
      have t280 := (q259.2.2.2.2.2.2.2.2.2.2.2.1).resolve_left (by exact gz_m 77 (by omega))
      obtain ⟨_, _, -, _, -, -, _, _, _, _, -, -, -⟩ := q259
      have t281 := (gr_ATp_rr e1_114).2.2.1.resolve_left (by exact gz_m 78 (by omega))
      exact L425 I260 J261 ((gs_done β N9 0 (I 0 78) p_114)) hI260 FI260 FJ261 KLK_I260 KPT_I260 (by exact gz_m 79 (by omega)) A277 (by first | (exfalso; exact gz_m 80 (by omega)) | (rw [e2_114]; (repeat first | rw [if_pos (by exact gz_m 81 (by omega))] | rw [if_neg (by exact gz_m 82 (by omega))]))) e3_114 (by rw [e4_114, show fo_ll (gs_en9 I260) _ = fo_ll (gs_en9 I112) _ from (gs_ens_kp e5_114 (gr_LKs_fr gr_LKs_rf (fun k => g259 51 k rfl) (g259 0 59 rfl)) (gr_PTs_fr gr_PTs_rf (fun k => g259 35 k rfl) (g259 0 42 rfl)) (fun j => (g259 64 j rfl)) (fun j => (g259 65 j rfl)) (fun j => (g259 66 j rfl))).1]) (gs_ens_kp e5_114 (gr_LKs_fr gr_LKs_rf (fun k => g259 51 k rfl) (g259 0 59 rfl)) (gr_PTs_fr gr_PTs_rf (fun k => g259 35 k rfl) (g259 0 42 rfl)) (fun j => (g259 64 j rfl)) (fun j => (g259 65 j rfl)) (fun j => (g259 66 j rfl))).2 ⟨(fun k => ((g259 17 k rfl).trans (e6_114.1 k))), (fun k => ((g259 31 k rfl).trans (e6_114.2.1 k))), (fun k => ((g259 32 k rfl).trans (e6_114.2.2.1 k))), (fun k => ((g259 33 k rfl).trans (e6_114.2.2.2.1 k))), (fun k => ((g259 34 k rfl).trans (e6_114.2.2.2.2.1 k))), (fun k => ((k259 23 k rfl).trans (e6_114.2.2.2.2.2 k)))⟩
    · have Q282 := q259.2.2.2.2.2.2.2.2.2.2.2.2
      rw [FI112 0 78 rfl] at Q282
      obtain ⟨u282, u282_⟩ := gs_or0 Q282 (by exact gz_m 83 (by omega))
      refine gv_run 1 true hD (pcₚ := 424) (lvₚ := [(0, .inr (.inr (some 0))), (1, .inl (I 0 6)), (2, .inr (.inl v2_11)), (4, .inl v4_80)]) (stₚ := [.inl 0]) (hₚ := gr_h I260 J261) (C := (True ∧ True)) rfl ⟨trivial, trivial⟩ ?_
      have b283 : (I260 0 71 = 5 ∨ I260 0 73 ≤ I260 0 69) ∧ (I260 0 72 ≤ I260 0 69) ∧ (I260 0 71 = 0 ∨ (I260 0 72 < I260 0 73 ∧ I260 0 72 < I260 0 69)) ∧ (I260 0 71 = 3 → 2 ≤ I260 0 73 - I260 0 72 ∧ I260 0 73 - I260 0 72 ≤ 14) ∧ (I260 0 72 ≤ I260 0 73) ∧ (I260 0 69 = I 0 69) ∧ (I 0 73 ≤ I260 0 73) ∧ (I 0 72 ≤ I260 0 72) ∧ (I260 0 59 - I260 0 72 ≤ I 0 59 - I 0 72) ∧ (I260 0 42 - I260 0 72 ≤ I 0 42 - I 0 72) := by exact gz_m 84 (by omega)
      exact gv_zret hD rfl (by exact gz_m 85 (by omega)) ⟨I260, J261, rfl, hI260, FI260, FJ261, ⟨_, rfl, by exact gz_m 86 (by omega), by exact gz_m 87 (by omega), b283.1, b283.2.1, b283.2.2.1, b283.2.2.2.1, b283.2.2.2.2.1, b283.2.2.2.2.2.1, b283.2.2.2.2.2.2.1, b283.2.2.2.2.2.2.2.1, b283.2.2.2.2.2.2.2.2.1, b283.2.2.2.2.2.2.2.2.2, KLK_I260, KPT_I260, (Or.inr ⟨by exact gz_m 88 (by omega), by first | (exfalso; exact gz_m 89 (by omega)) | (rw [e2_114]; (repeat first | rw [if_pos (by exact gz_m 90 (by omega))] | rw [if_neg (by exact gz_m 91 (by omega))]); exact ⟨by exact gz_m 92 (by omega), by exact gz_m 93 (by omega), (fun j => ⟨((g259 17 j rfl).trans (e6_114.1 j)), ((k259 23 j rfl).trans (e6_114.2.2.2.2.2 j)), ((g259 31 j rfl).trans (e6_114.2.1 j)), ((g259 32 j rfl).trans (e6_114.2.2.1 j))⟩), fun j => ⟨((g259 33 j rfl).trans (e6_114.2.2.2.1 j)), ((g259 34 j rfl).trans (e6_114.2.2.2.2.1 j))⟩⟩)⟩)⟩⟩
  · have f284 := (gr_b_17 hI112 (Int.toNat ((I 0 6))))
    refine gv_run 4 true hD (pcₚ := 407) (lvₚ := [(0, .inr (.inr (some 0))), (1, .inl (I 0 6)), (2, .inr (.inl v2_11)), (4, .inl v4_80)]) (stₚ := [.inl (I112 17 (Int.toNat ((I 0 6)))), .inr (.inr (some 0))]) (hₚ := gr_h I112 J113) (C := ((((True ∧ True) ∧ True) ∧ True) ∧ (0 ≤ (I 0 6) ∧ (I 0 6) < ((8 : Nat) : Int)))) rfl ⟨⟨⟨⟨trivial, trivial⟩, trivial⟩, trivial⟩, ⟨by exact gz_m 94 (by omega), by exact gz_m 95 (by omega)⟩⟩ ?_
    refine gv_run 1 true hD (pcₚ := 409) (lvₚ := [(0, .inr (.inr (some 0))), (1, .inl (I 0 6)), (2, .inr (.inl v2_11)), (4, .inl v4_80)]) (stₚ := [.inl 24, .inl (I112 17 (Int.toNat ((I 0 6)))), .inr (.inr (some 0))]) (hₚ := gr_h I112 J113) (C := (True ∧ True)) rfl ⟨trivial, trivial⟩ ?_
    have t285 := (show I112 17 (Int.toNat (I 0 6)) = I 17 (Int.toNat (I 0 6)) from (e6_114.1 _))
    refine gv_icmp_ge (t := 416) hD rfl rfl ⟨⟨by exact gz_m 96 (by omega), by exact gz_m 97 (by omega)⟩, ⟨by exact gz_m 98 (by omega), by exact gz_m 99 (by omega)⟩⟩ (fun c286 => ?_) (fun c286 => ?_)
    · refine gv_run 1 true hD (pcₚ := 417) (lvₚ := [(0, .inr (.inr (some 0))), (1, .inl (I 0 6)), (2, .inr (.inl v2_11)), (4, .inl v4_80)]) (stₚ := [.inl 0, .inr (.inr (some 0))]) (hₚ := gr_h I112 J113) (C := (True ∧ True)) rfl ⟨trivial, trivial⟩ ?_
      obtain ⟨r287, h287, E287, P287⟩ := r_done_p (ws0 := ws0) (tb := tb) hws htb ext β N9 p_114 I112 J113 hI112 0 ⟨by exact gz_m 100 (by omega), by exact gz_m 101 (by omega)⟩ (gr_ATp_rr e1_114).1 (gr_ATp_rr e1_114).2.1 (gr_ATp_rr e1_114).2.2.1 (gr_ATp_rr e1_114).2.2.2.1 (gr_ATp_rr e1_114).2.2.2.2 e1_114 (by exact gz_m 102 (by omega))
      obtain ⟨I288, J289, rfl, hI288, g287, k287, ⟨z287, rfl, q287⟩⟩ := P287
      have FI288 := gr_frt FI112 g287 rfl rfl
      have FJ289 := gr_fjt FJ113 k287 rfl rfl
      have t290 := g287 0 69 rfl
      have t291 := g287 0 6 rfl
      have t292 := g287 0 59 rfl
      have t293 := g287 0 42 rfl
      have t294 := g287 0 106 rfl
      have t295 := g287 17 (Int.toNat ((I 0 6))) rfl
      have f296 := (gr_b_0_71 hI288)
      have f297 := (gr_b_0_72 hI288)
      have f298 := (gr_b_0_73 hI288)
      have f299 := (gr_b_0_69 hI288)
      have f300 := (gr_b_0_6 hI288)
      have f301 := (gr_b_0_59 hI288)
      have f302 := (gr_b_0_42 hI288)
      have f303 := (gr_b_0_106 hI288)
      have KLK_I288 := gr_LKs_fr KLK_I112 (fun k => g287 51 k rfl) (g287 0 59 rfl)
      have KPT_I288 := gr_PTs_fr KPT_I112 (fun k => g287 35 k rfl) (g287 0 42 rfl)
      refine gv_callV hD rfl (As := [.inl 0]) (st := []) rfl (by decide) rfl rfl (gr_lV hws rfl) (Nat.le_of_ble_eq_true rfl) (gz_Ev_mono (d := 11) (by decide) E287) ?_
      show gv_X _ _ (420, [(0, .inr (.inr (some 0))), (1, .inl (I 0 6)), (2, .inr (.inl v2_11)), (4, .inl v4_80)], [.inl z287], gr_sh ++ ext, gr_h I288 J289)
      refine gv_if_ne (t := 425) hD rfl rfl ⟨by exact gz_m 103 (by omega), by exact gz_m 104 (by omega)⟩ (fun c304 => ?_) (fun c304 => ?_)
      · have Q305 := q287.2.2.2.2.2.2.2.2.2.2.2.2
        rw [FI112 0 78 rfl] at Q305
        obtain ⟨u305, A305⟩ := gs_or1 Q305 (by exact gz_m 105 (by omega))
        have t306 := gr_ATp_l A305
        have t307 := (q287.2.2.2.2.2.2.2.2.2.2.1).resolve_left (by exact gz_m 106 (by omega))
        have t308 := (q287.2.2.2.2.2.2.2.2.2.2.2.1).resolve_left (by exact gz_m 107 (by omega))
        obtain ⟨_, _, -, _, -, -, _, _, _, _, -, -, -⟩ := q287
        have t309 := (gr_ATp_rr e1_114).2.2.1.resolve_left (by exact gz_m 108 (by omega))
        exact L425 I288 J289 ((gs_done β N9 0 (I 0 78) p_114)) hI288 FI288 FJ289 KLK_I288 KPT_I288 (by exact gz_m 109 (by omega)) A305 (by first | (exfalso; exact gz_m 110 (by omega)) | (rw [e2_114]; (repeat first | rw [if_pos (by exact gz_m 111 (by omega))] | rw [if_neg (by exact gz_m 112 (by omega))]))) e3_114 (by rw [e4_114, show fo_ll (gs_en9 I288) _ = fo_ll (gs_en9 I112) _ from (gs_ens_kp e5_114 (gr_LKs_fr gr_LKs_rf (fun k => g287 51 k rfl) (g287 0 59 rfl)) (gr_PTs_fr gr_PTs_rf (fun k => g287 35 k rfl) (g287 0 42 rfl)) (fun j => (g287 64 j rfl)) (fun j => (g287 65 j rfl)) (fun j => (g287 66 j rfl))).1]) (gs_ens_kp e5_114 (gr_LKs_fr gr_LKs_rf (fun k => g287 51 k rfl) (g287 0 59 rfl)) (gr_PTs_fr gr_PTs_rf (fun k => g287 35 k rfl) (g287 0 42 rfl)) (fun j => (g287 64 j rfl)) (fun j => (g287 65 j rfl)) (fun j => (g287 66 j rfl))).2 ⟨(fun k => ((g287 17 k rfl).trans (e6_114.1 k))), (fun k => ((g287 31 k rfl).trans (e6_114.2.1 k))), (fun k => ((g287 32 k rfl).trans (e6_114.2.2.1 k))), (fun k => ((g287 33 k rfl).trans (e6_114.2.2.2.1 k))), (fun k => ((g287 34 k rfl).trans (e6_114.2.2.2.2.1 k))), (fun k => ((k287 23 k rfl).trans (e6_114.2.2.2.2.2 k)))⟩
      · have Q310 := q287.2.2.2.2.2.2.2.2.2.2.2.2
        rw [FI112 0 78 rfl] at Q310
        obtain ⟨u310, u310_⟩ := gs_or0 Q310 (by exact gz_m 113 (by omega))
        refine gv_run 1 true hD (pcₚ := 424) (lvₚ := [(0, .inr (.inr (some 0))), (1, .inl (I 0 6)), (2, .inr (.inl v2_11)), (4, .inl v4_80)]) (stₚ := [.inl 0]) (hₚ := gr_h I288 J289) (C := (True ∧ True)) rfl ⟨trivial, trivial⟩ ?_
        have b311 : (I288 0 71 = 5 ∨ I288 0 73 ≤ I288 0 69) ∧ (I288 0 72 ≤ I288 0 69) ∧ (I288 0 71 = 0 ∨ (I288 0 72 < I288 0 73 ∧ I288 0 72 < I288 0 69)) ∧ (I288 0 71 = 3 → 2 ≤ I288 0 73 - I288 0 72 ∧ I288 0 73 - I288 0 72 ≤ 14) ∧ (I288 0 72 ≤ I288 0 73) ∧ (I288 0 69 = I 0 69) ∧ (I 0 73 ≤ I288 0 73) ∧ (I 0 72 ≤ I288 0 72) ∧ (I288 0 59 - I288 0 72 ≤ I 0 59 - I 0 72) ∧ (I288 0 42 - I288 0 72 ≤ I 0 42 - I 0 72) := by exact gz_m 114 (by omega)
        exact gv_zret hD rfl (by exact gz_m 115 (by omega)) ⟨I288, J289, rfl, hI288, FI288, FJ289, ⟨_, rfl, by exact gz_m 116 (by omega), by exact gz_m 117 (by omega), b311.1, b311.2.1, b311.2.2.1, b311.2.2.2.1, b311.2.2.2.2.1, b311.2.2.2.2.2.1, b311.2.2.2.2.2.2.1, b311.2.2.2.2.2.2.2.1, b311.2.2.2.2.2.2.2.2.1, b311.2.2.2.2.2.2.2.2.2, KLK_I288, KPT_I288, (Or.inr ⟨by exact gz_m 118 (by omega), by first | (exfalso; exact gz_m 119 (by omega)) | (rw [e2_114]; (repeat first | rw [if_pos (by exact gz_m 120 (by omega))] | rw [if_neg (by exact gz_m 121 (by omega))]); exact ⟨by exact gz_m 122 (by omega), by exact gz_m 123 (by omega), (fun j => ⟨((g287 17 j rfl).trans (e6_114.1 j)), ((k287 23 j rfl).trans (e6_114.2.2.2.2.2 j)), ((g287 31 j rfl).trans (e6_114.2.1 j)), ((g287 32 j rfl).trans (e6_114.2.2.1 j))⟩), fun j => ⟨((g287 33 j rfl).trans (e6_114.2.2.2.1 j)), ((g287 34 j rfl).trans (e6_114.2.2.2.2.1 j))⟩⟩)⟩)⟩⟩
    · refine gv_run 2 true hD (pcₚ := 417) (lvₚ := [(0, .inr (.inr (some 0))), (1, .inl (I 0 6)), (2, .inr (.inl v2_11)), (4, .inl v4_80)]) (stₚ := [.inl 1, .inr (.inr (some 0))]) (hₚ := gr_h I112 J113) (C := ((True ∧ True) ∧ True)) rfl ⟨⟨trivial, trivial⟩, trivial⟩ ?_
      obtain ⟨r312, h312, E312, P312⟩ := r_done_p (ws0 := ws0) (tb := tb) hws htb ext β N9 p_114 I112 J113 hI112 1 ⟨by exact gz_m 124 (by omega), by exact gz_m 125 (by omega)⟩ (gr_ATp_rr e1_114).1 (gr_ATp_rr e1_114).2.1 (gr_ATp_rr e1_114).2.2.1 (gr_ATp_rr e1_114).2.2.2.1 (gr_ATp_rr e1_114).2.2.2.2 e1_114 (by exact gz_m 126 (by omega))
      obtain ⟨I313, J314, rfl, hI313, g312, k312, ⟨z312, rfl, q312⟩⟩ := P312
      have FI313 := gr_frt FI112 g312 rfl rfl
      have FJ314 := gr_fjt FJ113 k312 rfl rfl
      have t315 := g312 0 69 rfl
      have t316 := g312 0 6 rfl
      have t317 := g312 0 59 rfl
      have t318 := g312 0 42 rfl
      have t319 := g312 0 106 rfl
      have t320 := g312 17 (Int.toNat ((I 0 6))) rfl
      have f321 := (gr_b_0_71 hI313)
      have f322 := (gr_b_0_72 hI313)
      have f323 := (gr_b_0_73 hI313)
      have f324 := (gr_b_0_69 hI313)
      have f325 := (gr_b_0_6 hI313)
      have f326 := (gr_b_0_59 hI313)
      have f327 := (gr_b_0_42 hI313)
      have f328 := (gr_b_0_106 hI313)
      have KLK_I313 := gr_LKs_fr KLK_I112 (fun k => g312 51 k rfl) (g312 0 59 rfl)
      have KPT_I313 := gr_PTs_fr KPT_I112 (fun k => g312 35 k rfl) (g312 0 42 rfl)
      refine gv_callV hD rfl (As := [.inl 1]) (st := []) rfl (by decide) rfl rfl (gr_lV hws rfl) (Nat.le_of_ble_eq_true rfl) (gz_Ev_mono (d := 11) (by decide) E312) ?_
      show gv_X _ _ (420, [(0, .inr (.inr (some 0))), (1, .inl (I 0 6)), (2, .inr (.inl v2_11)), (4, .inl v4_80)], [.inl z312], gr_sh ++ ext, gr_h I313 J314)
      refine gv_if_ne (t := 425) hD rfl rfl ⟨by exact gz_m 127 (by omega), by exact gz_m 128 (by omega)⟩ (fun c329 => ?_) (fun c329 => ?_)
      · have Q330 := q312.2.2.2.2.2.2.2.2.2.2.2.2
        rw [FI112 0 78 rfl] at Q330
        obtain ⟨u330, A330⟩ := gs_or1 Q330 (by exact gz_m 129 (by omega))
        have t331 := gr_ATp_l A330
        have t332 := (q312.2.2.2.2.2.2.2.2.2.2.1).resolve_left (by exact gz_m 130 (by omega))
        have t333 := (q312.2.2.2.2.2.2.2.2.2.2.2.1).resolve_left (by exact gz_m 131 (by omega))
        obtain ⟨_, _, -, _, -, -, _, _, _, _, -, -, -⟩ := q312
        have t334 := (gr_ATp_rr e1_114).2.2.1.resolve_left (by exact gz_m 132 (by omega))
        exact L425 I313 J314 ((gs_done β N9 1 (I 0 78) p_114)) hI313 FI313 FJ314 KLK_I313 KPT_I313 (by exact gz_m 133 (by omega)) A330 (by first | (exfalso; exact gz_m 134 (by omega)) | (rw [e2_114]; (repeat first | rw [if_pos (by exact gz_m 135 (by omega))] | rw [if_neg (by exact gz_m 136 (by omega))]))) e3_114 (by rw [e4_114, show fo_ll (gs_en9 I313) _ = fo_ll (gs_en9 I112) _ from (gs_ens_kp e5_114 (gr_LKs_fr gr_LKs_rf (fun k => g312 51 k rfl) (g312 0 59 rfl)) (gr_PTs_fr gr_PTs_rf (fun k => g312 35 k rfl) (g312 0 42 rfl)) (fun j => (g312 64 j rfl)) (fun j => (g312 65 j rfl)) (fun j => (g312 66 j rfl))).1]) (gs_ens_kp e5_114 (gr_LKs_fr gr_LKs_rf (fun k => g312 51 k rfl) (g312 0 59 rfl)) (gr_PTs_fr gr_PTs_rf (fun k => g312 35 k rfl) (g312 0 42 rfl)) (fun j => (g312 64 j rfl)) (fun j => (g312 65 j rfl)) (fun j => (g312 66 j rfl))).2 ⟨(fun k => ((g312 17 k rfl).trans (e6_114.1 k))), (fun k => ((g312 31 k rfl).trans (e6_114.2.1 k))), (fun k => ((g312 32 k rfl).trans (e6_114.2.2.1 k))), (fun k => ((g312 33 k rfl).trans (e6_114.2.2.2.1 k))), (fun k => ((g312 34 k rfl).trans (e6_114.2.2.2.2.1 k))), (fun k => ((k312 23 k rfl).trans (e6_114.2.2.2.2.2 k)))⟩
      · have Q335 := q312.2.2.2.2.2.2.2.2.2.2.2.2
        rw [FI112 0 78 rfl] at Q335
        obtain ⟨u335, u335_⟩ := gs_or0 Q335 (by exact gz_m 137 (by omega))
        refine gv_run 1 true hD (pcₚ := 424) (lvₚ := [(0, .inr (.inr (some 0))), (1, .inl (I 0 6)), (2, .inr (.inl v2_11)), (4, .inl v4_80)]) (stₚ := [.inl 0]) (hₚ := gr_h I313 J314) (C := (True ∧ True)) rfl ⟨trivial, trivial⟩ ?_
        have b336 : (I313 0 71 = 5 ∨ I313 0 73 ≤ I313 0 69) ∧ (I313 0 72 ≤ I313 0 69) ∧ (I313 0 71 = 0 ∨ (I313 0 72 < I313 0 73 ∧ I313 0 72 < I313 0 69)) ∧ (I313 0 71 = 3 → 2 ≤ I313 0 73 - I313 0 72 ∧ I313 0 73 - I313 0 72 ≤ 14) ∧ (I313 0 72 ≤ I313 0 73) ∧ (I313 0 69 = I 0 69) ∧ (I 0 73 ≤ I313 0 73) ∧ (I 0 72 ≤ I313 0 72) ∧ (I313 0 59 - I313 0 72 ≤ I 0 59 - I 0 72) ∧ (I313 0 42 - I313 0 72 ≤ I 0 42 - I 0 72) := by exact gz_m 138 (by omega)
        exact gv_zret hD rfl (by exact gz_m 139 (by omega)) ⟨I313, J314, rfl, hI313, FI313, FJ314, ⟨_, rfl, by exact gz_m 140 (by omega), by exact gz_m 141 (by omega), b336.1, b336.2.1, b336.2.2.1, b336.2.2.2.1, b336.2.2.2.2.1, b336.2.2.2.2.2.1, b336.2.2.2.2.2.2.1, b336.2.2.2.2.2.2.2.1, b336.2.2.2.2.2.2.2.2.1, b336.2.2.2.2.2.2.2.2.2, KLK_I313, KPT_I313, (Or.inr ⟨by exact gz_m 142 (by omega), by first | (exfalso; exact gz_m 143 (by omega)) | (rw [e2_114]; (repeat first | rw [if_pos (by exact gz_m 144 (by omega))] | rw [if_neg (by exact gz_m 145 (by omega))]); exact ⟨by exact gz_m 146 (by omega), by exact gz_m 147 (by omega), (fun j => ⟨((g312 17 j rfl).trans (e6_114.1 j)), ((k312 23 j rfl).trans (e6_114.2.2.2.2.2 j)), ((g312 31 j rfl).trans (e6_114.2.1 j)), ((g312 32 j rfl).trans (e6_114.2.2.1 j))⟩), fun j => ⟨((g312 33 j rfl).trans (e6_114.2.2.2.1 j)), ((g312 34 j rfl).trans (e6_114.2.2.2.2.1 j))⟩⟩)⟩)⟩⟩
set_option maxHeartbeats 32000000 in
set_option maxRecDepth 100000 in
theorem r_pattern_p_L218 {ws0 : List Cond} {tb : String → gz_T} (hws : ∀ w ∈ gr_ws, w ∈ ws0) (htb : tb RX13 = gr_T) (ext : gz_Sh) (β : Int → Int) (N9 : Int) (p9 : Int) (I : gr_I) (J : gr_J) (hI : gr_Inv I) (x1 : I 0 72 ≤ I 0 69) (x4 : I 0 72 ≤ I 0 73) (x5 : 0 ≤ I 0 6) (x6 : I 0 59 + I 0 69 - I 0 72 ≤ 1900) (x7 : I 0 42 + I 0 69 - I 0 72 ≤ 1900) (x8 : gr_ATp β N9 p9 I J) (x9 : 0 ≤ p9) (x10 : gr_KW J) (x11 : gs_PDa I) (v2_11 : Int64) : ∀ (n : Nat) (I33 : gr_I) (J34 : gr_J) (v4_35 : Int) (p_35 : Int), (1001 - I33 0 72).toNat < n → gr_Inv I33 → gr_fr [42, 59, 71, 72, 73, 74, 75, 76, 77, 106] [17, 23, 31, 32, 33, 34, 35, 51, 64, 65, 66] I I33 → gr_fj [42, 59, 71, 72, 73, 74, 75, 76, 77, 106] [17, 23, 31, 32, 33, 34, 35, 51, 64, 65, 66] J J34 → gr_LKs I I33 → gr_PTs I I33 → ((0 ≤ (I 0 6) ∧ (I 0 6) ≤ 7) ∧ (0 ≤ v4_35 ∧ v4_35 ≤ 358) ∧ (3 * v4_35 ≤ 72 + I33 0 72) ∧ (0 ≤ p_35) ∧ (I33 0 72 ≤ I33 0 69) ∧ (I33 0 72 ≤ I33 0 73) ∧ (I33 0 69 = I 0 69) ∧ (I 0 73 ≤ I33 0 73) ∧ (I 0 72 ≤ I33 0 72) ∧ (I33 0 6 = I 0 6) ∧ (I33 0 59 - I33 0 72 ≤ I 0 59 - I 0 72) ∧ (I33 0 42 - I33 0 72 ≤ I 0 42 - I 0 72)) → (gr_ATp β N9 p_35 I33 J34) → (∃ m : Nat, 1001 - gs_A β N9 p_35 < (m : Int) ∧ gs_qtw β N9 I J p9 = gs_qc β N9 I J m (fo_ll (gs_en9 I33) v4_35) p_35) → (v2_11 = (gs_rn β N9 p9)) → (gs_eok I33 v4_35) → ((∀ k, I33 17 k = I 17 k) ∧ (∀ k, I33 31 k = I 31 k) ∧ (∀ k, I33 32 k = I 32 k) ∧ (∀ k, I33 33 k = I 33 k) ∧ (∀ k, I33 34 k = I 34 k) ∧ (∀ k, J34 23 k = J 23 k)) → gv_X (gr_E ws0 tb 11 (yX13_pattern, cX13_pattern, 8, (some .boolean)) kX13_pattern) (gv_Q cX13_pattern (some .boolean) (gr_sh ++ ext) (fun r hₚ => (∃ (Iₚ : gr_I) (Jₚ : gr_J), hₚ = gr_h Iₚ Jₚ ∧ gr_Inv Iₚ ∧ gr_fr [42, 59, 71, 72, 73, 74, 75, 76, 77, 106] [17, 23, 31, 32, 33, 34, 35, 51, 64, 65, 66] I Iₚ ∧ gr_fj [42, 59, 71, 72, 73, 74, 75, 76, 77, 106] [17, 23, 31, 32, 33, 34, 35, 51, 64, 65, 66] J Jₚ ∧ (∃ z : Int, r = some (.inl z) ∧ 0 ≤ z ∧ z ≤ 1 ∧ (Iₚ 0 71 = 5 ∨ Iₚ 0 73 ≤ Iₚ 0 69) ∧ (Iₚ 0 72 ≤ Iₚ 0 69) ∧ (Iₚ 0 71 = 0 ∨ (Iₚ 0 72 < Iₚ 0 73 ∧ Iₚ 0 72 < Iₚ 0 69)) ∧ (Iₚ 0 71 = 3 → 2 ≤ Iₚ 0 73 - Iₚ 0 72 ∧ Iₚ 0 73 - Iₚ 0 72 ≤ 14) ∧ (Iₚ 0 72 ≤ Iₚ 0 73) ∧ (Iₚ 0 69 = I 0 69) ∧ (I 0 73 ≤ Iₚ 0 73) ∧ (I 0 72 ≤ Iₚ 0 72) ∧ (Iₚ 0 59 - Iₚ 0 72 ≤ I 0 59 - I 0 72) ∧ (Iₚ 0 42 - Iₚ 0 72 ≤ I 0 42 - I 0 72) ∧ (gr_LKs I Iₚ) ∧ (gr_PTs I Iₚ) ∧ (gs_Or z (0 ≤ (gs_pat β N9 I J (I 0 78) p9) ∧ gr_ATp β N9 (gs_pat β N9 I J (I 0 78) p9) Iₚ Jₚ ∧ gs_Upat (gs_rn β N9 p9) (gs_ptw β N9 I J p9).2 I J Iₚ Jₚ ∧ gs_Uct β N9 I J p9 Iₚ) ((gs_pat β N9 I J (I 0 78) p9) < 0 ∧ Iₚ 0 77 = -1 - (gs_pat β N9 I J (I 0 78) p9) ∧ gs_Spt I J Iₚ Jₚ ∧ ∀ j, Iₚ 33 j = I 33 j ∧ Iₚ 34 j = I 34 j)))))) (218, [(0, .inr (.inr (some 0))), (1, .inl (I 0 6)), (2, .inr (.inl v2_11)), (4, .inl v4_35)], [], gr_sh ++ ext, gr_h I33 J34) := by
  have FI : gr_fr [42, 59, 71, 72, 73, 74, 75, 76, 77, 106] [17, 23, 31, 32, 33, 34, 35, 51, 64, 65, 66] I I := fun _ _ _ => rfl
  have FJ : gr_fj [42, 59, 71, 72, 73, 74, 75, 76, 77, 106] [17, 23, 31, 32, 33, 34, 35, 51, 64, 65, 66] J J := fun _ _ _ => rfl
  have hD : gv_D (gr_E ws0 tb 11 (yX13_pattern, cX13_pattern, 8, (some .boolean)) kX13_pattern) := gq_of oX13_pattern
  have tAT := gr_ATp_l x8
  skip
  have KW := x10
  have f1 := (gr_b_0_71 hI)
  have f2 := (gr_b_0_72 hI)
  have f3 := (gr_b_0_73 hI)
  have f4 := (gr_b_0_69 hI)
  have f5 := (gr_b_0_6 hI)
  have f6 := (gr_b_0_59 hI)
  have f7 := (gr_b_0_42 hI)
  have f8 := (gr_b_0_106 hI)
  have KLK_I : gr_LKs I I := gr_LKs_rf
  have KPT_I : gr_PTs I I := gr_PTs_rf
  intro n
  induction n with
  | zero => intro I33 J34 v4_35 p_35 hn; exact gz_m 0 (by omega)
  | succ n ih218 =>
    intro I33 J34 v4_35 p_35 hn hI33 FI33 FJ34 KLK_I33 KPT_I33 m_35 e2_35 e3_35 e4_35 e5_35 e6_35
    obtain ⟨h_I_0_6__35, hv4_35, e0_35, e1_35, e7_35, e8_35, e9_35, e10_35, e11_35, e12_35, e13_35, e14_35⟩ := m_35
    have f36 := (gr_b_0_71 hI33)
    have f37 := (gr_b_0_72 hI33)
    have f38 := (gr_b_0_73 hI33)
    have f39 := (gr_b_0_69 hI33)
    have f40 := (gr_b_0_6 hI33)
    have f41 := (gr_b_0_59 hI33)
    have f42 := (gr_b_0_42 hI33)
    have f43 := (gr_b_0_106 hI33)
    have t44 := gr_ATp_l e2_35
    have L223 : ∀ (n : Nat) (I45 : gr_I) (J46 : gr_J) (p_47 : Int), (1001 - I45 0 72).toNat < n → gr_Inv I45 → gr_fr [42, 59, 71, 72, 73, 74, 75, 76, 77, 106] [17, 23, 31, 32, 33, 34, 35, 51, 64, 65, 66] I I45 → gr_fj [42, 59, 71, 72, 73, 74, 75, 76, 77, 106] [17, 23, 31, 32, 33, 34, 35, 51, 64, 65, 66] J J46 → gr_LKs I I45 → gr_PTs I I45 → ((0 ≤ (I 0 6) ∧ (I 0 6) ≤ 7) ∧ (0 ≤ v4_35 ∧ v4_35 ≤ 358) ∧ (3 * v4_35 ≤ 72 + I45 0 72) ∧ (I33 0 72 ≤ I45 0 72) ∧ (0 ≤ p_47) ∧ (I45 0 72 ≤ I45 0 69) ∧ (I45 0 72 ≤ I45 0 73) ∧ (I45 0 69 = I 0 69) ∧ (I 0 73 ≤ I45 0 73) ∧ (I 0 72 ≤ I45 0 72) ∧ (I45 0 6 = I 0 6) ∧ (I45 0 59 - I45 0 72 ≤ I 0 59 - I 0 72) ∧ (I45 0 42 - I45 0 72 ≤ I 0 42 - I 0 72)) → (gr_ATp β N9 p_47 I45 J46) → (∃ m m2 : Nat, 1001 - gs_A β N9 p_47 ≤ (m : Int) ∧ 1001 - gs_A β N9 p_47 < (m2 : Int) ∧ gs_qtw β N9 I J p9 = gs_qcA β N9 (gs_qc β N9 I J m) (fo_ll (gs_en9 I45) v4_35) (gs_ws β N9 I J m2 (I45 0 106) p_47)) → (v2_11 = (gs_rn β N9 p9)) → (gs_eok I45 v4_35) → ((∀ k, I45 17 k = I 17 k) ∧ (∀ k, I45 31 k = I 31 k) ∧ (∀ k, I45 32 k = I 32 k) ∧ (∀ k, I45 33 k = I 33 k) ∧ (∀ k, I45 34 k = I 34 k) ∧ (∀ k, J46 23 k = J 23 k)) → gv_X (gr_E ws0 tb 11 (yX13_pattern, cX13_pattern, 8, (some .boolean)) kX13_pattern) (gv_Q cX13_pattern (some .boolean) (gr_sh ++ ext) (fun r hₚ => (∃ (Iₚ : gr_I) (Jₚ : gr_J), hₚ = gr_h Iₚ Jₚ ∧ gr_Inv Iₚ ∧ gr_fr [42, 59, 71, 72, 73, 74, 75, 76, 77, 106] [17, 23, 31, 32, 33, 34, 35, 51, 64, 65, 66] I Iₚ ∧ gr_fj [42, 59, 71, 72, 73, 74, 75, 76, 77, 106] [17, 23, 31, 32, 33, 34, 35, 51, 64, 65, 66] J Jₚ ∧ (∃ z : Int, r = some (.inl z) ∧ 0 ≤ z ∧ z ≤ 1 ∧ (Iₚ 0 71 = 5 ∨ Iₚ 0 73 ≤ Iₚ 0 69) ∧ (Iₚ 0 72 ≤ Iₚ 0 69) ∧ (Iₚ 0 71 = 0 ∨ (Iₚ 0 72 < Iₚ 0 73 ∧ Iₚ 0 72 < Iₚ 0 69)) ∧ (Iₚ 0 71 = 3 → 2 ≤ Iₚ 0 73 - Iₚ 0 72 ∧ Iₚ 0 73 - Iₚ 0 72 ≤ 14) ∧ (Iₚ 0 72 ≤ Iₚ 0 73) ∧ (Iₚ 0 69 = I 0 69) ∧ (I 0 73 ≤ Iₚ 0 73) ∧ (I 0 72 ≤ Iₚ 0 72) ∧ (Iₚ 0 59 - Iₚ 0 72 ≤ I 0 59 - I 0 72) ∧ (Iₚ 0 42 - Iₚ 0 72 ≤ I 0 42 - I 0 72) ∧ (gr_LKs I Iₚ) ∧ (gr_PTs I Iₚ) ∧ (gs_Or z (0 ≤ (gs_pat β N9 I J (I 0 78) p9) ∧ gr_ATp β N9 (gs_pat β N9 I J (I 0 78) p9) Iₚ Jₚ ∧ gs_Upat (gs_rn β N9 p9) (gs_ptw β N9 I J p9).2 I J Iₚ Jₚ ∧ gs_Uct β N9 I J p9 Iₚ) ((gs_pat β N9 I J (I 0 78) p9) < 0 ∧ Iₚ 0 77 = -1 - (gs_pat β N9 I J (I 0 78) p9) ∧ gs_Spt I J Iₚ Jₚ ∧ ∀ j, Iₚ 33 j = I 33 j ∧ Iₚ 34 j = I 34 j)))))) (223, [(0, .inr (.inr (some 0))), (1, .inl (I 0 6)), (2, .inr (.inl v2_11)), (4, .inl v4_35)], [], gr_sh ++ ext, gr_h I45 J46) := by
      intro n
      induction n with
      | zero => intro I45 J46 p_47 hn; exact gz_m 1 (by omega)
      | succ n ih223 =>
        intro I45 J46 p_47 hn hI45 FI45 FJ46 KLK_I45 KPT_I45 m_47 e3_47 e4_47 e5_47 e6_47 e7_47
        clear h_I_0_6__35 hv4_35 e0_35 e1_35 e7_35 e8_35 e9_35 e10_35 e11_35 e12_35 e13_35 e14_35 f36 f37 f38 f39 f40 f41 f42 f43 t44
        obtain ⟨h_I_0_6__47, hv4_35_47, e0_47, e1_47, e2_47, e8_47, e9_47, e10_47, e11_47, e12_47, e13_47, e14_47, e15_47⟩ := m_47
        have f48 := (gr_b_0_71 hI45)
        have f49 := (gr_b_0_72 hI45)
        have f50 := (gr_b_0_73 hI45)
        have f51 := (gr_b_0_69 hI45)
        have f52 := (gr_b_0_6 hI45)
        have f53 := (gr_b_0_59 hI45)
        have f54 := (gr_b_0_42 hI45)
        have f55 := (gr_b_0_106 hI45)
        have t56 := gr_ATp_l e3_47
        have L251 : ∀ (I57 : gr_I) (J58 : gr_J) (p_59 : Int), gr_Inv I57 → gr_fr [42, 59, 71, 72, 73, 74, 75, 76, 77, 106] [17, 23, 31, 32, 33, 34, 35, 51, 64, 65, 66] I I57 → gr_fj [42, 59, 71, 72, 73, 74, 75, 76, 77, 106] [17, 23, 31, 32, 33, 34, 35, 51, 64, 65, 66] J J58 → gr_LKs I I57 → gr_PTs I I57 → ((0 ≤ (I 0 6) ∧ (I 0 6) ≤ 7) ∧ (0 ≤ v4_35 ∧ v4_35 ≤ 357) ∧ (3 * v4_35 ≤ 71 + I57 0 72) ∧ (I33 0 72 ≤ I57 0 72) ∧ (0 ≤ p_59) ∧ (I57 0 72 ≤ I57 0 69) ∧ (I57 0 72 ≤ I57 0 73) ∧ (I57 0 69 = I 0 69) ∧ (I 0 73 ≤ I57 0 73) ∧ (I 0 72 ≤ I57 0 72) ∧ (I57 0 6 = I 0 6) ∧ (I57 0 59 - I57 0 72 ≤ I 0 59 - I 0 72) ∧ (I57 0 42 - I57 0 72 ≤ I 0 42 - I 0 72)) → (gr_ATp β N9 p_59 I57 J58) → (∃ m : Nat, 1001 - gs_A β N9 p_59 ≤ (m : Int) ∧ gs_qtw β N9 I J p9 = gs_qcB β N9 (gs_qc β N9 I J m) (fo_ll (gs_en9 I57) v4_35) (I57 0 106) p_59) → (v2_11 = (gs_rn β N9 p9)) → (gs_eok I57 v4_35) → ((∀ k, I57 17 k = I 17 k) ∧ (∀ k, I57 31 k = I 31 k) ∧ (∀ k, I57 32 k = I 32 k) ∧ (∀ k, I57 33 k = I 33 k) ∧ (∀ k, I57 34 k = I 34 k) ∧ (∀ k, J58 23 k = J 23 k)) → gv_X (gr_E ws0 tb 11 (yX13_pattern, cX13_pattern, 8, (some .boolean)) kX13_pattern) (gv_Q cX13_pattern (some .boolean) (gr_sh ++ ext) (fun r hₚ => (∃ (Iₚ : gr_I) (Jₚ : gr_J), hₚ = gr_h Iₚ Jₚ ∧ gr_Inv Iₚ ∧ gr_fr [42, 59, 71, 72, 73, 74, 75, 76, 77, 106] [17, 23, 31, 32, 33, 34, 35, 51, 64, 65, 66] I Iₚ ∧ gr_fj [42, 59, 71, 72, 73, 74, 75, 76, 77, 106] [17, 23, 31, 32, 33, 34, 35, 51, 64, 65, 66] J Jₚ ∧ (∃ z : Int, r = some (.inl z) ∧ 0 ≤ z ∧ z ≤ 1 ∧ (Iₚ 0 71 = 5 ∨ Iₚ 0 73 ≤ Iₚ 0 69) ∧ (Iₚ 0 72 ≤ Iₚ 0 69) ∧ (Iₚ 0 71 = 0 ∨ (Iₚ 0 72 < Iₚ 0 73 ∧ Iₚ 0 72 < Iₚ 0 69)) ∧ (Iₚ 0 71 = 3 → 2 ≤ Iₚ 0 73 - Iₚ 0 72 ∧ Iₚ 0 73 - Iₚ 0 72 ≤ 14) ∧ (Iₚ 0 72 ≤ Iₚ 0 73) ∧ (Iₚ 0 69 = I 0 69) ∧ (I 0 73 ≤ Iₚ 0 73) ∧ (I 0 72 ≤ Iₚ 0 72) ∧ (Iₚ 0 59 - Iₚ 0 72 ≤ I 0 59 - I 0 72) ∧ (Iₚ 0 42 - Iₚ 0 72 ≤ I 0 42 - I 0 72) ∧ (gr_LKs I Iₚ) ∧ (gr_PTs I Iₚ) ∧ (gs_Or z (0 ≤ (gs_pat β N9 I J (I 0 78) p9) ∧ gr_ATp β N9 (gs_pat β N9 I J (I 0 78) p9) Iₚ Jₚ ∧ gs_Upat (gs_rn β N9 p9) (gs_ptw β N9 I J p9).2 I J Iₚ Jₚ ∧ gs_Uct β N9 I J p9 Iₚ) ((gs_pat β N9 I J (I 0 78) p9) < 0 ∧ Iₚ 0 77 = -1 - (gs_pat β N9 I J (I 0 78) p9) ∧ gs_Spt I J Iₚ Jₚ ∧ ∀ j, Iₚ 33 j = I 33 j ∧ Iₚ 34 j = I 34 j)))))) (251, [(0, .inr (.inr (some 0))), (1, .inl (I 0 6)), (2, .inr (.inl v2_11)), (4, .inl v4_35)], [], gr_sh ++ ext, gr_h I57 J58) := by
          intro I57 J58 p_59 hI57 FI57 FJ58 KLK_I57 KPT_I57 m_59 e3_59 e4_59 e5_59 e6_59 e7_59
          clear h_I_0_6__47 hv4_35_47 e0_47 e1_47 e2_47 e8_47 e9_47 e10_47 e11_47 e12_47 e13_47 e14_47 e15_47 f48 f49 f50 f51 f52 f53 f54 f55 t56
          obtain ⟨h_I_0_6__59, hv4_35_59, e0_59, e1_59, e2_59, e8_59, e9_59, e10_59, e11_59, e12_59, e13_59, e14_59, e15_59⟩ := m_59
          have f60 := (gr_b_0_71 hI57)
          have f61 := (gr_b_0_72 hI57)
          have f62 := (gr_b_0_73 hI57)
          have f63 := (gr_b_0_69 hI57)
          have f64 := (gr_b_0_6 hI57)
          have f65 := (gr_b_0_59 hI57)
          have f66 := (gr_b_0_42 hI57)
          have f67 := (gr_b_0_106 hI57)
          have t68 := gr_ATp_l e3_59
          have L254 : ∀ (n : Nat) (v5_69 : Int), (358 - v5_69).toNat < n → ((0 ≤ (I 0 6) ∧ (I 0 6) ≤ 7) ∧ (0 ≤ v4_35 ∧ v4_35 ≤ 357) ∧ (0 ≤ v5_69 ∧ v5_69 ≤ 357) ∧ (v5_69 ≤ v4_35) ∧ (I57 0 72 ≤ I57 0 69) ∧ (I57 0 72 ≤ I57 0 73) ∧ (I57 0 69 = I 0 69) ∧ (I 0 73 ≤ I57 0 73) ∧ (I 0 72 ≤ I57 0 72) ∧ (I57 0 6 = I 0 6) ∧ (I57 0 59 - I57 0 72 ≤ I 0 59 - I 0 72) ∧ (I57 0 42 - I57 0 72 ≤ I 0 42 - I 0 72)) → (∀ j : Nat, j < Int.toNat v5_69 → ¬ I57 64 j = I57 0 106) → gv_X (gr_E ws0 tb 11 (yX13_pattern, cX13_pattern, 8, (some .boolean)) kX13_pattern) (gv_Q cX13_pattern (some .boolean) (gr_sh ++ ext) (fun r hₚ => (∃ (Iₚ : gr_I) (Jₚ : gr_J), hₚ = gr_h Iₚ Jₚ ∧ gr_Inv Iₚ ∧ gr_fr [42, 59, 71, 72, 73, 74, 75, 76, 77, 106] [17, 23, 31, 32, 33, 34, 35, 51, 64, 65, 66] I Iₚ ∧ gr_fj [42, 59, 71, 72, 73, 74, 75, 76, 77, 106] [17, 23, 31, 32, 33, 34, 35, 51, 64, 65, 66] J Jₚ ∧ (∃ z : Int, r = some (.inl z) ∧ 0 ≤ z ∧ z ≤ 1 ∧ (Iₚ 0 71 = 5 ∨ Iₚ 0 73 ≤ Iₚ 0 69) ∧ (Iₚ 0 72 ≤ Iₚ 0 69) ∧ (Iₚ 0 71 = 0 ∨ (Iₚ 0 72 < Iₚ 0 73 ∧ Iₚ 0 72 < Iₚ 0 69)) ∧ (Iₚ 0 71 = 3 → 2 ≤ Iₚ 0 73 - Iₚ 0 72 ∧ Iₚ 0 73 - Iₚ 0 72 ≤ 14) ∧ (Iₚ 0 72 ≤ Iₚ 0 73) ∧ (Iₚ 0 69 = I 0 69) ∧ (I 0 73 ≤ Iₚ 0 73) ∧ (I 0 72 ≤ Iₚ 0 72) ∧ (Iₚ 0 59 - Iₚ 0 72 ≤ I 0 59 - I 0 72) ∧ (Iₚ 0 42 - Iₚ 0 72 ≤ I 0 42 - I 0 72) ∧ (gr_LKs I Iₚ) ∧ (gr_PTs I Iₚ) ∧ (gs_Or z (0 ≤ (gs_pat β N9 I J (I 0 78) p9) ∧ gr_ATp β N9 (gs_pat β N9 I J (I 0 78) p9) Iₚ Jₚ ∧ gs_Upat (gs_rn β N9 p9) (gs_ptw β N9 I J p9).2 I J Iₚ Jₚ ∧ gs_Uct β N9 I J p9 Iₚ) ((gs_pat β N9 I J (I 0 78) p9) < 0 ∧ Iₚ 0 77 = -1 - (gs_pat β N9 I J (I 0 78) p9) ∧ gs_Spt I J Iₚ Jₚ ∧ ∀ j, Iₚ 33 j = I 33 j ∧ Iₚ 34 j = I 34 j)))))) (254, [(0, .inr (.inr (some 0))), (1, .inl (I 0 6)), (2, .inr (.inl v2_11)), (4, .inl v4_35), (5, .inl v5_69)], [], gr_sh ++ ext, gr_h I57 J58) := by
            intro n
            induction n with
            | zero => intro v5_69 hn; exact gz_m 2 (by omega)
            | succ n ih254 =>
              intro v5_69 hn m_69 e1_69
              obtain ⟨h_I_0_6__69, hv4_35_69, hv5_69, e0_69, e2_69, e3_69, e4_69, e5_69, e6_69, e7_69, e8_69, e9_69⟩ := m_69
              have f70 := (gr_b_0_71 hI57)
              have f71 := (gr_b_0_72 hI57)
              have f72 := (gr_b_0_73 hI57)
              have f73 := (gr_b_0_69 hI57)
              have f74 := (gr_b_0_6 hI57)
              have f75 := (gr_b_0_59 hI57)
              have f76 := (gr_b_0_42 hI57)
              have f77 := (gr_b_0_106 hI57)
              have L313 : ∀ (I78 : gr_I) (J79 : gr_J) (v4_80 : Int) (p_80 : Int), gr_Inv I78 → gr_fr [42, 59, 71, 72, 73, 74, 75, 76, 77, 106] [17, 23, 31, 32, 33, 34, 35, 51, 64, 65, 66] I I78 → gr_fj [42, 59, 71, 72, 73, 74, 75, 76, 77, 106] [17, 23, 31, 32, 33, 34, 35, 51, 64, 65, 66] J J79 → gr_LKs I I78 → gr_PTs I I78 → ((0 ≤ (I 0 6) ∧ (I 0 6) ≤ 7) ∧ (0 ≤ v4_80 ∧ v4_80 ≤ 358) ∧ (0 ≤ v5_69 ∧ v5_69 ≤ 357) ∧ (3 * v4_80 ≤ 74 + I78 0 72) ∧ (v5_69 < v4_80) ∧ (I33 0 72 ≤ I78 0 72) ∧ (I78 65 (Int.toNat v5_69) = I78 0 42) ∧ (0 ≤ p_80) ∧ (I78 0 72 ≤ I78 0 69) ∧ (I78 0 72 ≤ I78 0 73) ∧ (I78 0 69 = I 0 69) ∧ (I 0 73 ≤ I78 0 73) ∧ (I 0 72 ≤ I78 0 72) ∧ (I78 0 6 = I 0 6) ∧ (I78 0 59 - I78 0 72 ≤ I 0 59 - I 0 72) ∧ (I78 0 42 - I78 0 72 ≤ I 0 42 - I 0 72)) → (gr_ATp β N9 p_80 I78 J79) → (∃ (m : Nat) (V : List fo_e), 1001 - gs_A β N9 p_80 ≤ (m : Int) ∧ gs_qtw β N9 I J p9 = gs_qcB β N9 (gs_qc β N9 I J m) V (I78 64 (Int.toNat v5_69)) p_80 ∧ gs_h9 V I78 v4_80 v5_69 (I78 64 (Int.toNat v5_69))) → (v2_11 = (gs_rn β N9 p9)) → ((∀ k, I78 17 k = I 17 k) ∧ (∀ k, I78 31 k = I 31 k) ∧ (∀ k, I78 32 k = I 32 k) ∧ (∀ k, I78 33 k = I 33 k) ∧ (∀ k, I78 34 k = I 34 k) ∧ (∀ k, J79 23 k = J 23 k)) → gv_X (gr_E ws0 tb 11 (yX13_pattern, cX13_pattern, 8, (some .boolean)) kX13_pattern) (gv_Q cX13_pattern (some .boolean) (gr_sh ++ ext) (fun r hₚ => (∃ (Iₚ : gr_I) (Jₚ : gr_J), hₚ = gr_h Iₚ Jₚ ∧ gr_Inv Iₚ ∧ gr_fr [42, 59, 71, 72, 73, 74, 75, 76, 77, 106] [17, 23, 31, 32, 33, 34, 35, 51, 64, 65, 66] I Iₚ ∧ gr_fj [42, 59, 71, 72, 73, 74, 75, 76, 77, 106] [17, 23, 31, 32, 33, 34, 35, 51, 64, 65, 66] J Jₚ ∧ (∃ z : Int, r = some (.inl z) ∧ 0 ≤ z ∧ z ≤ 1 ∧ (Iₚ 0 71 = 5 ∨ Iₚ 0 73 ≤ Iₚ 0 69) ∧ (Iₚ 0 72 ≤ Iₚ 0 69) ∧ (Iₚ 0 71 = 0 ∨ (Iₚ 0 72 < Iₚ 0 73 ∧ Iₚ 0 72 < Iₚ 0 69)) ∧ (Iₚ 0 71 = 3 → 2 ≤ Iₚ 0 73 - Iₚ 0 72 ∧ Iₚ 0 73 - Iₚ 0 72 ≤ 14) ∧ (Iₚ 0 72 ≤ Iₚ 0 73) ∧ (Iₚ 0 69 = I 0 69) ∧ (I 0 73 ≤ Iₚ 0 73) ∧ (I 0 72 ≤ Iₚ 0 72) ∧ (Iₚ 0 59 - Iₚ 0 72 ≤ I 0 59 - I 0 72) ∧ (Iₚ 0 42 - Iₚ 0 72 ≤ I 0 42 - I 0 72) ∧ (gr_LKs I Iₚ) ∧ (gr_PTs I Iₚ) ∧ (gs_Or z (0 ≤ (gs_pat β N9 I J (I 0 78) p9) ∧ gr_ATp β N9 (gs_pat β N9 I J (I 0 78) p9) Iₚ Jₚ ∧ gs_Upat (gs_rn β N9 p9) (gs_ptw β N9 I J p9).2 I J Iₚ Jₚ ∧ gs_Uct β N9 I J p9 Iₚ) ((gs_pat β N9 I J (I 0 78) p9) < 0 ∧ Iₚ 0 77 = -1 - (gs_pat β N9 I J (I 0 78) p9) ∧ gs_Spt I J Iₚ Jₚ ∧ ∀ j, Iₚ 33 j = I 33 j ∧ Iₚ 34 j = I 34 j)))))) (313, [(0, .inr (.inr (some 0))), (1, .inl (I 0 6)), (2, .inr (.inl v2_11)), (4, .inl v4_80), (5, .inl v5_69)], [], gr_sh ++ ext, gr_h I78 J79) := by
                intro I78 J79 v4_80 p_80 hI78 FI78 FJ79 KLK_I78 KPT_I78 m_80 e5_80 e6_80 e7_80 e8_80
                clear h_I_0_6__69 hv4_35_69 hv5_69 e0_69 e2_69 e3_69 e4_69 e5_69 e6_69 e7_69 e8_69 e9_69 f70 f71 f72 f73 f74 f75 f76 f77 h_I_0_6__59 hv4_35_59 e0_59 e1_59 e2_59 e8_59 e9_59 e10_59 e11_59 e12_59 e13_59 e14_59 e15_59 f60 f61 f62 f63 f64 f65 f66 f67 t68
                obtain ⟨h_I_0_6__80, hv4_80, hv5_69_80, e0_80, e1_80, e2_80, e3_80, e4_80, e9_80, e10_80, e11_80, e12_80, e13_80, e14_80, e15_80, e16_80⟩ := m_80
                have f81 := (gr_b_0_71 hI78)
                have f82 := (gr_b_0_72 hI78)
                have f83 := (gr_b_0_73 hI78)
                have f84 := (gr_b_0_69 hI78)
                have f85 := (gr_b_0_6 hI78)
                have f86 := (gr_b_0_59 hI78)
                have f87 := (gr_b_0_42 hI78)
                have f88 := (gr_b_0_106 hI78)
                have t89 := gr_ATp_l e5_80
                have L365 : ∀ (I90 : gr_I) (J91 : gr_J) (p_92 : Int), gr_Inv I90 → gr_fr [42, 59, 71, 72, 73, 74, 75, 76, 77, 106] [17, 23, 31, 32, 33, 34, 35, 51, 64, 65, 66] I I90 → gr_fj [42, 59, 71, 72, 73, 74, 75, 76, 77, 106] [17, 23, 31, 32, 33, 34, 35, 51, 64, 65, 66] J J91 → gr_LKs I I90 → gr_PTs I I90 → ((0 ≤ (I 0 6) ∧ (I 0 6) ≤ 7) ∧ (0 ≤ v4_80 ∧ v4_80 ≤ 358) ∧ (3 * v4_80 ≤ 73 + I90 0 72) ∧ (I33 0 72 ≤ I90 0 72) ∧ (0 ≤ p_92) ∧ (I90 0 72 ≤ I90 0 69) ∧ (I90 0 72 ≤ I90 0 73) ∧ (I90 0 69 = I 0 69) ∧ (I 0 73 ≤ I90 0 73) ∧ (I 0 72 ≤ I90 0 72) ∧ (I90 0 6 = I 0 6) ∧ (I90 0 59 - I90 0 72 ≤ I 0 59 - I 0 72) ∧ (I90 0 42 - I90 0 72 ≤ I 0 42 - I 0 72)) → (gr_ATp β N9 p_92 I90 J91) → (∃ m : Nat, 1001 - gs_A β N9 p_92 ≤ (m : Int) ∧ gs_qtw β N9 I J p9 = gs_qcC β N9 (gs_qc β N9 I J m) (fo_ll (gs_en9 I90) v4_80) p_92) → (v2_11 = (gs_rn β N9 p9)) → (gs_eok I90 v4_80) → ((∀ k, I90 17 k = I 17 k) ∧ (∀ k, I90 31 k = I 31 k) ∧ (∀ k, I90 32 k = I 32 k) ∧ (∀ k, I90 33 k = I 33 k) ∧ (∀ k, I90 34 k = I 34 k) ∧ (∀ k, J91 23 k = J 23 k)) → gv_X (gr_E ws0 tb 11 (yX13_pattern, cX13_pattern, 8, (some .boolean)) kX13_pattern) (gv_Q cX13_pattern (some .boolean) (gr_sh ++ ext) (fun r hₚ => (∃ (Iₚ : gr_I) (Jₚ : gr_J), hₚ = gr_h Iₚ Jₚ ∧ gr_Inv Iₚ ∧ gr_fr [42, 59, 71, 72, 73, 74, 75, 76, 77, 106] [17, 23, 31, 32, 33, 34, 35, 51, 64, 65, 66] I Iₚ ∧ gr_fj [42, 59, 71, 72, 73, 74, 75, 76, 77, 106] [17, 23, 31, 32, 33, 34, 35, 51, 64, 65, 66] J Jₚ ∧ (∃ z : Int, r = some (.inl z) ∧ 0 ≤ z ∧ z ≤ 1 ∧ (Iₚ 0 71 = 5 ∨ Iₚ 0 73 ≤ Iₚ 0 69) ∧ (Iₚ 0 72 ≤ Iₚ 0 69) ∧ (Iₚ 0 71 = 0 ∨ (Iₚ 0 72 < Iₚ 0 73 ∧ Iₚ 0 72 < Iₚ 0 69)) ∧ (Iₚ 0 71 = 3 → 2 ≤ Iₚ 0 73 - Iₚ 0 72 ∧ Iₚ 0 73 - Iₚ 0 72 ≤ 14) ∧ (Iₚ 0 72 ≤ Iₚ 0 73) ∧ (Iₚ 0 69 = I 0 69) ∧ (I 0 73 ≤ Iₚ 0 73) ∧ (I 0 72 ≤ Iₚ 0 72) ∧ (Iₚ 0 59 - Iₚ 0 72 ≤ I 0 59 - I 0 72) ∧ (Iₚ 0 42 - Iₚ 0 72 ≤ I 0 42 - I 0 72) ∧ (gr_LKs I Iₚ) ∧ (gr_PTs I Iₚ) ∧ (gs_Or z (0 ≤ (gs_pat β N9 I J (I 0 78) p9) ∧ gr_ATp β N9 (gs_pat β N9 I J (I 0 78) p9) Iₚ Jₚ ∧ gs_Upat (gs_rn β N9 p9) (gs_ptw β N9 I J p9).2 I J Iₚ Jₚ ∧ gs_Uct β N9 I J p9 Iₚ) ((gs_pat β N9 I J (I 0 78) p9) < 0 ∧ Iₚ 0 77 = -1 - (gs_pat β N9 I J (I 0 78) p9) ∧ gs_Spt I J Iₚ Jₚ ∧ ∀ j, Iₚ 33 j = I 33 j ∧ Iₚ 34 j = I 34 j)))))) (365, [(0, .inr (.inr (some 0))), (1, .inl (I 0 6)), (2, .inr (.inl v2_11)), (4, .inl v4_80)], [], gr_sh ++ ext, gr_h I90 J91) := by
                  intro I90 J91 p_92 hI90 FI90 FJ91 KLK_I90 KPT_I90 m_92 e3_92 e4_92 e5_92 e6_92 e7_92
                  clear h_I_0_6__80 hv4_80 hv5_69_80 e0_80 e1_80 e2_80 e3_80 e4_80 e9_80 e10_80 e11_80 e12_80 e13_80 e14_80 e15_80 e16_80 f81 f82 f83 f84 f85 f86 f87 f88 t89
                  obtain ⟨h_I_0_6__92, hv4_80_92, e0_92, e1_92, e2_92, e8_92, e9_92, e10_92, e11_92, e12_92, e13_92, e14_92, e15_92⟩ := m_92
                  have f93 := (gr_b_0_71 hI90)
                  have f94 := (gr_b_0_72 hI90)
                  have f95 := (gr_b_0_73 hI90)
                  have f96 := (gr_b_0_69 hI90)
                  have f97 := (gr_b_0_6 hI90)
                  have f98 := (gr_b_0_59 hI90)
                  have f99 := (gr_b_0_42 hI90)
                  have f100 := (gr_b_0_106 hI90)
                  have t101 := gr_ATp_l e3_92
                  have L384 : ((0 ≤ (I 0 6) ∧ (I 0 6) ≤ 7) ∧ (0 ≤ v4_80 ∧ v4_80 ≤ 358) ∧ (0 ≤ p_92) ∧ (I90 0 72 ≤ I90 0 69) ∧ (I90 0 72 ≤ I90 0 73) ∧ (I90 0 69 = I 0 69) ∧ (I 0 73 ≤ I90 0 73) ∧ (I 0 72 ≤ I90 0 72) ∧ (I90 0 6 = I 0 6) ∧ (I90 0 59 - I90 0 72 ≤ I 0 59 - I 0 72) ∧ (I90 0 42 - I90 0 72 ≤ I 0 42 - I 0 72)) → (gr_ATp β N9 p_92 I90 J91) → (gs_qtw β N9 I J p9 = (p_92, (fo_ll (gs_en9 I90) v4_80))) → (v2_11 = (gs_rn β N9 p9)) → (gs_eok I90 v4_80) → ((∀ k, I90 17 k = I 17 k) ∧ (∀ k, I90 31 k = I 31 k) ∧ (∀ k, I90 32 k = I 32 k) ∧ (∀ k, I90 33 k = I 33 k) ∧ (∀ k, I90 34 k = I 34 k) ∧ (∀ k, J91 23 k = J 23 k)) → gv_X (gr_E ws0 tb 11 (yX13_pattern, cX13_pattern, 8, (some .boolean)) kX13_pattern) (gv_Q cX13_pattern (some .boolean) (gr_sh ++ ext) (fun r hₚ => (∃ (Iₚ : gr_I) (Jₚ : gr_J), hₚ = gr_h Iₚ Jₚ ∧ gr_Inv Iₚ ∧ gr_fr [42, 59, 71, 72, 73, 74, 75, 76, 77, 106] [17, 23, 31, 32, 33, 34, 35, 51, 64, 65, 66] I Iₚ ∧ gr_fj [42, 59, 71, 72, 73, 74, 75, 76, 77, 106] [17, 23, 31, 32, 33, 34, 35, 51, 64, 65, 66] J Jₚ ∧ (∃ z : Int, r = some (.inl z) ∧ 0 ≤ z ∧ z ≤ 1 ∧ (Iₚ 0 71 = 5 ∨ Iₚ 0 73 ≤ Iₚ 0 69) ∧ (Iₚ 0 72 ≤ Iₚ 0 69) ∧ (Iₚ 0 71 = 0 ∨ (Iₚ 0 72 < Iₚ 0 73 ∧ Iₚ 0 72 < Iₚ 0 69)) ∧ (Iₚ 0 71 = 3 → 2 ≤ Iₚ 0 73 - Iₚ 0 72 ∧ Iₚ 0 73 - Iₚ 0 72 ≤ 14) ∧ (Iₚ 0 72 ≤ Iₚ 0 73) ∧ (Iₚ 0 69 = I 0 69) ∧ (I 0 73 ≤ Iₚ 0 73) ∧ (I 0 72 ≤ Iₚ 0 72) ∧ (Iₚ 0 59 - Iₚ 0 72 ≤ I 0 59 - I 0 72) ∧ (Iₚ 0 42 - Iₚ 0 72 ≤ I 0 42 - I 0 72) ∧ (gr_LKs I Iₚ) ∧ (gr_PTs I Iₚ) ∧ (gs_Or z (0 ≤ (gs_pat β N9 I J (I 0 78) p9) ∧ gr_ATp β N9 (gs_pat β N9 I J (I 0 78) p9) Iₚ Jₚ ∧ gs_Upat (gs_rn β N9 p9) (gs_ptw β N9 I J p9).2 I J Iₚ Jₚ ∧ gs_Uct β N9 I J p9 Iₚ) ((gs_pat β N9 I J (I 0 78) p9) < 0 ∧ Iₚ 0 77 = -1 - (gs_pat β N9 I J (I 0 78) p9) ∧ gs_Spt I J Iₚ Jₚ ∧ ∀ j, Iₚ 33 j = I 33 j ∧ Iₚ 34 j = I 34 j)))))) (384, [(0, .inr (.inr (some 0))), (1, .inl (I 0 6)), (2, .inr (.inl v2_11)), (4, .inl v4_80)], [], gr_sh ++ ext, gr_h I90 J91) := by
                    intro m_102 e1_102 e2_102 e3_102 e4_102 e5_102
                    obtain ⟨h_I_0_6__102, hv4_80_102, e0_102, e6_102, e7_102, e8_102, e9_102, e10_102, e11_102, e12_102, e13_102⟩ := m_102
                    have f103 := (gr_b_0_71 hI90)
                    have f104 := (gr_b_0_72 hI90)
                    have f105 := (gr_b_0_73 hI90)
                    have f106 := (gr_b_0_69 hI90)
                    have f107 := (gr_b_0_6 hI90)
                    have f108 := (gr_b_0_59 hI90)
                    have f109 := (gr_b_0_42 hI90)
                    have f110 := (gr_b_0_106 hI90)
                    have t111 := gr_ATp_l e3_92
                    have L393 : ∀ (I112 : gr_I) (J113 : gr_J) (p_114 : Int), gr_Inv I112 → gr_fr [42, 59, 71, 72, 73, 74, 75, 76, 77, 106] [17, 23, 31, 32, 33, 34, 35, 51, 64, 65, 66] I I112 → gr_fj [42, 59, 71, 72, 73, 74, 75, 76, 77, 106] [17, 23, 31, 32, 33, 34, 35, 51, 64, 65, 66] J J113 → gr_LKs I I112 → gr_PTs I I112 → ((0 ≤ (I 0 6) ∧ (I 0 6) ≤ 7) ∧ (0 ≤ v4_80 ∧ v4_80 ≤ 358) ∧ (0 ≤ p_114) ∧ (I112 0 72 ≤ I112 0 69) ∧ (I112 0 72 ≤ I112 0 73) ∧ (I112 0 69 = I 0 69) ∧ (I 0 73 ≤ I112 0 73) ∧ (I 0 72 ≤ I112 0 72) ∧ (I112 0 6 = I 0 6) ∧ (I112 0 59 - I112 0 72 ≤ I 0 59 - I 0 72) ∧ (I112 0 42 - I112 0 72 ≤ I 0 42 - I 0 72)) → (gr_ATp β N9 p_114 I112 J113) → ((gs_pat β N9 I J (I 0 78) p9) = gs_done β N9 (if v4_80 ≤ 24 ∧ I 17 (Int.toNat (I 0 6)) < 24 then 1 else 0) (I 0 78) p_114) → (v2_11 = (gs_rn β N9 p9)) → ((gs_qtw β N9 I J p9).2 = (fo_ll (gs_en9 I112) v4_80)) → (gs_eok I112 v4_80) → ((∀ k, I112 17 k = I 17 k) ∧ (∀ k, I112 31 k = I 31 k) ∧ (∀ k, I112 32 k = I 32 k) ∧ (∀ k, I112 33 k = I 33 k) ∧ (∀ k, I112 34 k = I 34 k) ∧ (∀ k, J113 23 k = J 23 k)) → gv_X (gr_E ws0 tb 11 (yX13_pattern, cX13_pattern, 8, (some .boolean)) kX13_pattern) (gv_Q cX13_pattern (some .boolean) (gr_sh ++ ext) (fun r hₚ => (∃ (Iₚ : gr_I) (Jₚ : gr_J), hₚ = gr_h Iₚ Jₚ ∧ gr_Inv Iₚ ∧ gr_fr [42, 59, 71, 72, 73, 74, 75, 76, 77, 106] [17, 23, 31, 32, 33, 34, 35, 51, 64, 65, 66] I Iₚ ∧ gr_fj [42, 59, 71, 72, 73, 74, 75, 76, 77, 106] [17, 23, 31, 32, 33, 34, 35, 51, 64, 65, 66] J Jₚ ∧ (∃ z : Int, r = some (.inl z) ∧ 0 ≤ z ∧ z ≤ 1 ∧ (Iₚ 0 71 = 5 ∨ Iₚ 0 73 ≤ Iₚ 0 69) ∧ (Iₚ 0 72 ≤ Iₚ 0 69) ∧ (Iₚ 0 71 = 0 ∨ (Iₚ 0 72 < Iₚ 0 73 ∧ Iₚ 0 72 < Iₚ 0 69)) ∧ (Iₚ 0 71 = 3 → 2 ≤ Iₚ 0 73 - Iₚ 0 72 ∧ Iₚ 0 73 - Iₚ 0 72 ≤ 14) ∧ (Iₚ 0 72 ≤ Iₚ 0 73) ∧ (Iₚ 0 69 = I 0 69) ∧ (I 0 73 ≤ Iₚ 0 73) ∧ (I 0 72 ≤ Iₚ 0 72) ∧ (Iₚ 0 59 - Iₚ 0 72 ≤ I 0 59 - I 0 72) ∧ (Iₚ 0 42 - Iₚ 0 72 ≤ I 0 42 - I 0 72) ∧ (gr_LKs I Iₚ) ∧ (gr_PTs I Iₚ) ∧ (gs_Or z (0 ≤ (gs_pat β N9 I J (I 0 78) p9) ∧ gr_ATp β N9 (gs_pat β N9 I J (I 0 78) p9) Iₚ Jₚ ∧ gs_Upat (gs_rn β N9 p9) (gs_ptw β N9 I J p9).2 I J Iₚ Jₚ ∧ gs_Uct β N9 I J p9 Iₚ) ((gs_pat β N9 I J (I 0 78) p9) < 0 ∧ Iₚ 0 77 = -1 - (gs_pat β N9 I J (I 0 78) p9) ∧ gs_Spt I J Iₚ Jₚ ∧ ∀ j, Iₚ 33 j = I 33 j ∧ Iₚ 34 j = I 34 j)))))) (393, [(0, .inr (.inr (some 0))), (1, .inl (I 0 6)), (2, .inr (.inl v2_11)), (4, .inl v4_80)], [], gr_sh ++ ext, gr_h I112 J113) := r_pattern_p_L218_L393 (ws0 := ws0) (tb := tb) hws htb ext β N9 p9 I J hI x1 x4 x5 x6 x7 x8 x9 x10 x11 v2_11 v4_80
                    refine gv_run 2 true hD (pcₚ := 387) (lvₚ := [(0, .inr (.inr (some 0))), (1, .inl (I 0 6)), (2, .inr (.inl v2_11)), (4, .inl v4_80)]) (stₚ := [.inl 125, .inr (.inr (some 0))]) (hₚ := gr_h I90 J91) (C := ((True ∧ True) ∧ True)) rfl ⟨⟨trivial, trivial⟩, trivial⟩ ?_
                    obtain ⟨r337, h337, E337, P337⟩ := r_need_p (ws0 := ws0) (tb := tb) hws htb ext β N9 p_92 I90 J91 hI90 125 ⟨by exact gz_m 148 (by omega), by exact gz_m 149 (by omega)⟩ (gr_ATp_rr e3_92).1 (gr_ATp_rr e3_92).2.1 (gr_ATp_rr e3_92).2.2.1 (gr_ATp_rr e3_92).2.2.2.1 (gr_ATp_rr e3_92).2.2.2.2 e3_92 (by exact gz_m 150 (by omega))
                    obtain ⟨I338, J339, rfl, hI338, g337, k337, ⟨z337, rfl, q337⟩⟩ := P337
                    have FI338 := gr_frt FI90 g337 rfl rfl
                    have FJ339 := gr_fjt FJ91 k337 rfl rfl
                    have t340 := g337 0 69 rfl
                    have t341 := g337 0 6 rfl
                    have t342 := g337 0 59 rfl
                    have t343 := g337 0 42 rfl
                    have t344 := g337 0 106 rfl
                    have t345 := g337 17 (Int.toNat ((I 0 6))) rfl
                    have f346 := (gr_b_0_71 hI338)
                    have f347 := (gr_b_0_72 hI338)
                    have f348 := (gr_b_0_73 hI338)
                    have f349 := (gr_b_0_69 hI338)
                    have f350 := (gr_b_0_6 hI338)
                    have f351 := (gr_b_0_59 hI338)
                    have f352 := (gr_b_0_42 hI338)
                    have f353 := (gr_b_0_106 hI338)
                    have KLK_I338 := gr_LKs_fr KLK_I90 (fun k => g337 51 k rfl) (g337 0 59 rfl)
                    have KPT_I338 := gr_PTs_fr KPT_I90 (fun k => g337 35 k rfl) (g337 0 42 rfl)
                    refine gv_callV hD rfl (As := [.inl 125]) (st := []) rfl (by decide) rfl rfl (gr_lV hws rfl) (Nat.le_of_ble_eq_true rfl) (gz_Ev_mono (d := 11) (by decide) E337) ?_
                    show gv_X _ _ (390, [(0, .inr (.inr (some 0))), (1, .inl (I 0 6)), (2, .inr (.inl v2_11)), (4, .inl v4_80)], [.inl z337], gr_sh ++ ext, gr_h I338 J339)
                    refine gv_if_eq (t := 423) hD rfl rfl ⟨by exact gz_m 151 (by omega), by exact gz_m 152 (by omega)⟩ (fun c354 => ?_) (fun c354 => ?_)
                    · obtain ⟨u355, u355_⟩ := gs_or0 q337.2.2.2.2.2.2.2.2.2.2.2 (by exact gz_m 153 (by omega))
                      refine gv_run 1 true hD (pcₚ := 424) (lvₚ := [(0, .inr (.inr (some 0))), (1, .inl (I 0 6)), (2, .inr (.inl v2_11)), (4, .inl v4_80)]) (stₚ := [.inl 0]) (hₚ := gr_h I338 J339) (C := (True ∧ True)) rfl ⟨trivial, trivial⟩ ?_
                      have b356 : (I338 0 71 = 5 ∨ I338 0 73 ≤ I338 0 69) ∧ (I338 0 72 ≤ I338 0 69) ∧ (I338 0 71 = 0 ∨ (I338 0 72 < I338 0 73 ∧ I338 0 72 < I338 0 69)) ∧ (I338 0 71 = 3 → 2 ≤ I338 0 73 - I338 0 72 ∧ I338 0 73 - I338 0 72 ≤ 14) ∧ (I338 0 72 ≤ I338 0 73) ∧ (I338 0 69 = I 0 69) ∧ (I 0 73 ≤ I338 0 73) ∧ (I 0 72 ≤ I338 0 72) ∧ (I338 0 59 - I338 0 72 ≤ I 0 59 - I 0 72) ∧ (I338 0 42 - I338 0 72 ≤ I 0 42 - I 0 72) := by exact gz_m 154 (by omega)
                      exact gv_zret hD rfl (by exact gz_m 155 (by omega)) ⟨I338, J339, rfl, hI338, FI338, FJ339, ⟨_, rfl, by exact gz_m 156 (by omega), by exact gz_m 157 (by omega), b356.1, b356.2.1, b356.2.2.1, b356.2.2.2.1, b356.2.2.2.2.1, b356.2.2.2.2.2.1, b356.2.2.2.2.2.2.1, b356.2.2.2.2.2.2.2.1, b356.2.2.2.2.2.2.2.2.1, b356.2.2.2.2.2.2.2.2.2, KLK_I338, KPT_I338, (Or.inr ⟨by exact gz_m 158 (by omega), by first | (exfalso; exact gz_m 159 (by omega)) | (rw [gs_pat_e2 e2_102 (by exact gz_m 160 (by omega)) (fo_ll_len (by exact gz_m 161 (by omega)))]; unfold gs_pt4; (repeat first | rw [if_pos (by exact gz_m 162 (by omega))] | rw [if_neg (by exact gz_m 163 (by omega))]); exact ⟨by exact gz_m 164 (by omega), by exact gz_m 165 (by omega), (fun j => ⟨((g337 17 j rfl).trans (e5_102.1 j)), ((k337 23 j rfl).trans (e5_102.2.2.2.2.2 j)), ((g337 31 j rfl).trans (e5_102.2.1 j)), ((g337 32 j rfl).trans (e5_102.2.2.1 j))⟩), fun j => ⟨((g337 33 j rfl).trans (e5_102.2.2.2.1 j)), ((g337 34 j rfl).trans (e5_102.2.2.2.2.1 j))⟩⟩)⟩)⟩⟩
                    · obtain ⟨u357, A357⟩ := gs_or1 q337.2.2.2.2.2.2.2.2.2.2.2 (by exact gz_m 166 (by omega))
                      have t358 := gr_ATp_l A357
                      have t359 := (q337.2.2.2.2.2.2.2.2.2.2.1).resolve_left (by exact gz_m 167 (by omega))
                      obtain ⟨_, _, -, _, -, -, _, _, _, _, -, -⟩ := q337
                      have t360 := (gr_ATp_rr e3_92).2.2.1.resolve_left (by exact gz_m 168 (by omega))
                      exact L393 I338 J339 (gs_need β N9 125 p_92) hI338 FI338 FJ339 KLK_I338 KPT_I338 (by exact gz_m 169 (by omega)) A357 (by rw [gs_pat_e2 e2_102 (by exact gz_m 170 (by omega)) (fo_ll_len (by exact gz_m 171 (by omega)))]; unfold gs_pt4; (repeat first | rw [if_pos (by exact gz_m 172 (by omega))] | rw [if_neg (by exact gz_m 173 (by omega))])) e3_102 (by rw [e2_102, show fo_ll (gs_en9 I338) _ = fo_ll (gs_en9 I90) _ from (gs_ens_kp e4_102 (gr_LKs_fr gr_LKs_rf (fun k => g337 51 k rfl) (g337 0 59 rfl)) (gr_PTs_fr gr_PTs_rf (fun k => g337 35 k rfl) (g337 0 42 rfl)) (fun j => (g337 64 j rfl)) (fun j => (g337 65 j rfl)) (fun j => (g337 66 j rfl))).1]) (gs_ens_kp e4_102 (gr_LKs_fr gr_LKs_rf (fun k => g337 51 k rfl) (g337 0 59 rfl)) (gr_PTs_fr gr_PTs_rf (fun k => g337 35 k rfl) (g337 0 42 rfl)) (fun j => (g337 64 j rfl)) (fun j => (g337 65 j rfl)) (fun j => (g337 66 j rfl))).2 ⟨(fun k => ((g337 17 k rfl).trans (e5_102.1 k))), (fun k => ((g337 31 k rfl).trans (e5_102.2.1 k))), (fun k => ((g337 32 k rfl).trans (e5_102.2.2.1 k))), (fun k => ((g337 33 k rfl).trans (e5_102.2.2.2.1 k))), (fun k => ((g337 34 k rfl).trans (e5_102.2.2.2.2.1 k))), (fun k => ((k337 23 k rfl).trans (e5_102.2.2.2.2.2 k)))⟩
                  refine gv_run 2 true hD (pcₚ := 368) (lvₚ := [(0, .inr (.inr (some 0))), (1, .inl (I 0 6)), (2, .inr (.inl v2_11)), (4, .inl v4_80)]) (stₚ := [.inl 44, .inr (.inr (some 0))]) (hₚ := gr_h I90 J91) (C := ((True ∧ True) ∧ True)) rfl ⟨⟨trivial, trivial⟩, trivial⟩ ?_
                  obtain ⟨r361, h361, E361, P361⟩ := r_sign_p (ws0 := ws0) (tb := tb) hws htb ext β N9 p_92 I90 J91 hI90 44 ⟨by exact gz_m 174 (by omega), by exact gz_m 175 (by omega)⟩ (fun h9 => by have g9 := (gr_ATp_rr e3_92).2.2.1; exact gz_m 176 (by omega)) e3_92 (by exact gz_m 177 (by omega))
                  obtain ⟨rfl, ⟨z361, rfl, q361⟩⟩ := P361
                  have V361 := gs_or_mk q361.2.2.2
                  obtain ⟨_, _, o361, -⟩ := q361
                  refine gv_callV hD rfl (As := [.inl 44]) (st := []) rfl (by decide) rfl rfl (gr_lV hws rfl) (Nat.le_of_ble_eq_true rfl) (gz_Ev_mono (d := 1) (by decide) E361) ?_
                  show gv_X _ _ (371, [(0, .inr (.inr (some 0))), (1, .inl (I 0 6)), (2, .inr (.inl v2_11)), (4, .inl v4_80)], [.inl z361], gr_sh ++ ext, gr_h I90 J91)
                  refine gv_if_ne (t := 377) hD rfl rfl ⟨by exact gz_m 178 (by omega), by exact gz_m 179 (by omega)⟩ (fun c362 => ?_) (fun c362 => ?_)
                  · have u363 := gs_or1 V361 (by exact gz_m 180 (by omega))
                    have t364 := o361.resolve_left (by exact gz_m 181 (by omega))
                    have t365 := (gr_ATp_rr e3_92).2.2.1.resolve_left (by exact gz_m 182 (by omega))
                    clear o361 V361
                    refine gv_run 1 true hD (pcₚ := 378) (lvₚ := [(0, .inr (.inr (some 0))), (1, .inl (I 0 6)), (2, .inr (.inl v2_11)), (4, .inl v4_80)]) (stₚ := [.inr (.inr (some 0))]) (hₚ := gr_h I90 J91) (C := (True ∧ True)) rfl ⟨trivial, trivial⟩ ?_
                    obtain ⟨r366, h366, E366, P366⟩ := r_next_p (ws0 := ws0) (tb := tb) hws htb ext β N9 I90 J91 hI90   ((gr_ATp_rr e3_92).1.resolve_left (by exact gz_m 183 (by omega))) e3_92.1.1 e3_92.1.2
                    obtain ⟨I367, J368, rfl, hI367, g366, k366, ⟨rfl, q366⟩⟩ := P366
                    have FI367 := gr_frt FI90 g366 rfl rfl
                    have FJ368 := gr_fjt FJ91 k366 rfl rfl
                    have t369 := g366 0 69 rfl
                    have t370 := g366 0 6 rfl
                    have t371 := g366 0 59 rfl
                    have t372 := g366 0 42 rfl
                    have t373 := g366 0 106 rfl
                    have t374 := g366 17 (Int.toNat ((I 0 6))) rfl
                    have f375 := (gr_b_0_71 hI367)
                    have f376 := (gr_b_0_72 hI367)
                    have f377 := (gr_b_0_73 hI367)
                    have f378 := (gr_b_0_69 hI367)
                    have f379 := (gr_b_0_6 hI367)
                    have f380 := (gr_b_0_59 hI367)
                    have f381 := (gr_b_0_42 hI367)
                    have f382 := (gr_b_0_106 hI367)
                    have KLK_I367 := gr_LKs_fr KLK_I90 (fun k => g366 51 k rfl) (g366 0 59 rfl)
                    have KPT_I367 := gr_PTs_fr KPT_I90 (fun k => g366 35 k rfl) (g366 0 42 rfl)
                    have t383 := (gr_ATp_rr e3_92).2.2.1.resolve_left (by exact gz_m 184 (by omega))
                    have A384 := gr_ATp_nx e3_92 q366.2.2.2.2.2
                    have t385 := gr_ATp_l A384
                    obtain ⟨_, _, -, -, -, -⟩ := q366
                    refine gv_callV hD rfl (As := []) (st := []) rfl (by decide) rfl rfl (gr_lV hws rfl) (Nat.le_of_ble_eq_true rfl) (gz_Ev_mono (d := 10) (by decide) E366) ?_
                    show gv_X _ _ (381, [(0, .inr (.inr (some 0))), (1, .inl (I 0 6)), (2, .inr (.inl v2_11)), (4, .inl v4_80)], [], gr_sh ++ ext, gr_h I367 J368)
                    refine gv_run 1 true hD (pcₚ := 218) (lvₚ := [(0, .inr (.inr (some 0))), (1, .inl (I 0 6)), (2, .inr (.inl v2_11)), (4, .inl v4_80)]) (stₚ := []) (hₚ := gr_h I367 J368) (C := (True ∧ True)) rfl ⟨trivial, trivial⟩ ?_
                    exact ih218 I367 J368 v4_80 (gs_X β N9 p_92) (by exact gz_m 185 (by omega)) hI367 FI367 FJ368 KLK_I367 KPT_I367 (by exact gz_m 186 (by omega)) A384 (by obtain ⟨m, hm, em⟩ := e4_92; exact ⟨m, by exact gz_m 187 (by omega), em.trans (by rw [show fo_ll (gs_en9 I367) _ = fo_ll (gs_en9 I90) _ from (gs_ens_kp e6_92 (gr_LKs_fr gr_LKs_rf (fun k => g366 51 k rfl) (g366 0 59 rfl)) (gr_PTs_fr gr_PTs_rf (fun k => g366 35 k rfl) (g366 0 42 rfl)) (fun j => (g366 64 j rfl)) (fun j => (g366 65 j rfl)) (fun j => (g366 66 j rfl))).1]; unfold gs_qcC; (repeat first | rw [if_pos (by exact gz_m 188 (by omega))] | rw [if_neg (by exact gz_m 189 (by omega))]))⟩) e5_92 (gs_ens_kp e6_92 (gr_LKs_fr gr_LKs_rf (fun k => g366 51 k rfl) (g366 0 59 rfl)) (gr_PTs_fr gr_PTs_rf (fun k => g366 35 k rfl) (g366 0 42 rfl)) (fun j => (g366 64 j rfl)) (fun j => (g366 65 j rfl)) (fun j => (g366 66 j rfl))).2 ⟨(fun k => ((g366 17 k rfl).trans (e7_92.1 k))), (fun k => ((g366 31 k rfl).trans (e7_92.2.1 k))), (fun k => ((g366 32 k rfl).trans (e7_92.2.2.1 k))), (fun k => ((g366 33 k rfl).trans (e7_92.2.2.2.1 k))), (fun k => ((g366 34 k rfl).trans (e7_92.2.2.2.2.1 k))), (fun k => ((k366 23 k rfl).trans (e7_92.2.2.2.2.2 k)))⟩
                  · have u386 := gs_or0 V361 (by exact gz_m 190 (by omega))
                    clear o361 V361
                    refine gv_run 1 true hD (pcₚ := 384) (lvₚ := [(0, .inr (.inr (some 0))), (1, .inl (I 0 6)), (2, .inr (.inl v2_11)), (4, .inl v4_80)]) (stₚ := []) (hₚ := gr_h I90 J91) (C := (True ∧ True)) rfl ⟨trivial, trivial⟩ ?_
                    exact L384 (by exact gz_m 191 (by omega)) e3_92 (by obtain ⟨m, hm, em⟩ := e4_92; exact em.trans (by unfold gs_qcC; (repeat first | rw [if_pos (by exact gz_m 192 (by omega))] | rw [if_neg (by exact gz_m 193 (by omega))]))) e5_92 (gs_ens_kp e6_92 gr_LKs_rf gr_PTs_rf (fun j => rfl) (fun j => rfl) (fun j => rfl)).2 ⟨(fun k => (e7_92.1 k)), (fun k => (e7_92.2.1 k)), (fun k => (e7_92.2.2.1 k)), (fun k => (e7_92.2.2.2.1 k)), (fun k => (e7_92.2.2.2.2.1 k)), (fun k => (e7_92.2.2.2.2.2 k))⟩
                refine gv_run 2 true hD (pcₚ := 316) (lvₚ := [(0, .inr (.inr (some 0))), (1, .inl (I 0 6)), (2, .inr (.inl v2_11)), (4, .inl v4_80), (5, .inl v5_69)]) (stₚ := [.inl 45, .inr (.inr (some 0))]) (hₚ := gr_h I78 J79) (C := ((True ∧ True) ∧ True)) rfl ⟨⟨trivial, trivial⟩, trivial⟩ ?_
                obtain ⟨r387, h387, E387, P387⟩ := r_sign_p (ws0 := ws0) (tb := tb) hws htb ext β N9 p_80 I78 J79 hI78 45 ⟨by exact gz_m 194 (by omega), by exact gz_m 195 (by omega)⟩ (fun h9 => by have g9 := (gr_ATp_rr e5_80).2.2.1; exact gz_m 196 (by omega)) e5_80 (by exact gz_m 197 (by omega))
                obtain ⟨rfl, ⟨z387, rfl, q387⟩⟩ := P387
                have V387 := gs_or_mk q387.2.2.2
                obtain ⟨_, _, o387, -⟩ := q387
                refine gv_callV hD rfl (As := [.inl 45]) (st := []) rfl (by decide) rfl rfl (gr_lV hws rfl) (Nat.le_of_ble_eq_true rfl) (gz_Ev_mono (d := 1) (by decide) E387) ?_
                show gv_X _ _ (319, [(0, .inr (.inr (some 0))), (1, .inl (I 0 6)), (2, .inr (.inl v2_11)), (4, .inl v4_80), (5, .inl v5_69)], [.inl z387], gr_sh ++ ext, gr_h I78 J79)
                refine gv_if_eq (t := 337) hD rfl rfl ⟨by exact gz_m 198 (by omega), by exact gz_m 199 (by omega)⟩ (fun c388 => ?_) (fun c388 => ?_)
                · have u389 := gs_or0 V387 (by exact gz_m 200 (by omega))
                  clear o387 V387
                  refine gv_run 1 true hD (pcₚ := 338) (lvₚ := [(0, .inr (.inr (some 0))), (1, .inl (I 0 6)), (2, .inr (.inl v2_11)), (4, .inl v4_80), (5, .inl v5_69)]) (stₚ := [.inr (.inr (some 0))]) (hₚ := gr_h I78 J79) (C := (True ∧ True)) rfl ⟨trivial, trivial⟩ ?_
                  obtain ⟨r390, h390, E390, P390⟩ := r_form_p (ws0 := ws0) (tb := tb) hws htb ext β N9 p_80 I78 J79 hI78   (gr_ATp_rr e5_80).1 (gr_ATp_rr e5_80).2.1 (gr_ATp_rr e5_80).2.2.1 (gr_ATp_rr e5_80).2.2.2.1 (gr_ATp_rr e5_80).2.2.2.2 (by exact gz_m 201 (by omega)) (by exact gz_m 202 (by omega)) e5_80 (by exact gz_m 203 (by omega))
                  obtain ⟨I391, J392, rfl, hI391, g390, k390, ⟨z390, rfl, q390⟩⟩ := P390
                  have FI391 := gr_frt FI78 g390 rfl rfl
                  have FJ392 := gr_fjt FJ79 k390 rfl rfl
                  have t393 := g390 0 69 rfl
                  have t394 := g390 0 6 rfl
                  have t395 := g390 0 106 rfl
                  have t396 := g390 17 (Int.toNat ((I 0 6))) rfl
                  have t397 := g390 65 (Int.toNat v5_69) rfl
                  have f398 := (gr_b_0_71 hI391)
                  have f399 := (gr_b_0_72 hI391)
                  have f400 := (gr_b_0_73 hI391)
                  have f401 := (gr_b_0_69 hI391)
                  have f402 := (gr_b_0_6 hI391)
                  have f403 := (gr_b_0_59 hI391)
                  have f404 := (gr_b_0_42 hI391)
                  have f405 := (gr_b_0_106 hI391)
                  have l390 := q390.2.2.2.2.2.2.2.2.2.2.2.2.2.2.1
                  have KLK_I391 := gr_LKs_tr KLK_I78 l390
                  have m390 := q390.2.2.2.2.2.2.2.2.2.2.2.2.2.2.2.1
                  have KPT_I391 := gr_PTs_tr KPT_I78 m390
                  refine gv_callV hD rfl (As := []) (st := []) rfl (by decide) rfl rfl (gr_lV hws rfl) (Nat.le_of_ble_eq_true rfl) (gz_Ev_mono (d := 11) (by decide) E390) ?_
                  show gv_X _ _ (341, [(0, .inr (.inr (some 0))), (1, .inl (I 0 6)), (2, .inr (.inl v2_11)), (4, .inl v4_80), (5, .inl v5_69)], [.inl z390], gr_sh ++ ext, gr_h I391 J392)
                  refine gv_if_ne (t := 346) hD rfl rfl ⟨by exact gz_m 204 (by omega), by exact gz_m 205 (by omega)⟩ (fun c406 => ?_) (fun c406 => ?_)
                  · obtain ⟨u407, A407, U407⟩ := gs_or1 q390.2.2.2.2.2.2.2.2.2.2.2.2.2.2.2.2 (by exact gz_m 206 (by omega))
                    have t408 := gr_ATp_l A407
                    have t409 := (q390.2.2.2.2.2.2.2.2.2.2.2.2.2.1).resolve_left (by exact gz_m 207 (by omega))
                    obtain ⟨_, _, -, _, -, -, _, _, _, _, _, _, _, -, _, _, -⟩ := q390
                    have f410 := (gr_b_0_42 hI391)
                    refine gv_run 7 true hD (pcₚ := 360) (lvₚ := [(0, .inr (.inr (some 0))), (1, .inl (I 0 6)), (2, .inr (.inl v2_11)), (4, .inl v4_80), (5, .inl v5_69)]) (stₚ := [.inr (.inr (some 65)), .inl (I391 0 42), .inl v5_69, .inr (.inr (some 66))]) (hₚ := gr_h I391 J392) (C := (((((((True ∧ True) ∧ True) ∧ True) ∧ True) ∧ True) ∧ True) ∧ True)) rfl ⟨⟨⟨⟨⟨⟨⟨trivial, trivial⟩, trivial⟩, trivial⟩, trivial⟩, trivial⟩, trivial⟩, trivial⟩ ?_
                    have f411 := (gr_b_65 hI391 (Int.toNat v5_69))
                    refine gv_run 2 true hD (pcₚ := 363) (lvₚ := [(0, .inr (.inr (some 0))), (1, .inl (I 0 6)), (2, .inr (.inl v2_11)), (4, .inl v4_80), (5, .inl v5_69)]) (stₚ := [.inl (I391 65 (Int.toNat v5_69)), .inl (I391 0 42), .inl v5_69, .inr (.inr (some 66))]) (hₚ := gr_h I391 J392) (C := ((True ∧ True) ∧ (0 ≤ v5_69 ∧ v5_69 < ((420 : Nat) : Int)))) rfl ⟨⟨trivial, trivial⟩, ⟨by exact gz_m 208 (by omega), by exact gz_m 209 (by omega)⟩⟩ ?_
                    refine gv_run 2 true hD (pcₚ := 365) (lvₚ := [(0, .inr (.inr (some 0))), (1, .inl (I 0 6)), (2, .inr (.inl v2_11)), (4, .inl v4_80), (5, .inl v5_69)]) (stₚ := []) (hₚ := gz_up (gr_h I391 J392) 66 (Int.toNat v5_69) (.inl (((I391 0 42) - (I391 65 (Int.toNat v5_69)))))) (C := ((True ∧ True) ∧ (0 ≤ v5_69 ∧ v5_69 < ((420 : Nat) : Int)))) rfl ⟨⟨trivial, trivial⟩, ⟨by exact gz_m 210 (by omega), by exact gz_m 211 (by omega)⟩⟩ ?_
                    refine gr_st hI391 FI391 rfl rfl ⟨⟨by show (-1) ≤ _; exact gz_m 212 (by omega), by show _ ≤ 2000; exact gz_m 213 (by omega)⟩, trivial⟩ (fun I412 hI412 FI412 q413 p413 => ?_)
                    have t414 := p413 0 71 (fun q => absurd q.1 (by first | exact gz_ne rfl | decide))
                    have t415 := p413 0 72 (fun q => absurd q.1 (by first | exact gz_ne rfl | decide))
                    have t416 := p413 0 73 (fun q => absurd q.1 (by first | exact gz_ne rfl | decide))
                    have t417 := p413 0 69 (fun q => absurd q.1 (by first | exact gz_ne rfl | decide))
                    have t418 := p413 0 6 (fun q => absurd q.1 (by first | exact gz_ne rfl | decide))
                    have t419 := p413 0 59 (fun q => absurd q.1 (by first | exact gz_ne rfl | decide))
                    have t420 := p413 0 42 (fun q => absurd q.1 (by first | exact gz_ne rfl | decide))
                    have t421 := p413 0 106 (fun q => absurd q.1 (by first | exact gz_ne rfl | decide))
                    have t422 := p413 17 (Int.toNat ((I 0 6))) (fun q => absurd q.1 (by first | exact gz_ne rfl | decide))
                    have t423 := p413 65 (Int.toNat v5_69) (fun q => absurd q.1 (by first | exact gz_ne rfl | decide))
                    have f424 := (gr_b_0_71 hI412)
                    have f425 := (gr_b_0_72 hI412)
                    have f426 := (gr_b_0_73 hI412)
                    have f427 := (gr_b_0_69 hI412)
                    have f428 := (gr_b_0_6 hI412)
                    have f429 := (gr_b_0_59 hI412)
                    have f430 := (gr_b_0_42 hI412)
                    have f431 := (gr_b_0_106 hI412)
                    have KLK_I412 := gr_LKs_fr KLK_I391 (fun k => p413 51 k (fun q => absurd q.1 (by first | exact gz_ne rfl | decide))) (p413 0 59 (fun q => absurd q.1 (by first | exact gz_ne rfl | decide)))
                    have KPT_I412 := gr_PTs_fr KPT_I391 (fun k => p413 35 k (fun q => absurd q.1 (by first | exact gz_ne rfl | decide))) (p413 0 42 (fun q => absurd q.1 (by first | exact gz_ne rfl | decide)))
                    have A432 := gr_ATp_sr A407 p413 rfl
                    refine gv_pick [0, 1, 2, 3] rfl ?_
                    exact L365 I412 J392 (gs_fm β N9 1002 p_80) hI412 FI412 FJ392 KLK_I412 KPT_I412 (by exact gz_m 214 (by omega)) A432 (by obtain ⟨m, V9, hm, em, h9V⟩ := e6_80; exact ⟨m, by exact gz_m 215 (by omega), em.trans (by have y9 := (gs_h9_put (c := (some (gs_frm β N9 p_80))) (gs_h9_kp h9V (gr_LKs_tr gr_LKs_rf l390) (gr_PTs_tr gr_PTs_rf m390) (fun j => (g390 64 j rfl)) (fun j => (g390 65 j rfl)) (fun j => (g390 66 j rfl))) (by exact gz_m 216 (by omega)) rfl p413 (by rw [(show I391 65 (Int.toNat v5_69) = I78 0 42 from ((g390 65 _ rfl)).trans (by exact gz_m 217 (by omega))), (show I412 66 (Int.toNat v5_69) = ((gs_fc β N9 1002 p_80 : Nat) : Int) from q413.trans (by have h8 := U407.1; have h7 := (show I391 65 (Int.toNat v5_69) = I78 0 42 from ((g390 65 _ rfl)).trans (by exact gz_m 218 (by omega))); exact gz_m 219 (by omega)))]; exact gs_f2_rx U407) (by rw [(show I391 65 (Int.toNat v5_69) = I78 0 42 from ((g390 65 _ rfl)).trans (by exact gz_m 220 (by omega))), (show I412 66 (Int.toNat v5_69) = ((gs_fc β N9 1002 p_80 : Nat) : Int) from q413.trans (by have h8 := U407.1; have h7 := (show I391 65 (Int.toNat v5_69) = I78 0 42 from ((g390 65 _ rfl)).trans (by exact gz_m 221 (by omega))); exact gz_m 222 (by omega)))]; exact gs_f2_ok U407 (by exact gz_m 223 (by omega)))); have y8 := (gs_ens_kp (gs_h9_put (c := (some (gs_frm β N9 p_80))) (gs_h9_kp h9V (gr_LKs_tr gr_LKs_rf l390) (gr_PTs_tr gr_PTs_rf m390) (fun j => (g390 64 j rfl)) (fun j => (g390 65 j rfl)) (fun j => (g390 66 j rfl))) (by exact gz_m 224 (by omega)) rfl p413 (by rw [(show I391 65 (Int.toNat v5_69) = I78 0 42 from ((g390 65 _ rfl)).trans (by exact gz_m 225 (by omega))), (show I412 66 (Int.toNat v5_69) = ((gs_fc β N9 1002 p_80 : Nat) : Int) from q413.trans (by have h8 := U407.1; have h7 := (show I391 65 (Int.toNat v5_69) = I78 0 42 from ((g390 65 _ rfl)).trans (by exact gz_m 226 (by omega))); exact gz_m 227 (by omega)))]; exact gs_f2_rx U407) (by rw [(show I391 65 (Int.toNat v5_69) = I78 0 42 from ((g390 65 _ rfl)).trans (by exact gz_m 228 (by omega))), (show I412 66 (Int.toNat v5_69) = ((gs_fc β N9 1002 p_80 : Nat) : Int) from q413.trans (by have h8 := U407.1; have h7 := (show I391 65 (Int.toNat v5_69) = I78 0 42 from ((g390 65 _ rfl)).trans (by exact gz_m 229 (by omega))); exact gz_m 230 (by omega)))]; exact gs_f2_ok U407 (by exact gz_m 231 (by omega)))).2 gr_LKs_rf gr_PTs_rf (fun j => rfl) (fun j => rfl) (fun j => rfl)); rw [y8.1, y9.1]; unfold gs_qcB gs_fxc gs_pf; rw [if_neg (by exact gz_m 232 (by omega)), if_neg (by exact gz_m 233 (by omega))])⟩) e7_80 (by obtain ⟨m, V9, hm, em, h9V⟩ := e6_80; exact (gs_ens_kp (gs_h9_put (c := (some (gs_frm β N9 p_80))) (gs_h9_kp h9V (gr_LKs_tr gr_LKs_rf l390) (gr_PTs_tr gr_PTs_rf m390) (fun j => (g390 64 j rfl)) (fun j => (g390 65 j rfl)) (fun j => (g390 66 j rfl))) (by exact gz_m 234 (by omega)) rfl p413 (by rw [(show I391 65 (Int.toNat v5_69) = I78 0 42 from ((g390 65 _ rfl)).trans (by exact gz_m 235 (by omega))), (show I412 66 (Int.toNat v5_69) = ((gs_fc β N9 1002 p_80 : Nat) : Int) from q413.trans (by have h8 := U407.1; have h7 := (show I391 65 (Int.toNat v5_69) = I78 0 42 from ((g390 65 _ rfl)).trans (by exact gz_m 236 (by omega))); exact gz_m 237 (by omega)))]; exact gs_f2_rx U407) (by rw [(show I391 65 (Int.toNat v5_69) = I78 0 42 from ((g390 65 _ rfl)).trans (by exact gz_m 238 (by omega))), (show I412 66 (Int.toNat v5_69) = ((gs_fc β N9 1002 p_80 : Nat) : Int) from q413.trans (by have h8 := U407.1; have h7 := (show I391 65 (Int.toNat v5_69) = I78 0 42 from ((g390 65 _ rfl)).trans (by exact gz_m 239 (by omega))); exact gz_m 240 (by omega)))]; exact gs_f2_ok U407 (by exact gz_m 241 (by omega)))).2 gr_LKs_rf gr_PTs_rf (fun j => rfl) (fun j => rfl) (fun j => rfl)).2) ⟨(fun k => (((p413 17 k (fun q => absurd q.1 (by first | exact gz_ne rfl | decide))).trans (g390 17 k rfl)).trans (e8_80.1 k))), (fun k => (((p413 31 k (fun q => absurd q.1 (by first | exact gz_ne rfl | decide))).trans (g390 31 k rfl)).trans (e8_80.2.1 k))), (fun k => (((p413 32 k (fun q => absurd q.1 (by first | exact gz_ne rfl | decide))).trans (g390 32 k rfl)).trans (e8_80.2.2.1 k))), (fun k => (((p413 33 k (fun q => absurd q.1 (by first | exact gz_ne rfl | decide))).trans (g390 33 k rfl)).trans (e8_80.2.2.2.1 k))), (fun k => (((p413 34 k (fun q => absurd q.1 (by first | exact gz_ne rfl | decide))).trans (g390 34 k rfl)).trans (e8_80.2.2.2.2.1 k))), (fun k => ((k390 23 k rfl).trans (e8_80.2.2.2.2.2 k)))⟩
                  · obtain ⟨u433, u433_⟩ := gs_or0 q390.2.2.2.2.2.2.2.2.2.2.2.2.2.2.2.2 (by exact gz_m 242 (by omega))
                    refine gv_run 1 true hD (pcₚ := 345) (lvₚ := [(0, .inr (.inr (some 0))), (1, .inl (I 0 6)), (2, .inr (.inl v2_11)), (4, .inl v4_80), (5, .inl v5_69)]) (stₚ := [.inl 0]) (hₚ := gr_h I391 J392) (C := (True ∧ True)) rfl ⟨trivial, trivial⟩ ?_
                    have b434 : (I391 0 71 = 5 ∨ I391 0 73 ≤ I391 0 69) ∧ (I391 0 72 ≤ I391 0 69) ∧ (I391 0 71 = 0 ∨ (I391 0 72 < I391 0 73 ∧ I391 0 72 < I391 0 69)) ∧ (I391 0 71 = 3 → 2 ≤ I391 0 73 - I391 0 72 ∧ I391 0 73 - I391 0 72 ≤ 14) ∧ (I391 0 72 ≤ I391 0 73) ∧ (I391 0 69 = I 0 69) ∧ (I 0 73 ≤ I391 0 73) ∧ (I 0 72 ≤ I391 0 72) ∧ (I391 0 59 - I391 0 72 ≤ I 0 59 - I 0 72) ∧ (I391 0 42 - I391 0 72 ≤ I 0 42 - I 0 72) := by exact gz_m 243 (by omega)
                    exact gv_zret hD rfl (by exact gz_m 244 (by omega)) ⟨I391, J392, rfl, hI391, FI391, FJ392, ⟨_, rfl, by exact gz_m 245 (by omega), by exact gz_m 246 (by omega), b434.1, b434.2.1, b434.2.2.1, b434.2.2.2.1, b434.2.2.2.2.1, b434.2.2.2.2.2.1, b434.2.2.2.2.2.2.1, b434.2.2.2.2.2.2.2.1, b434.2.2.2.2.2.2.2.2.1, b434.2.2.2.2.2.2.2.2.2, KLK_I391, KPT_I391, (Or.inr ⟨by exact gz_m 247 (by omega), by first | (exfalso; exact gz_m 248 (by omega)) | (obtain ⟨m, V9, hm, em, h9V⟩ := e6_80; rw [gs_pat_x2 (show gs_qtw β N9 I J p9 = (gs_fm β N9 1002 p_80, []) from (em.trans (by unfold gs_qcB gs_pf gs_qcC; (repeat first | rw [if_pos (by exact gz_m 249 (by omega))] | rw [if_neg (by exact gz_m 250 (by omega))])))) (by exact gz_m 251 (by omega))]; exact ⟨by exact gz_m 252 (by omega), by exact gz_m 253 (by omega), (fun j => ⟨((g390 17 j rfl).trans (e8_80.1 j)), ((k390 23 j rfl).trans (e8_80.2.2.2.2.2 j)), ((g390 31 j rfl).trans (e8_80.2.1 j)), ((g390 32 j rfl).trans (e8_80.2.2.1 j))⟩), fun j => ⟨((g390 33 j rfl).trans (e8_80.2.2.2.1 j)), ((g390 34 j rfl).trans (e8_80.2.2.2.2.1 j))⟩⟩)⟩)⟩⟩
                · have u435 := gs_or1 V387 (by exact gz_m 254 (by omega))
                  have t436 := o387.resolve_left (by exact gz_m 255 (by omega))
                  have t437 := (gr_ATp_rr e5_80).2.2.1.resolve_left (by exact gz_m 256 (by omega))
                  clear o387 V387
                  refine gv_run 4 true hD (pcₚ := 329) (lvₚ := [(0, .inr (.inr (some 0))), (1, .inl (I 0 6)), (2, .inr (.inl v2_11)), (4, .inl v4_80), (5, .inl v5_69)]) (stₚ := [.inl (-1), .inl v5_69, .inr (.inr (some 66))]) (hₚ := gr_h I78 J79) (C := ((((True ∧ True) ∧ True) ∧ True) ∧ True)) rfl ⟨⟨⟨⟨trivial, trivial⟩, trivial⟩, trivial⟩, trivial⟩ ?_
                  refine gv_run 1 true hD (pcₚ := 330) (lvₚ := [(0, .inr (.inr (some 0))), (1, .inl (I 0 6)), (2, .inr (.inl v2_11)), (4, .inl v4_80), (5, .inl v5_69)]) (stₚ := []) (hₚ := gz_up (gr_h I78 J79) 66 (Int.toNat v5_69) (.inl (-1))) (C := (True ∧ (0 ≤ v5_69 ∧ v5_69 < ((420 : Nat) : Int)))) rfl ⟨trivial, ⟨by exact gz_m 257 (by omega), by exact gz_m 258 (by omega)⟩⟩ ?_
                  refine gr_st hI78 FI78 rfl rfl ⟨⟨by show (-1) ≤ _; exact gz_m 259 (by omega), by show _ ≤ 2000; exact gz_m 260 (by omega)⟩, trivial⟩ (fun I438 hI438 FI438 q439 p439 => ?_)
                  have t440 := p439 0 71 (fun q => absurd q.1 (by first | exact gz_ne rfl | decide))
                  have t441 := p439 0 72 (fun q => absurd q.1 (by first | exact gz_ne rfl | decide))
                  have t442 := p439 0 73 (fun q => absurd q.1 (by first | exact gz_ne rfl | decide))
                  have t443 := p439 0 69 (fun q => absurd q.1 (by first | exact gz_ne rfl | decide))
                  have t444 := p439 0 6 (fun q => absurd q.1 (by first | exact gz_ne rfl | decide))
                  have t445 := p439 0 59 (fun q => absurd q.1 (by first | exact gz_ne rfl | decide))
                  have t446 := p439 0 42 (fun q => absurd q.1 (by first | exact gz_ne rfl | decide))
                  have t447 := p439 0 106 (fun q => absurd q.1 (by first | exact gz_ne rfl | decide))
                  have t448 := p439 17 (Int.toNat ((I 0 6))) (fun q => absurd q.1 (by first | exact gz_ne rfl | decide))
                  have t449 := p439 65 (Int.toNat v5_69) (fun q => absurd q.1 (by first | exact gz_ne rfl | decide))
                  have f450 := (gr_b_0_71 hI438)
                  have f451 := (gr_b_0_72 hI438)
                  have f452 := (gr_b_0_73 hI438)
                  have f453 := (gr_b_0_69 hI438)
                  have f454 := (gr_b_0_6 hI438)
                  have f455 := (gr_b_0_59 hI438)
                  have f456 := (gr_b_0_42 hI438)
                  have f457 := (gr_b_0_106 hI438)
                  have KLK_I438 := gr_LKs_fr KLK_I78 (fun k => p439 51 k (fun q => absurd q.1 (by first | exact gz_ne rfl | decide))) (p439 0 59 (fun q => absurd q.1 (by first | exact gz_ne rfl | decide)))
                  have KPT_I438 := gr_PTs_fr KPT_I78 (fun k => p439 35 k (fun q => absurd q.1 (by first | exact gz_ne rfl | decide))) (p439 0 42 (fun q => absurd q.1 (by first | exact gz_ne rfl | decide)))
                  have A458 := gr_ATp_sr e5_80 p439 rfl
                  refine gv_run 1 true hD (pcₚ := 331) (lvₚ := [(0, .inr (.inr (some 0))), (1, .inl (I 0 6)), (2, .inr (.inl v2_11)), (4, .inl v4_80), (5, .inl v5_69)]) (stₚ := [.inr (.inr (some 0))]) (hₚ := gr_h I438 J79) (C := (True ∧ True)) rfl ⟨trivial, trivial⟩ ?_
                  obtain ⟨r459, h459, E459, P459⟩ := r_next_p (ws0 := ws0) (tb := tb) hws htb ext β N9 I438 J79 hI438   ((gr_ATp_rr A458).1.resolve_left (by exact gz_m 261 (by omega))) A458.1.1 A458.1.2
                  obtain ⟨I460, J461, rfl, hI460, g459, k459, ⟨rfl, q459⟩⟩ := P459
                  have FI460 := gr_frt FI438 g459 rfl rfl
                  have FJ461 := gr_fjt FJ79 k459 rfl rfl
                  have t462 := g459 0 69 rfl
                  have t463 := g459 0 6 rfl
                  have t464 := g459 0 59 rfl
                  have t465 := g459 0 42 rfl
                  have t466 := g459 0 106 rfl
                  have t467 := g459 17 (Int.toNat ((I 0 6))) rfl
                  have t468 := g459 65 (Int.toNat v5_69) rfl
                  have f469 := (gr_b_0_71 hI460)
                  have f470 := (gr_b_0_72 hI460)
                  have f471 := (gr_b_0_73 hI460)
                  have f472 := (gr_b_0_69 hI460)
                  have f473 := (gr_b_0_6 hI460)
                  have f474 := (gr_b_0_59 hI460)
                  have f475 := (gr_b_0_42 hI460)
                  have f476 := (gr_b_0_106 hI460)
                  have KLK_I460 := gr_LKs_fr KLK_I438 (fun k => g459 51 k rfl) (g459 0 59 rfl)
                  have KPT_I460 := gr_PTs_fr KPT_I438 (fun k => g459 35 k rfl) (g459 0 42 rfl)
                  have t477 := (gr_ATp_rr A458).2.2.1.resolve_left (by exact gz_m 262 (by omega))
                  have A478 := gr_ATp_nx A458 q459.2.2.2.2.2
                  have t479 := gr_ATp_l A478
                  obtain ⟨_, _, -, -, -, -⟩ := q459
                  refine gv_callV hD rfl (As := []) (st := []) rfl (by decide) rfl rfl (gr_lV hws rfl) (Nat.le_of_ble_eq_true rfl) (gz_Ev_mono (d := 10) (by decide) E459) ?_
                  show gv_X _ _ (334, [(0, .inr (.inr (some 0))), (1, .inl (I 0 6)), (2, .inr (.inl v2_11)), (4, .inl v4_80), (5, .inl v5_69)], [], gr_sh ++ ext, gr_h I460 J461)
                  refine gv_run 1 true hD (pcₚ := 365) (lvₚ := [(0, .inr (.inr (some 0))), (1, .inl (I 0 6)), (2, .inr (.inl v2_11)), (4, .inl v4_80), (5, .inl v5_69)]) (stₚ := []) (hₚ := gr_h I460 J461) (C := (True ∧ True)) rfl ⟨trivial, trivial⟩ ?_
                  refine gv_pick [0, 1, 2, 3] rfl ?_
                  exact L365 I460 J461 (gs_X β N9 p_80) hI460 FI460 FJ461 KLK_I460 KPT_I460 (by exact gz_m 263 (by omega)) A478 (by obtain ⟨m, V9, hm, em, h9V⟩ := e6_80; exact ⟨m, by exact gz_m 264 (by omega), em.trans (by have y9 := (gs_h9_put (c := none) (gs_h9_kp h9V gr_LKs_rf gr_PTs_rf (fun j => rfl) (fun j => rfl) (fun j => rfl)) (by exact gz_m 265 (by omega)) rfl p439 (by rw [q439]; first | done | rfl) (by rw [q439]; exact Or.inl (by decide))); have y8 := (gs_ens_kp (gs_h9_put (c := none) (gs_h9_kp h9V gr_LKs_rf gr_PTs_rf (fun j => rfl) (fun j => rfl) (fun j => rfl)) (by exact gz_m 266 (by omega)) rfl p439 (by rw [q439]; first | done | rfl) (by rw [q439]; exact Or.inl (by decide))).2 (gr_LKs_fr gr_LKs_rf (fun k => g459 51 k rfl) (g459 0 59 rfl)) (gr_PTs_fr gr_PTs_rf (fun k => g459 35 k rfl) (g459 0 42 rfl)) (fun j => (g459 64 j rfl)) (fun j => (g459 65 j rfl)) (fun j => (g459 66 j rfl))); rw [y8.1, y9.1]; unfold gs_qcB gs_fxc gs_pf; rw [if_pos (by exact gz_m 267 (by omega)), if_pos (by exact gz_m 268 (by omega))])⟩) e7_80 (by obtain ⟨m, V9, hm, em, h9V⟩ := e6_80; exact (gs_ens_kp (gs_h9_put (c := none) (gs_h9_kp h9V gr_LKs_rf gr_PTs_rf (fun j => rfl) (fun j => rfl) (fun j => rfl)) (by exact gz_m 269 (by omega)) rfl p439 (by rw [q439]; first | done | rfl) (by rw [q439]; exact Or.inl (by decide))).2 (gr_LKs_fr gr_LKs_rf (fun k => g459 51 k rfl) (g459 0 59 rfl)) (gr_PTs_fr gr_PTs_rf (fun k => g459 35 k rfl) (g459 0 42 rfl)) (fun j => (g459 64 j rfl)) (fun j => (g459 65 j rfl)) (fun j => (g459 66 j rfl))).2) ⟨(fun k => (((g459 17 k rfl).trans (p439 17 k (fun q => absurd q.1 (by first | exact gz_ne rfl | decide)))).trans (e8_80.1 k))), (fun k => (((g459 31 k rfl).trans (p439 31 k (fun q => absurd q.1 (by first | exact gz_ne rfl | decide)))).trans (e8_80.2.1 k))), (fun k => (((g459 32 k rfl).trans (p439 32 k (fun q => absurd q.1 (by first | exact gz_ne rfl | decide)))).trans (e8_80.2.2.1 k))), (fun k => (((g459 33 k rfl).trans (p439 33 k (fun q => absurd q.1 (by first | exact gz_ne rfl | decide)))).trans (e8_80.2.2.2.1 k))), (fun k => (((g459 34 k rfl).trans (p439 34 k (fun q => absurd q.1 (by first | exact gz_ne rfl | decide)))).trans (e8_80.2.2.2.2.1 k))), (fun k => ((k459 23 k rfl).trans (e8_80.2.2.2.2.2 k)))⟩
              refine gv_run 2 true hD (pcₚ := 258) (lvₚ := [(0, .inr (.inr (some 0))), (1, .inl (I 0 6)), (2, .inr (.inl v2_11)), (4, .inl v4_35), (5, .inl v5_69)]) (stₚ := [.inl v4_35, .inl v5_69]) (hₚ := gr_h I57 J58) (C := ((True ∧ True) ∧ True)) rfl ⟨⟨trivial, trivial⟩, trivial⟩ ?_
              refine gv_icmp_ge (t := 281) hD rfl rfl ⟨⟨by exact gz_m 270 (by omega), by exact gz_m 271 (by omega)⟩, ⟨by exact gz_m 272 (by omega), by exact gz_m 273 (by omega)⟩⟩ (fun c480 => ?_) (fun c480 => ?_)
              · refine gv_run 2 true hD (pcₚ := 285) (lvₚ := [(0, .inr (.inr (some 0))), (1, .inl (I 0 6)), (2, .inr (.inl v2_11)), (4, .inl v4_35), (5, .inl v5_69)]) (stₚ := [.inl v4_35, .inl v5_69]) (hₚ := gr_h I57 J58) (C := ((True ∧ True) ∧ True)) rfl ⟨⟨trivial, trivial⟩, trivial⟩ ?_
                refine gv_icmp_ne (t := 291) hD rfl rfl ⟨⟨by exact gz_m 274 (by omega), by exact gz_m 275 (by omega)⟩, ⟨by exact gz_m 276 (by omega), by exact gz_m 277 (by omega)⟩⟩ (fun c481 => ?_) (fun c481 => ?_)
                · have f482 := (gr_b_0_106 hI57)
                  refine gv_run 5 true hD (pcₚ := 301) (lvₚ := [(0, .inr (.inr (some 0))), (1, .inl (I 0 6)), (2, .inr (.inl v2_11)), (4, .inl v4_35), (5, .inl v5_69)]) (stₚ := [.inl (I57 0 106), .inl v5_69, .inr (.inr (some 64))]) (hₚ := gr_h I57 J58) (C := (((((True ∧ True) ∧ True) ∧ True) ∧ True) ∧ True)) rfl ⟨⟨⟨⟨⟨trivial, trivial⟩, trivial⟩, trivial⟩, trivial⟩, trivial⟩ ?_
                  refine gv_run 1 true hD (pcₚ := 302) (lvₚ := [(0, .inr (.inr (some 0))), (1, .inl (I 0 6)), (2, .inr (.inl v2_11)), (4, .inl v4_35), (5, .inl v5_69)]) (stₚ := []) (hₚ := gz_up (gr_h I57 J58) 64 (Int.toNat v5_69) (.inl (I57 0 106))) (C := (True ∧ (0 ≤ v5_69 ∧ v5_69 < ((420 : Nat) : Int)))) rfl ⟨trivial, ⟨by exact gz_m 278 (by omega), by exact gz_m 279 (by omega)⟩⟩ ?_
                  refine gr_st hI57 FI57 rfl rfl ⟨⟨by show 0 ≤ _; exact gz_m 280 (by omega), by show _ ≤ 16777215; exact gz_m 281 (by omega)⟩, trivial⟩ (fun I483 hI483 FI483 q484 p484 => ?_)
                  have t485 := p484 0 71 (fun q => absurd q.1 (by first | exact gz_ne rfl | decide))
                  have t486 := p484 0 72 (fun q => absurd q.1 (by first | exact gz_ne rfl | decide))
                  have t487 := p484 0 73 (fun q => absurd q.1 (by first | exact gz_ne rfl | decide))
                  have t488 := p484 0 69 (fun q => absurd q.1 (by first | exact gz_ne rfl | decide))
                  have t489 := p484 0 6 (fun q => absurd q.1 (by first | exact gz_ne rfl | decide))
                  have t490 := p484 0 59 (fun q => absurd q.1 (by first | exact gz_ne rfl | decide))
                  have t491 := p484 0 42 (fun q => absurd q.1 (by first | exact gz_ne rfl | decide))
                  have t492 := p484 0 106 (fun q => absurd q.1 (by first | exact gz_ne rfl | decide))
                  have t493 := p484 17 (Int.toNat ((I 0 6))) (fun q => absurd q.1 (by first | exact gz_ne rfl | decide))
                  have t494 := p484 65 (Int.toNat v5_69) (fun q => absurd q.1 (by first | exact gz_ne rfl | decide))
                  have f495 := (gr_b_0_71 hI483)
                  have f496 := (gr_b_0_72 hI483)
                  have f497 := (gr_b_0_73 hI483)
                  have f498 := (gr_b_0_69 hI483)
                  have f499 := (gr_b_0_6 hI483)
                  have f500 := (gr_b_0_59 hI483)
                  have f501 := (gr_b_0_42 hI483)
                  have f502 := (gr_b_0_106 hI483)
                  have KLK_I483 := gr_LKs_fr KLK_I57 (fun k => p484 51 k (fun q => absurd q.1 (by first | exact gz_ne rfl | decide))) (p484 0 59 (fun q => absurd q.1 (by first | exact gz_ne rfl | decide)))
                  have KPT_I483 := gr_PTs_fr KPT_I57 (fun k => p484 35 k (fun q => absurd q.1 (by first | exact gz_ne rfl | decide))) (p484 0 42 (fun q => absurd q.1 (by first | exact gz_ne rfl | decide)))
                  have A503 := gr_ATp_sr e3_59 p484 rfl
                  have f504 := (gr_b_0_42 hI483)
                  refine gv_run 5 true hD (pcₚ := 312) (lvₚ := [(0, .inr (.inr (some 0))), (1, .inl (I 0 6)), (2, .inr (.inl v2_11)), (4, .inl v4_35), (5, .inl v5_69)]) (stₚ := [.inl (I483 0 42), .inl v5_69, .inr (.inr (some 65))]) (hₚ := gr_h I483 J58) (C := (((((True ∧ True) ∧ True) ∧ True) ∧ True) ∧ True)) rfl ⟨⟨⟨⟨⟨trivial, trivial⟩, trivial⟩, trivial⟩, trivial⟩, trivial⟩ ?_
                  refine gv_run 1 true hD (pcₚ := 313) (lvₚ := [(0, .inr (.inr (some 0))), (1, .inl (I 0 6)), (2, .inr (.inl v2_11)), (4, .inl v4_35), (5, .inl v5_69)]) (stₚ := []) (hₚ := gz_up (gr_h I483 J58) 65 (Int.toNat v5_69) (.inl (I483 0 42))) (C := (True ∧ (0 ≤ v5_69 ∧ v5_69 < ((420 : Nat) : Int)))) rfl ⟨trivial, ⟨by exact gz_m 282 (by omega), by exact gz_m 283 (by omega)⟩⟩ ?_
                  refine gr_st hI483 FI483 rfl rfl ⟨⟨by show 0 ≤ _; exact gz_m 284 (by omega), by show _ ≤ 2000; exact gz_m 285 (by omega)⟩, trivial⟩ (fun I505 hI505 FI505 q506 p506 => ?_)
                  have t507 := p506 0 71 (fun q => absurd q.1 (by first | exact gz_ne rfl | decide))
                  have t508 := p506 0 72 (fun q => absurd q.1 (by first | exact gz_ne rfl | decide))
                  have t509 := p506 0 73 (fun q => absurd q.1 (by first | exact gz_ne rfl | decide))
                  have t510 := p506 0 69 (fun q => absurd q.1 (by first | exact gz_ne rfl | decide))
                  have t511 := p506 0 6 (fun q => absurd q.1 (by first | exact gz_ne rfl | decide))
                  have t512 := p506 0 59 (fun q => absurd q.1 (by first | exact gz_ne rfl | decide))
                  have t513 := p506 0 42 (fun q => absurd q.1 (by first | exact gz_ne rfl | decide))
                  have t514 := p506 0 106 (fun q => absurd q.1 (by first | exact gz_ne rfl | decide))
                  have t515 := p506 17 (Int.toNat ((I 0 6))) (fun q => absurd q.1 (by first | exact gz_ne rfl | decide))
                  have f516 := (gr_b_0_71 hI505)
                  have f517 := (gr_b_0_72 hI505)
                  have f518 := (gr_b_0_73 hI505)
                  have f519 := (gr_b_0_69 hI505)
                  have f520 := (gr_b_0_6 hI505)
                  have f521 := (gr_b_0_59 hI505)
                  have f522 := (gr_b_0_42 hI505)
                  have f523 := (gr_b_0_106 hI505)
                  have KLK_I505 := gr_LKs_fr KLK_I483 (fun k => p506 51 k (fun q => absurd q.1 (by first | exact gz_ne rfl | decide))) (p506 0 59 (fun q => absurd q.1 (by first | exact gz_ne rfl | decide)))
                  have KPT_I505 := gr_PTs_fr KPT_I483 (fun k => p506 35 k (fun q => absurd q.1 (by first | exact gz_ne rfl | decide))) (p506 0 42 (fun q => absurd q.1 (by first | exact gz_ne rfl | decide)))
                  have A524 := gr_ATp_sr A503 p506 rfl
                  exact L313 I505 J58 v4_35 p_59 hI505 FI505 FJ58 KLK_I505 KPT_I505 (by exact gz_m 286 (by omega)) A524 (by obtain ⟨m, hm, em⟩ := e4_59; rw [show I505 64 (Int.toNat v5_69) = I57 0 106 from (p506 64 _ (fun q => absurd q.1 (by first | exact gz_ne rfl | decide))).trans q484]; exact ⟨m, _, by exact gz_m 287 (by omega), em, (gs_h9_mk (k := v5_69) (x := I57 0 106) e6_59 (gr_LKs_fr (gr_LKs_fr gr_LKs_rf (fun k => p484 51 k (fun q => absurd q.1 (by first | exact gz_ne rfl | decide))) (p484 0 59 (fun q => absurd q.1 (by first | exact gz_ne rfl | decide)))) (fun k => p506 51 k (fun q => absurd q.1 (by first | exact gz_ne rfl | decide))) (p506 0 59 (fun q => absurd q.1 (by first | exact gz_ne rfl | decide)))) (gr_PTs_fr (gr_PTs_fr gr_PTs_rf (fun k => p484 35 k (fun q => absurd q.1 (by first | exact gz_ne rfl | decide))) (p484 0 42 (fun q => absurd q.1 (by first | exact gz_ne rfl | decide)))) (fun k => p506 35 k (fun q => absurd q.1 (by first | exact gz_ne rfl | decide))) (p506 0 42 (fun q => absurd q.1 (by first | exact gz_ne rfl | decide)))) (by exact gz_m 288 (by omega)) e1_69 (Or.inl ⟨by exact gz_m 289 (by omega), by exact gz_m 290 (by omega), rfl⟩) rfl p484 q484 rfl p506)⟩) e5_59 ⟨(fun k => (((p506 17 k (fun q => absurd q.1 (by first | exact gz_ne rfl | decide))).trans (p484 17 k (fun q => absurd q.1 (by first | exact gz_ne rfl | decide)))).trans (e7_59.1 k))), (fun k => (((p506 31 k (fun q => absurd q.1 (by first | exact gz_ne rfl | decide))).trans (p484 31 k (fun q => absurd q.1 (by first | exact gz_ne rfl | decide)))).trans (e7_59.2.1 k))), (fun k => (((p506 32 k (fun q => absurd q.1 (by first | exact gz_ne rfl | decide))).trans (p484 32 k (fun q => absurd q.1 (by first | exact gz_ne rfl | decide)))).trans (e7_59.2.2.1 k))), (fun k => (((p506 33 k (fun q => absurd q.1 (by first | exact gz_ne rfl | decide))).trans (p484 33 k (fun q => absurd q.1 (by first | exact gz_ne rfl | decide)))).trans (e7_59.2.2.2.1 k))), (fun k => (((p506 34 k (fun q => absurd q.1 (by first | exact gz_ne rfl | decide))).trans (p484 34 k (fun q => absurd q.1 (by first | exact gz_ne rfl | decide)))).trans (e7_59.2.2.2.2.1 k))), (fun k => (e7_59.2.2.2.2.2 k))⟩
                · have f525 := (gr_b_0_106 hI57)
                  refine gv_run 6 true hD (pcₚ := 301) (lvₚ := [(4, .inl (v4_35 + 1)), (0, .inr (.inr (some 0))), (1, .inl (I 0 6)), (2, .inr (.inl v2_11)), (5, .inl v5_69)]) (stₚ := [.inl (I57 0 106), .inl v5_69, .inr (.inr (some 64))]) (hₚ := gr_h I57 J58) (C := ((((((True ∧ True) ∧ True) ∧ True) ∧ True) ∧ True) ∧ True)) rfl ⟨⟨⟨⟨⟨⟨trivial, trivial⟩, trivial⟩, trivial⟩, trivial⟩, trivial⟩, trivial⟩ ?_
                  refine gv_run 1 true hD (pcₚ := 302) (lvₚ := [(4, .inl (v4_35 + 1)), (0, .inr (.inr (some 0))), (1, .inl (I 0 6)), (2, .inr (.inl v2_11)), (5, .inl v5_69)]) (stₚ := []) (hₚ := gz_up (gr_h I57 J58) 64 (Int.toNat v5_69) (.inl (I57 0 106))) (C := (True ∧ (0 ≤ v5_69 ∧ v5_69 < ((420 : Nat) : Int)))) rfl ⟨trivial, ⟨by exact gz_m 291 (by omega), by exact gz_m 292 (by omega)⟩⟩ ?_
                  refine gr_st hI57 FI57 rfl rfl ⟨⟨by show 0 ≤ _; exact gz_m 293 (by omega), by show _ ≤ 16777215; exact gz_m 294 (by omega)⟩, trivial⟩ (fun I526 hI526 FI526 q527 p527 => ?_)
                  have t528 := p527 0 71 (fun q => absurd q.1 (by first | exact gz_ne rfl | decide))
                  have t529 := p527 0 72 (fun q => absurd q.1 (by first | exact gz_ne rfl | decide))
                  have t530 := p527 0 73 (fun q => absurd q.1 (by first | exact gz_ne rfl | decide))
                  have t531 := p527 0 69 (fun q => absurd q.1 (by first | exact gz_ne rfl | decide))
                  have t532 := p527 0 6 (fun q => absurd q.1 (by first | exact gz_ne rfl | decide))
                  have t533 := p527 0 59 (fun q => absurd q.1 (by first | exact gz_ne rfl | decide))
                  have t534 := p527 0 42 (fun q => absurd q.1 (by first | exact gz_ne rfl | decide))
                  have t535 := p527 0 106 (fun q => absurd q.1 (by first | exact gz_ne rfl | decide))
                  have t536 := p527 17 (Int.toNat ((I 0 6))) (fun q => absurd q.1 (by first | exact gz_ne rfl | decide))
                  have t537 := p527 65 (Int.toNat v5_69) (fun q => absurd q.1 (by first | exact gz_ne rfl | decide))
                  have f538 := (gr_b_0_71 hI526)
                  have f539 := (gr_b_0_72 hI526)
                  have f540 := (gr_b_0_73 hI526)
                  have f541 := (gr_b_0_69 hI526)
                  have f542 := (gr_b_0_6 hI526)
                  have f543 := (gr_b_0_59 hI526)
                  have f544 := (gr_b_0_42 hI526)
                  have f545 := (gr_b_0_106 hI526)
                  have KLK_I526 := gr_LKs_fr KLK_I57 (fun k => p527 51 k (fun q => absurd q.1 (by first | exact gz_ne rfl | decide))) (p527 0 59 (fun q => absurd q.1 (by first | exact gz_ne rfl | decide)))
                  have KPT_I526 := gr_PTs_fr KPT_I57 (fun k => p527 35 k (fun q => absurd q.1 (by first | exact gz_ne rfl | decide))) (p527 0 42 (fun q => absurd q.1 (by first | exact gz_ne rfl | decide)))
                  have A546 := gr_ATp_sr e3_59 p527 rfl
                  have f547 := (gr_b_0_42 hI526)
                  refine gv_run 5 true hD (pcₚ := 312) (lvₚ := [(4, .inl (v4_35 + 1)), (0, .inr (.inr (some 0))), (1, .inl (I 0 6)), (2, .inr (.inl v2_11)), (5, .inl v5_69)]) (stₚ := [.inl (I526 0 42), .inl v5_69, .inr (.inr (some 65))]) (hₚ := gr_h I526 J58) (C := (((((True ∧ True) ∧ True) ∧ True) ∧ True) ∧ True)) rfl ⟨⟨⟨⟨⟨trivial, trivial⟩, trivial⟩, trivial⟩, trivial⟩, trivial⟩ ?_
                  refine gv_run 1 true hD (pcₚ := 313) (lvₚ := [(4, .inl (v4_35 + 1)), (0, .inr (.inr (some 0))), (1, .inl (I 0 6)), (2, .inr (.inl v2_11)), (5, .inl v5_69)]) (stₚ := []) (hₚ := gz_up (gr_h I526 J58) 65 (Int.toNat v5_69) (.inl (I526 0 42))) (C := (True ∧ (0 ≤ v5_69 ∧ v5_69 < ((420 : Nat) : Int)))) rfl ⟨trivial, ⟨by exact gz_m 295 (by omega), by exact gz_m 296 (by omega)⟩⟩ ?_
                  refine gr_st hI526 FI526 rfl rfl ⟨⟨by show 0 ≤ _; exact gz_m 297 (by omega), by show _ ≤ 2000; exact gz_m 298 (by omega)⟩, trivial⟩ (fun I548 hI548 FI548 q549 p549 => ?_)
                  have t550 := p549 0 71 (fun q => absurd q.1 (by first | exact gz_ne rfl | decide))
                  have t551 := p549 0 72 (fun q => absurd q.1 (by first | exact gz_ne rfl | decide))
                  have t552 := p549 0 73 (fun q => absurd q.1 (by first | exact gz_ne rfl | decide))
                  have t553 := p549 0 69 (fun q => absurd q.1 (by first | exact gz_ne rfl | decide))
                  have t554 := p549 0 6 (fun q => absurd q.1 (by first | exact gz_ne rfl | decide))
                  have t555 := p549 0 59 (fun q => absurd q.1 (by first | exact gz_ne rfl | decide))
                  have t556 := p549 0 42 (fun q => absurd q.1 (by first | exact gz_ne rfl | decide))
                  have t557 := p549 0 106 (fun q => absurd q.1 (by first | exact gz_ne rfl | decide))
                  have t558 := p549 17 (Int.toNat ((I 0 6))) (fun q => absurd q.1 (by first | exact gz_ne rfl | decide))
                  have f559 := (gr_b_0_71 hI548)
                  have f560 := (gr_b_0_72 hI548)
                  have f561 := (gr_b_0_73 hI548)
                  have f562 := (gr_b_0_69 hI548)
                  have f563 := (gr_b_0_6 hI548)
                  have f564 := (gr_b_0_59 hI548)
                  have f565 := (gr_b_0_42 hI548)
                  have f566 := (gr_b_0_106 hI548)
                  have KLK_I548 := gr_LKs_fr KLK_I526 (fun k => p549 51 k (fun q => absurd q.1 (by first | exact gz_ne rfl | decide))) (p549 0 59 (fun q => absurd q.1 (by first | exact gz_ne rfl | decide)))
                  have KPT_I548 := gr_PTs_fr KPT_I526 (fun k => p549 35 k (fun q => absurd q.1 (by first | exact gz_ne rfl | decide))) (p549 0 42 (fun q => absurd q.1 (by first | exact gz_ne rfl | decide)))
                  have A567 := gr_ATp_sr A546 p549 rfl
                  refine gv_pick [1, 2, 3, 0, 4] rfl ?_
                  exact L313 I548 J58 (v4_35 + 1) p_59 hI548 FI548 FJ58 KLK_I548 KPT_I548 (by exact gz_m 299 (by omega)) A567 (by obtain ⟨m, hm, em⟩ := e4_59; rw [show I548 64 (Int.toNat v5_69) = I57 0 106 from (p549 64 _ (fun q => absurd q.1 (by first | exact gz_ne rfl | decide))).trans q527]; exact ⟨m, _, by exact gz_m 300 (by omega), em, (gs_h9_mk (k := v5_69) (x := I57 0 106) e6_59 (gr_LKs_fr (gr_LKs_fr gr_LKs_rf (fun k => p527 51 k (fun q => absurd q.1 (by first | exact gz_ne rfl | decide))) (p527 0 59 (fun q => absurd q.1 (by first | exact gz_ne rfl | decide)))) (fun k => p549 51 k (fun q => absurd q.1 (by first | exact gz_ne rfl | decide))) (p549 0 59 (fun q => absurd q.1 (by first | exact gz_ne rfl | decide)))) (gr_PTs_fr (gr_PTs_fr gr_PTs_rf (fun k => p527 35 k (fun q => absurd q.1 (by first | exact gz_ne rfl | decide))) (p527 0 42 (fun q => absurd q.1 (by first | exact gz_ne rfl | decide)))) (fun k => p549 35 k (fun q => absurd q.1 (by first | exact gz_ne rfl | decide))) (p549 0 42 (fun q => absurd q.1 (by first | exact gz_ne rfl | decide)))) (by exact gz_m 301 (by omega)) e1_69 (Or.inr ⟨by exact gz_m 302 (by omega), by exact gz_m 303 (by omega)⟩) rfl p527 q527 rfl p549)⟩) e5_59 ⟨(fun k => (((p549 17 k (fun q => absurd q.1 (by first | exact gz_ne rfl | decide))).trans (p527 17 k (fun q => absurd q.1 (by first | exact gz_ne rfl | decide)))).trans (e7_59.1 k))), (fun k => (((p549 31 k (fun q => absurd q.1 (by first | exact gz_ne rfl | decide))).trans (p527 31 k (fun q => absurd q.1 (by first | exact gz_ne rfl | decide)))).trans (e7_59.2.1 k))), (fun k => (((p549 32 k (fun q => absurd q.1 (by first | exact gz_ne rfl | decide))).trans (p527 32 k (fun q => absurd q.1 (by first | exact gz_ne rfl | decide)))).trans (e7_59.2.2.1 k))), (fun k => (((p549 33 k (fun q => absurd q.1 (by first | exact gz_ne rfl | decide))).trans (p527 33 k (fun q => absurd q.1 (by first | exact gz_ne rfl | decide)))).trans (e7_59.2.2.2.1 k))), (fun k => (((p549 34 k (fun q => absurd q.1 (by first | exact gz_ne rfl | decide))).trans (p527 34 k (fun q => absurd q.1 (by first | exact gz_ne rfl | decide)))).trans (e7_59.2.2.2.2.1 k))), (fun k => (e7_59.2.2.2.2.2 k))⟩
              · have f568 := (gr_b_64 hI57 (Int.toNat v5_69))
                refine gv_run 4 true hD (pcₚ := 268) (lvₚ := [(0, .inr (.inr (some 0))), (1, .inl (I 0 6)), (2, .inr (.inl v2_11)), (4, .inl v4_35), (5, .inl v5_69)]) (stₚ := [.inl (I57 64 (Int.toNat v5_69))]) (hₚ := gr_h I57 J58) (C := ((((True ∧ True) ∧ True) ∧ True) ∧ (0 ≤ v5_69 ∧ v5_69 < ((420 : Nat) : Int)))) rfl ⟨⟨⟨⟨trivial, trivial⟩, trivial⟩, trivial⟩, ⟨by exact gz_m 304 (by omega), by exact gz_m 305 (by omega)⟩⟩ ?_
                have f569 := (gr_b_0_106 hI57)
                refine gv_run 2 true hD (pcₚ := 272) (lvₚ := [(0, .inr (.inr (some 0))), (1, .inl (I 0 6)), (2, .inr (.inl v2_11)), (4, .inl v4_35), (5, .inl v5_69)]) (stₚ := [.inl (I57 0 106), .inl (I57 64 (Int.toNat v5_69))]) (hₚ := gr_h I57 J58) (C := ((True ∧ True) ∧ True)) rfl ⟨⟨trivial, trivial⟩, trivial⟩ ?_
                refine gv_icmp_eq (t := 281) hD rfl rfl ⟨⟨by exact gz_m 306 (by omega), by exact gz_m 307 (by omega)⟩, ⟨by exact gz_m 308 (by omega), by exact gz_m 309 (by omega)⟩⟩ (fun c570 => ?_) (fun c570 => ?_)
                · refine gv_run 2 true hD (pcₚ := 285) (lvₚ := [(0, .inr (.inr (some 0))), (1, .inl (I 0 6)), (2, .inr (.inl v2_11)), (4, .inl v4_35), (5, .inl v5_69)]) (stₚ := [.inl v4_35, .inl v5_69]) (hₚ := gr_h I57 J58) (C := ((True ∧ True) ∧ True)) rfl ⟨⟨trivial, trivial⟩, trivial⟩ ?_
                  refine gv_icmp_ne (t := 291) hD rfl rfl ⟨⟨by exact gz_m 310 (by omega), by exact gz_m 311 (by omega)⟩, ⟨by exact gz_m 312 (by omega), by exact gz_m 313 (by omega)⟩⟩ (fun c571 => ?_) (fun c571 => ?_)
                  · have f572 := (gr_b_0_106 hI57)
                    refine gv_run 5 true hD (pcₚ := 301) (lvₚ := [(0, .inr (.inr (some 0))), (1, .inl (I 0 6)), (2, .inr (.inl v2_11)), (4, .inl v4_35), (5, .inl v5_69)]) (stₚ := [.inl (I57 0 106), .inl v5_69, .inr (.inr (some 64))]) (hₚ := gr_h I57 J58) (C := (((((True ∧ True) ∧ True) ∧ True) ∧ True) ∧ True)) rfl ⟨⟨⟨⟨⟨trivial, trivial⟩, trivial⟩, trivial⟩, trivial⟩, trivial⟩ ?_
                    refine gv_run 1 true hD (pcₚ := 302) (lvₚ := [(0, .inr (.inr (some 0))), (1, .inl (I 0 6)), (2, .inr (.inl v2_11)), (4, .inl v4_35), (5, .inl v5_69)]) (stₚ := []) (hₚ := gz_up (gr_h I57 J58) 64 (Int.toNat v5_69) (.inl (I57 0 106))) (C := (True ∧ (0 ≤ v5_69 ∧ v5_69 < ((420 : Nat) : Int)))) rfl ⟨trivial, ⟨by exact gz_m 314 (by omega), by exact gz_m 315 (by omega)⟩⟩ ?_
                    refine gr_st hI57 FI57 rfl rfl ⟨⟨by show 0 ≤ _; exact gz_m 316 (by omega), by show _ ≤ 16777215; exact gz_m 317 (by omega)⟩, trivial⟩ (fun I573 hI573 FI573 q574 p574 => ?_)
                    have t575 := p574 0 71 (fun q => absurd q.1 (by first | exact gz_ne rfl | decide))
                    have t576 := p574 0 72 (fun q => absurd q.1 (by first | exact gz_ne rfl | decide))
                    have t577 := p574 0 73 (fun q => absurd q.1 (by first | exact gz_ne rfl | decide))
                    have t578 := p574 0 69 (fun q => absurd q.1 (by first | exact gz_ne rfl | decide))
                    have t579 := p574 0 6 (fun q => absurd q.1 (by first | exact gz_ne rfl | decide))
                    have t580 := p574 0 59 (fun q => absurd q.1 (by first | exact gz_ne rfl | decide))
                    have t581 := p574 0 42 (fun q => absurd q.1 (by first | exact gz_ne rfl | decide))
                    have t582 := p574 0 106 (fun q => absurd q.1 (by first | exact gz_ne rfl | decide))
                    have t583 := p574 17 (Int.toNat ((I 0 6))) (fun q => absurd q.1 (by first | exact gz_ne rfl | decide))
                    have t584 := p574 65 (Int.toNat v5_69) (fun q => absurd q.1 (by first | exact gz_ne rfl | decide))
                    have f585 := (gr_b_0_71 hI573)
                    have f586 := (gr_b_0_72 hI573)
                    have f587 := (gr_b_0_73 hI573)
                    have f588 := (gr_b_0_69 hI573)
                    have f589 := (gr_b_0_6 hI573)
                    have f590 := (gr_b_0_59 hI573)
                    have f591 := (gr_b_0_42 hI573)
                    have f592 := (gr_b_0_106 hI573)
                    have KLK_I573 := gr_LKs_fr KLK_I57 (fun k => p574 51 k (fun q => absurd q.1 (by first | exact gz_ne rfl | decide))) (p574 0 59 (fun q => absurd q.1 (by first | exact gz_ne rfl | decide)))
                    have KPT_I573 := gr_PTs_fr KPT_I57 (fun k => p574 35 k (fun q => absurd q.1 (by first | exact gz_ne rfl | decide))) (p574 0 42 (fun q => absurd q.1 (by first | exact gz_ne rfl | decide)))
                    have A593 := gr_ATp_sr e3_59 p574 rfl
                    have f594 := (gr_b_0_42 hI573)
                    refine gv_run 5 true hD (pcₚ := 312) (lvₚ := [(0, .inr (.inr (some 0))), (1, .inl (I 0 6)), (2, .inr (.inl v2_11)), (4, .inl v4_35), (5, .inl v5_69)]) (stₚ := [.inl (I573 0 42), .inl v5_69, .inr (.inr (some 65))]) (hₚ := gr_h I573 J58) (C := (((((True ∧ True) ∧ True) ∧ True) ∧ True) ∧ True)) rfl ⟨⟨⟨⟨⟨trivial, trivial⟩, trivial⟩, trivial⟩, trivial⟩, trivial⟩ ?_
                    refine gv_run 1 true hD (pcₚ := 313) (lvₚ := [(0, .inr (.inr (some 0))), (1, .inl (I 0 6)), (2, .inr (.inl v2_11)), (4, .inl v4_35), (5, .inl v5_69)]) (stₚ := []) (hₚ := gz_up (gr_h I573 J58) 65 (Int.toNat v5_69) (.inl (I573 0 42))) (C := (True ∧ (0 ≤ v5_69 ∧ v5_69 < ((420 : Nat) : Int)))) rfl ⟨trivial, ⟨by exact gz_m 318 (by omega), by exact gz_m 319 (by omega)⟩⟩ ?_
                    refine gr_st hI573 FI573 rfl rfl ⟨⟨by show 0 ≤ _; exact gz_m 320 (by omega), by show _ ≤ 2000; exact gz_m 321 (by omega)⟩, trivial⟩ (fun I595 hI595 FI595 q596 p596 => ?_)
                    have t597 := p596 0 71 (fun q => absurd q.1 (by first | exact gz_ne rfl | decide))
                    have t598 := p596 0 72 (fun q => absurd q.1 (by first | exact gz_ne rfl | decide))
                    have t599 := p596 0 73 (fun q => absurd q.1 (by first | exact gz_ne rfl | decide))
                    have t600 := p596 0 69 (fun q => absurd q.1 (by first | exact gz_ne rfl | decide))
                    have t601 := p596 0 6 (fun q => absurd q.1 (by first | exact gz_ne rfl | decide))
                    have t602 := p596 0 59 (fun q => absurd q.1 (by first | exact gz_ne rfl | decide))
                    have t603 := p596 0 42 (fun q => absurd q.1 (by first | exact gz_ne rfl | decide))
                    have t604 := p596 0 106 (fun q => absurd q.1 (by first | exact gz_ne rfl | decide))
                    have t605 := p596 17 (Int.toNat ((I 0 6))) (fun q => absurd q.1 (by first | exact gz_ne rfl | decide))
                    have f606 := (gr_b_0_71 hI595)
                    have f607 := (gr_b_0_72 hI595)
                    have f608 := (gr_b_0_73 hI595)
                    have f609 := (gr_b_0_69 hI595)
                    have f610 := (gr_b_0_6 hI595)
                    have f611 := (gr_b_0_59 hI595)
                    have f612 := (gr_b_0_42 hI595)
                    have f613 := (gr_b_0_106 hI595)
                    have KLK_I595 := gr_LKs_fr KLK_I573 (fun k => p596 51 k (fun q => absurd q.1 (by first | exact gz_ne rfl | decide))) (p596 0 59 (fun q => absurd q.1 (by first | exact gz_ne rfl | decide)))
                    have KPT_I595 := gr_PTs_fr KPT_I573 (fun k => p596 35 k (fun q => absurd q.1 (by first | exact gz_ne rfl | decide))) (p596 0 42 (fun q => absurd q.1 (by first | exact gz_ne rfl | decide)))
                    have A614 := gr_ATp_sr A593 p596 rfl
                    exact L313 I595 J58 v4_35 p_59 hI595 FI595 FJ58 KLK_I595 KPT_I595 (by exact gz_m 322 (by omega)) A614 (by obtain ⟨m, hm, em⟩ := e4_59; rw [show I595 64 (Int.toNat v5_69) = I57 0 106 from (p596 64 _ (fun q => absurd q.1 (by first | exact gz_ne rfl | decide))).trans q574]; exact ⟨m, _, by exact gz_m 323 (by omega), em, (gs_h9_mk (k := v5_69) (x := I57 0 106) e6_59 (gr_LKs_fr (gr_LKs_fr gr_LKs_rf (fun k => p574 51 k (fun q => absurd q.1 (by first | exact gz_ne rfl | decide))) (p574 0 59 (fun q => absurd q.1 (by first | exact gz_ne rfl | decide)))) (fun k => p596 51 k (fun q => absurd q.1 (by first | exact gz_ne rfl | decide))) (p596 0 59 (fun q => absurd q.1 (by first | exact gz_ne rfl | decide)))) (gr_PTs_fr (gr_PTs_fr gr_PTs_rf (fun k => p574 35 k (fun q => absurd q.1 (by first | exact gz_ne rfl | decide))) (p574 0 42 (fun q => absurd q.1 (by first | exact gz_ne rfl | decide)))) (fun k => p596 35 k (fun q => absurd q.1 (by first | exact gz_ne rfl | decide))) (p596 0 42 (fun q => absurd q.1 (by first | exact gz_ne rfl | decide)))) (by exact gz_m 324 (by omega)) e1_69 (Or.inl ⟨by exact gz_m 325 (by omega), by exact gz_m 326 (by omega), rfl⟩) rfl p574 q574 rfl p596)⟩) e5_59 ⟨(fun k => (((p596 17 k (fun q => absurd q.1 (by first | exact gz_ne rfl | decide))).trans (p574 17 k (fun q => absurd q.1 (by first | exact gz_ne rfl | decide)))).trans (e7_59.1 k))), (fun k => (((p596 31 k (fun q => absurd q.1 (by first | exact gz_ne rfl | decide))).trans (p574 31 k (fun q => absurd q.1 (by first | exact gz_ne rfl | decide)))).trans (e7_59.2.1 k))), (fun k => (((p596 32 k (fun q => absurd q.1 (by first | exact gz_ne rfl | decide))).trans (p574 32 k (fun q => absurd q.1 (by first | exact gz_ne rfl | decide)))).trans (e7_59.2.2.1 k))), (fun k => (((p596 33 k (fun q => absurd q.1 (by first | exact gz_ne rfl | decide))).trans (p574 33 k (fun q => absurd q.1 (by first | exact gz_ne rfl | decide)))).trans (e7_59.2.2.2.1 k))), (fun k => (((p596 34 k (fun q => absurd q.1 (by first | exact gz_ne rfl | decide))).trans (p574 34 k (fun q => absurd q.1 (by first | exact gz_ne rfl | decide)))).trans (e7_59.2.2.2.2.1 k))), (fun k => (e7_59.2.2.2.2.2 k))⟩
                  · have f615 := (gr_b_0_106 hI57)
                    refine gv_run 6 true hD (pcₚ := 301) (lvₚ := [(4, .inl (v4_35 + 1)), (0, .inr (.inr (some 0))), (1, .inl (I 0 6)), (2, .inr (.inl v2_11)), (5, .inl v5_69)]) (stₚ := [.inl (I57 0 106), .inl v5_69, .inr (.inr (some 64))]) (hₚ := gr_h I57 J58) (C := ((((((True ∧ True) ∧ True) ∧ True) ∧ True) ∧ True) ∧ True)) rfl ⟨⟨⟨⟨⟨⟨trivial, trivial⟩, trivial⟩, trivial⟩, trivial⟩, trivial⟩, trivial⟩ ?_
                    refine gv_run 1 true hD (pcₚ := 302) (lvₚ := [(4, .inl (v4_35 + 1)), (0, .inr (.inr (some 0))), (1, .inl (I 0 6)), (2, .inr (.inl v2_11)), (5, .inl v5_69)]) (stₚ := []) (hₚ := gz_up (gr_h I57 J58) 64 (Int.toNat v5_69) (.inl (I57 0 106))) (C := (True ∧ (0 ≤ v5_69 ∧ v5_69 < ((420 : Nat) : Int)))) rfl ⟨trivial, ⟨by exact gz_m 327 (by omega), by exact gz_m 328 (by omega)⟩⟩ ?_
                    refine gr_st hI57 FI57 rfl rfl ⟨⟨by show 0 ≤ _; exact gz_m 329 (by omega), by show _ ≤ 16777215; exact gz_m 330 (by omega)⟩, trivial⟩ (fun I616 hI616 FI616 q617 p617 => ?_)
                    have t618 := p617 0 71 (fun q => absurd q.1 (by first | exact gz_ne rfl | decide))
                    have t619 := p617 0 72 (fun q => absurd q.1 (by first | exact gz_ne rfl | decide))
                    have t620 := p617 0 73 (fun q => absurd q.1 (by first | exact gz_ne rfl | decide))
                    have t621 := p617 0 69 (fun q => absurd q.1 (by first | exact gz_ne rfl | decide))
                    have t622 := p617 0 6 (fun q => absurd q.1 (by first | exact gz_ne rfl | decide))
                    have t623 := p617 0 59 (fun q => absurd q.1 (by first | exact gz_ne rfl | decide))
                    have t624 := p617 0 42 (fun q => absurd q.1 (by first | exact gz_ne rfl | decide))
                    have t625 := p617 0 106 (fun q => absurd q.1 (by first | exact gz_ne rfl | decide))
                    have t626 := p617 17 (Int.toNat ((I 0 6))) (fun q => absurd q.1 (by first | exact gz_ne rfl | decide))
                    have t627 := p617 65 (Int.toNat v5_69) (fun q => absurd q.1 (by first | exact gz_ne rfl | decide))
                    have f628 := (gr_b_0_71 hI616)
                    have f629 := (gr_b_0_72 hI616)
                    have f630 := (gr_b_0_73 hI616)
                    have f631 := (gr_b_0_69 hI616)
                    have f632 := (gr_b_0_6 hI616)
                    have f633 := (gr_b_0_59 hI616)
                    have f634 := (gr_b_0_42 hI616)
                    have f635 := (gr_b_0_106 hI616)
                    have KLK_I616 := gr_LKs_fr KLK_I57 (fun k => p617 51 k (fun q => absurd q.1 (by first | exact gz_ne rfl | decide))) (p617 0 59 (fun q => absurd q.1 (by first | exact gz_ne rfl | decide)))
                    have KPT_I616 := gr_PTs_fr KPT_I57 (fun k => p617 35 k (fun q => absurd q.1 (by first | exact gz_ne rfl | decide))) (p617 0 42 (fun q => absurd q.1 (by first | exact gz_ne rfl | decide)))
                    have A636 := gr_ATp_sr e3_59 p617 rfl
                    have f637 := (gr_b_0_42 hI616)
                    refine gv_run 5 true hD (pcₚ := 312) (lvₚ := [(4, .inl (v4_35 + 1)), (0, .inr (.inr (some 0))), (1, .inl (I 0 6)), (2, .inr (.inl v2_11)), (5, .inl v5_69)]) (stₚ := [.inl (I616 0 42), .inl v5_69, .inr (.inr (some 65))]) (hₚ := gr_h I616 J58) (C := (((((True ∧ True) ∧ True) ∧ True) ∧ True) ∧ True)) rfl ⟨⟨⟨⟨⟨trivial, trivial⟩, trivial⟩, trivial⟩, trivial⟩, trivial⟩ ?_
                    refine gv_run 1 true hD (pcₚ := 313) (lvₚ := [(4, .inl (v4_35 + 1)), (0, .inr (.inr (some 0))), (1, .inl (I 0 6)), (2, .inr (.inl v2_11)), (5, .inl v5_69)]) (stₚ := []) (hₚ := gz_up (gr_h I616 J58) 65 (Int.toNat v5_69) (.inl (I616 0 42))) (C := (True ∧ (0 ≤ v5_69 ∧ v5_69 < ((420 : Nat) : Int)))) rfl ⟨trivial, ⟨by exact gz_m 331 (by omega), by exact gz_m 332 (by omega)⟩⟩ ?_
                    refine gr_st hI616 FI616 rfl rfl ⟨⟨by show 0 ≤ _; exact gz_m 333 (by omega), by show _ ≤ 2000; exact gz_m 334 (by omega)⟩, trivial⟩ (fun I638 hI638 FI638 q639 p639 => ?_)
                    have t640 := p639 0 71 (fun q => absurd q.1 (by first | exact gz_ne rfl | decide))
                    have t641 := p639 0 72 (fun q => absurd q.1 (by first | exact gz_ne rfl | decide))
                    have t642 := p639 0 73 (fun q => absurd q.1 (by first | exact gz_ne rfl | decide))
                    have t643 := p639 0 69 (fun q => absurd q.1 (by first | exact gz_ne rfl | decide))
                    have t644 := p639 0 6 (fun q => absurd q.1 (by first | exact gz_ne rfl | decide))
                    have t645 := p639 0 59 (fun q => absurd q.1 (by first | exact gz_ne rfl | decide))
                    have t646 := p639 0 42 (fun q => absurd q.1 (by first | exact gz_ne rfl | decide))
                    have t647 := p639 0 106 (fun q => absurd q.1 (by first | exact gz_ne rfl | decide))
                    have t648 := p639 17 (Int.toNat ((I 0 6))) (fun q => absurd q.1 (by first | exact gz_ne rfl | decide))
                    have f649 := (gr_b_0_71 hI638)
                    have f650 := (gr_b_0_72 hI638)
                    have f651 := (gr_b_0_73 hI638)
                    have f652 := (gr_b_0_69 hI638)
                    have f653 := (gr_b_0_6 hI638)
                    have f654 := (gr_b_0_59 hI638)
                    have f655 := (gr_b_0_42 hI638)
                    have f656 := (gr_b_0_106 hI638)
                    have KLK_I638 := gr_LKs_fr KLK_I616 (fun k => p639 51 k (fun q => absurd q.1 (by first | exact gz_ne rfl | decide))) (p639 0 59 (fun q => absurd q.1 (by first | exact gz_ne rfl | decide)))
                    have KPT_I638 := gr_PTs_fr KPT_I616 (fun k => p639 35 k (fun q => absurd q.1 (by first | exact gz_ne rfl | decide))) (p639 0 42 (fun q => absurd q.1 (by first | exact gz_ne rfl | decide)))
                    have A657 := gr_ATp_sr A636 p639 rfl
                    refine gv_pick [1, 2, 3, 0, 4] rfl ?_
                    exact L313 I638 J58 (v4_35 + 1) p_59 hI638 FI638 FJ58 KLK_I638 KPT_I638 (by exact gz_m 335 (by omega)) A657 (by obtain ⟨m, hm, em⟩ := e4_59; rw [show I638 64 (Int.toNat v5_69) = I57 0 106 from (p639 64 _ (fun q => absurd q.1 (by first | exact gz_ne rfl | decide))).trans q617]; exact ⟨m, _, by exact gz_m 336 (by omega), em, (gs_h9_mk (k := v5_69) (x := I57 0 106) e6_59 (gr_LKs_fr (gr_LKs_fr gr_LKs_rf (fun k => p617 51 k (fun q => absurd q.1 (by first | exact gz_ne rfl | decide))) (p617 0 59 (fun q => absurd q.1 (by first | exact gz_ne rfl | decide)))) (fun k => p639 51 k (fun q => absurd q.1 (by first | exact gz_ne rfl | decide))) (p639 0 59 (fun q => absurd q.1 (by first | exact gz_ne rfl | decide)))) (gr_PTs_fr (gr_PTs_fr gr_PTs_rf (fun k => p617 35 k (fun q => absurd q.1 (by first | exact gz_ne rfl | decide))) (p617 0 42 (fun q => absurd q.1 (by first | exact gz_ne rfl | decide)))) (fun k => p639 35 k (fun q => absurd q.1 (by first | exact gz_ne rfl | decide))) (p639 0 42 (fun q => absurd q.1 (by first | exact gz_ne rfl | decide)))) (by exact gz_m 337 (by omega)) e1_69 (Or.inr ⟨by exact gz_m 338 (by omega), by exact gz_m 339 (by omega)⟩) rfl p617 q617 rfl p639)⟩) e5_59 ⟨(fun k => (((p639 17 k (fun q => absurd q.1 (by first | exact gz_ne rfl | decide))).trans (p617 17 k (fun q => absurd q.1 (by first | exact gz_ne rfl | decide)))).trans (e7_59.1 k))), (fun k => (((p639 31 k (fun q => absurd q.1 (by first | exact gz_ne rfl | decide))).trans (p617 31 k (fun q => absurd q.1 (by first | exact gz_ne rfl | decide)))).trans (e7_59.2.1 k))), (fun k => (((p639 32 k (fun q => absurd q.1 (by first | exact gz_ne rfl | decide))).trans (p617 32 k (fun q => absurd q.1 (by first | exact gz_ne rfl | decide)))).trans (e7_59.2.2.1 k))), (fun k => (((p639 33 k (fun q => absurd q.1 (by first | exact gz_ne rfl | decide))).trans (p617 33 k (fun q => absurd q.1 (by first | exact gz_ne rfl | decide)))).trans (e7_59.2.2.2.1 k))), (fun k => (((p639 34 k (fun q => absurd q.1 (by first | exact gz_ne rfl | decide))).trans (p617 34 k (fun q => absurd q.1 (by first | exact gz_ne rfl | decide)))).trans (e7_59.2.2.2.2.1 k))), (fun k => (e7_59.2.2.2.2.2 k))⟩
                · refine gv_run 2 true hD (pcₚ := 254) (lvₚ := [(5, .inl (v5_69 + 1)), (0, .inr (.inr (some 0))), (1, .inl (I 0 6)), (2, .inr (.inl v2_11)), (4, .inl v4_35)]) (stₚ := []) (hₚ := gr_h I57 J58) (C := ((True ∧ True) ∧ True)) rfl ⟨⟨trivial, trivial⟩, trivial⟩ ?_
                  refine gv_pick [1, 2, 3, 4, 0] rfl ?_
                  exact ih254 (v5_69 + 1) (by exact gz_m 340 (by omega)) (by exact gz_m 341 (by omega)) (fun j hj => by by_cases c : j = Int.toNat v5_69; (rw [c]; exact gz_m 342 (by omega)); exact e1_69 j (by exact gz_m 343 (by omega)))
          refine gv_run 2 true hD (pcₚ := 254) (lvₚ := [(5, .inl 0), (0, .inr (.inr (some 0))), (1, .inl (I 0 6)), (2, .inr (.inl v2_11)), (4, .inl v4_35)]) (stₚ := []) (hₚ := gr_h I57 J58) (C := ((True ∧ True) ∧ True)) rfl ⟨⟨trivial, trivial⟩, trivial⟩ ?_
          refine gv_pick [1, 2, 3, 4, 0] rfl ?_
          exact L254 _ 0 (Nat.lt_succ_self _) (by exact gz_m 344 (by omega)) (fun j hj => absurd hj (by exact gz_m 345 (by omega)))
        have f658 := (gr_b_0_71 hI45)
        refine gv_run 3 true hD (pcₚ := 228) (lvₚ := [(0, .inr (.inr (some 0))), (1, .inl (I 0 6)), (2, .inr (.inl v2_11)), (4, .inl v4_35)]) (stₚ := [.inl 1, .inl (I45 0 71)]) (hₚ := gr_h I45 J46) (C := (((True ∧ True) ∧ True) ∧ True)) rfl ⟨⟨⟨trivial, trivial⟩, trivial⟩, trivial⟩ ?_
        refine gv_icmp_ne (t := 240) hD rfl rfl ⟨⟨by exact gz_m 346 (by omega), by exact gz_m 347 (by omega)⟩, ⟨by exact gz_m 348 (by omega), by exact gz_m 349 (by omega)⟩⟩ (fun c659 => ?_) (fun c659 => ?_)
        · have t660 := gr_ATp_ne e3_47 (c := 1) (by exact gz_m 350 (by omega)) (by exact gz_m 351 (by omega))
          refine gv_run 2 true hD (pcₚ := 243) (lvₚ := [(0, .inr (.inr (some 0))), (1, .inl (I 0 6)), (2, .inr (.inl v2_11)), (4, .inl v4_35)]) (stₚ := [.inl 61, .inr (.inr (some 0))]) (hₚ := gr_h I45 J46) (C := ((True ∧ True) ∧ True)) rfl ⟨⟨trivial, trivial⟩, trivial⟩ ?_
          obtain ⟨r661, h661, E661, P661⟩ := r_need_p (ws0 := ws0) (tb := tb) hws htb ext β N9 p_47 I45 J46 hI45 61 ⟨by exact gz_m 352 (by omega), by exact gz_m 353 (by omega)⟩ (gr_ATp_rr e3_47).1 (gr_ATp_rr e3_47).2.1 (gr_ATp_rr e3_47).2.2.1 (gr_ATp_rr e3_47).2.2.2.1 (gr_ATp_rr e3_47).2.2.2.2 e3_47 (by exact gz_m 354 (by omega))
          obtain ⟨I662, J663, rfl, hI662, g661, k661, ⟨z661, rfl, q661⟩⟩ := P661
          have FI662 := gr_frt FI45 g661 rfl rfl
          have FJ663 := gr_fjt FJ46 k661 rfl rfl
          have t664 := g661 0 69 rfl
          have t665 := g661 0 6 rfl
          have t666 := g661 0 59 rfl
          have t667 := g661 0 42 rfl
          have t668 := g661 0 106 rfl
          have t669 := g661 17 (Int.toNat ((I 0 6))) rfl
          have f670 := (gr_b_0_71 hI662)
          have f671 := (gr_b_0_72 hI662)
          have f672 := (gr_b_0_73 hI662)
          have f673 := (gr_b_0_69 hI662)
          have f674 := (gr_b_0_6 hI662)
          have f675 := (gr_b_0_59 hI662)
          have f676 := (gr_b_0_42 hI662)
          have f677 := (gr_b_0_106 hI662)
          have KLK_I662 := gr_LKs_fr KLK_I45 (fun k => g661 51 k rfl) (g661 0 59 rfl)
          have KPT_I662 := gr_PTs_fr KPT_I45 (fun k => g661 35 k rfl) (g661 0 42 rfl)
          refine gv_callV hD rfl (As := [.inl 61]) (st := []) rfl (by decide) rfl rfl (gr_lV hws rfl) (Nat.le_of_ble_eq_true rfl) (gz_Ev_mono (d := 11) (by decide) E661) ?_
          show gv_X _ _ (246, [(0, .inr (.inr (some 0))), (1, .inl (I 0 6)), (2, .inr (.inl v2_11)), (4, .inl v4_35)], [.inl z661], gr_sh ++ ext, gr_h I662 J663)
          refine gv_if_ne (t := 251) hD rfl rfl ⟨by exact gz_m 355 (by omega), by exact gz_m 356 (by omega)⟩ (fun c678 => ?_) (fun c678 => ?_)
          · obtain ⟨u679, A679⟩ := gs_or1 q661.2.2.2.2.2.2.2.2.2.2.2 (by exact gz_m 357 (by omega))
            have t680 := gr_ATp_l A679
            have t681 := (q661.2.2.2.2.2.2.2.2.2.2.1).resolve_left (by exact gz_m 358 (by omega))
            obtain ⟨_, _, -, _, -, -, _, _, _, _, -, -⟩ := q661
            have t682 := (gr_ATp_rr e3_47).2.2.1.resolve_left (by exact gz_m 359 (by omega))
            exact L251 I662 J663 (gs_need β N9 61 p_47) hI662 FI662 FJ663 KLK_I662 KPT_I662 (by exact gz_m 360 (by omega)) A679 (by obtain ⟨m, m2, hm, hm2, em⟩ := e4_47; obtain ⟨m2, rfl⟩ : ∃ n, m2 = n + 1 := ⟨m2 - 1, by exact gz_m 361 (by omega)⟩; exact ⟨m, by exact gz_m 362 (by omega), em.trans (by rw [gs_ws_e (by exact gz_m 363 (by omega)), gs_qcA_e (by exact gz_m 364 (by omega)) (by exact gz_m 365 (by omega)), show fo_ll (gs_en9 I662) _ = fo_ll (gs_en9 I45) _ from (gs_ens_kp e6_47 (gr_LKs_fr gr_LKs_rf (fun k => g661 51 k rfl) (g661 0 59 rfl)) (gr_PTs_fr gr_PTs_rf (fun k => g661 35 k rfl) (g661 0 42 rfl)) (fun j => (g661 64 j rfl)) (fun j => (g661 65 j rfl)) (fun j => (g661 66 j rfl))).1, show I662 0 106 = I45 0 106 from by exact gz_m 366 (by omega)])⟩) e5_47 (gs_ens_kp e6_47 (gr_LKs_fr gr_LKs_rf (fun k => g661 51 k rfl) (g661 0 59 rfl)) (gr_PTs_fr gr_PTs_rf (fun k => g661 35 k rfl) (g661 0 42 rfl)) (fun j => (g661 64 j rfl)) (fun j => (g661 65 j rfl)) (fun j => (g661 66 j rfl))).2 ⟨(fun k => ((g661 17 k rfl).trans (e7_47.1 k))), (fun k => ((g661 31 k rfl).trans (e7_47.2.1 k))), (fun k => ((g661 32 k rfl).trans (e7_47.2.2.1 k))), (fun k => ((g661 33 k rfl).trans (e7_47.2.2.2.1 k))), (fun k => ((g661 34 k rfl).trans (e7_47.2.2.2.2.1 k))), (fun k => ((k661 23 k rfl).trans (e7_47.2.2.2.2.2 k)))⟩
          · obtain ⟨u683, u683_⟩ := gs_or0 q661.2.2.2.2.2.2.2.2.2.2.2 (by exact gz_m 367 (by omega))
            refine gv_run 1 true hD (pcₚ := 250) (lvₚ := [(0, .inr (.inr (some 0))), (1, .inl (I 0 6)), (2, .inr (.inl v2_11)), (4, .inl v4_35)]) (stₚ := [.inl 0]) (hₚ := gr_h I662 J663) (C := (True ∧ True)) rfl ⟨trivial, trivial⟩ ?_
            have b684 : (I662 0 71 = 5 ∨ I662 0 73 ≤ I662 0 69) ∧ (I662 0 72 ≤ I662 0 69) ∧ (I662 0 71 = 0 ∨ (I662 0 72 < I662 0 73 ∧ I662 0 72 < I662 0 69)) ∧ (I662 0 71 = 3 → 2 ≤ I662 0 73 - I662 0 72 ∧ I662 0 73 - I662 0 72 ≤ 14) ∧ (I662 0 72 ≤ I662 0 73) ∧ (I662 0 69 = I 0 69) ∧ (I 0 73 ≤ I662 0 73) ∧ (I 0 72 ≤ I662 0 72) ∧ (I662 0 59 - I662 0 72 ≤ I 0 59 - I 0 72) ∧ (I662 0 42 - I662 0 72 ≤ I 0 42 - I 0 72) := by exact gz_m 368 (by omega)
            exact gv_zret hD rfl (by exact gz_m 369 (by omega)) ⟨I662, J663, rfl, hI662, FI662, FJ663, ⟨_, rfl, by exact gz_m 370 (by omega), by exact gz_m 371 (by omega), b684.1, b684.2.1, b684.2.2.1, b684.2.2.2.1, b684.2.2.2.2.1, b684.2.2.2.2.2.1, b684.2.2.2.2.2.2.1, b684.2.2.2.2.2.2.2.1, b684.2.2.2.2.2.2.2.2.1, b684.2.2.2.2.2.2.2.2.2, KLK_I662, KPT_I662, (Or.inr ⟨by exact gz_m 372 (by omega), by first | (exfalso; exact gz_m 373 (by omega)) | (obtain ⟨m, m2, hm, hm2, em⟩ := e4_47; obtain ⟨m2, rfl⟩ : ∃ n, m2 = n + 1 := ⟨m2 - 1, by exact gz_m 374 (by omega)⟩; rw [gs_pat_x2 (show gs_qtw β N9 I J p9 = (gs_need β N9 61 p_47, []) from (em.trans (by rw [gs_ws_e (by exact gz_m 375 (by omega))]; exact gs_qcA_n (by exact gz_m 376 (by omega)) (by exact gz_m 377 (by omega))))) (by exact gz_m 378 (by omega))]; exact ⟨by exact gz_m 379 (by omega), by exact gz_m 380 (by omega), (fun j => ⟨((g661 17 j rfl).trans (e7_47.1 j)), ((k661 23 j rfl).trans (e7_47.2.2.2.2.2 j)), ((g661 31 j rfl).trans (e7_47.2.1 j)), ((g661 32 j rfl).trans (e7_47.2.2.1 j))⟩), fun j => ⟨((g661 33 j rfl).trans (e7_47.2.2.2.1 j)), ((g661 34 j rfl).trans (e7_47.2.2.2.2.1 j))⟩⟩)⟩)⟩⟩
        · have t685 := (gr_ATp_k e3_47 (c := 1) (by exact gz_m 381 (by omega))).mp (by exact gz_m 382 (by omega))
          have t686 := (gr_ATp_rr e3_47).2.2.1.resolve_left (by exact gz_m 383 (by omega))
          refine gv_run 1 true hD (pcₚ := 232) (lvₚ := [(0, .inr (.inr (some 0))), (1, .inl (I 0 6)), (2, .inr (.inl v2_11)), (4, .inl v4_35)]) (stₚ := [.inr (.inr (some 0))]) (hₚ := gr_h I45 J46) (C := (True ∧ True)) rfl ⟨trivial, trivial⟩ ?_
          obtain ⟨r687, h687, E687, P687⟩ := r_oneValue_p (ws0 := ws0) (tb := tb) hws htb ext β N9 p_47 I45 J46 hI45   (gr_ATp_rr e3_47).1 (gr_ATp_rr e3_47).2.1 (gr_ATp_rr e3_47).2.2.1 (gr_ATp_rr e3_47).2.2.2.1 (gr_ATp_rr e3_47).2.2.2.2 (by exact gz_m 384 (by omega)) (by exact gz_m 385 (by omega)) e3_47 (by exact gz_m 386 (by omega))
          obtain ⟨I688, J689, rfl, hI688, g687, k687, ⟨z687, rfl, q687⟩⟩ := P687
          have FI688 := gr_frt FI45 g687 rfl rfl
          have FJ689 := gr_fjt FJ46 k687 rfl rfl
          have t690 := g687 0 69 rfl
          have t691 := g687 0 6 rfl
          have t692 := g687 0 59 rfl
          have t693 := g687 0 42 rfl
          have t694 := g687 17 (Int.toNat ((I 0 6))) rfl
          have f695 := (gr_b_0_71 hI688)
          have f696 := (gr_b_0_72 hI688)
          have f697 := (gr_b_0_73 hI688)
          have f698 := (gr_b_0_69 hI688)
          have f699 := (gr_b_0_6 hI688)
          have f700 := (gr_b_0_59 hI688)
          have f701 := (gr_b_0_42 hI688)
          have f702 := (gr_b_0_106 hI688)
          have KLK_I688 := gr_LKs_fr KLK_I45 (fun k => g687 51 k rfl) (g687 0 59 rfl)
          have KPT_I688 := gr_PTs_fr KPT_I45 (fun k => g687 35 k rfl) (g687 0 42 rfl)
          refine gv_callV hD rfl (As := []) (st := []) rfl (by decide) rfl rfl (gr_lV hws rfl) (Nat.le_of_ble_eq_true rfl) (gz_Ev_mono (d := 11) (by decide) E687) ?_
          show gv_X _ _ (235, [(0, .inr (.inr (some 0))), (1, .inl (I 0 6)), (2, .inr (.inl v2_11)), (4, .inl v4_35)], [.inl z687], gr_sh ++ ext, gr_h I688 J689)
          refine gv_if_ne (t := 223) hD rfl rfl ⟨by exact gz_m 387 (by omega), by exact gz_m 388 (by omega)⟩ (fun c703 => ?_) (fun c703 => ?_)
          · have Q704 := q687.2.2.2.2.2.2.2.2.2.2.2
            rw [(gs_ov_eq (FI45 0 6 rfl) (fun k => (FI45 14 k rfl)) (fun k => (FI45 24 k rfl)) (fun k => (FI45 25 k rfl)) (fun k => (FJ46 21 k rfl))).1, (gs_ov_eq (FI45 0 6 rfl) (fun k => (FI45 14 k rfl)) (fun k => (FI45 24 k rfl)) (fun k => (FI45 25 k rfl)) (fun k => (FJ46 21 k rfl))).2] at Q704
            obtain ⟨u704, A704, U704⟩ := gs_or1 Q704 (by exact gz_m 389 (by omega))
            have t705 := gr_ATp_l A704
            have t706 := (q687.2.2.2.2.2.2.2.2.2.2.1).resolve_left (by exact gz_m 390 (by omega))
            obtain ⟨_, _, -, _, -, -, _, _, _, _, -, -⟩ := q687
            exact ih223 I688 J689 ((gs_ov β N9 I J (I45 0 106) p_47)) (by exact gz_m 391 (by omega)) hI688 FI688 FJ689 KLK_I688 KPT_I688 (by exact gz_m 392 (by omega)) A704 (by obtain ⟨m, m2, hm, hm2, em⟩ := e4_47; obtain ⟨m2, rfl⟩ : ∃ n, m2 = n + 1 := ⟨m2 - 1, by exact gz_m 393 (by omega)⟩; exact ⟨m, m2, by exact gz_m 394 (by omega), by exact gz_m 395 (by omega), em.trans (by rw [show fo_ll (gs_en9 I688) _ = fo_ll (gs_en9 I45) _ from (gs_ens_kp e6_47 (gr_LKs_fr gr_LKs_rf (fun k => g687 51 k rfl) (g687 0 59 rfl)) (gr_PTs_fr gr_PTs_rf (fun k => g687 35 k rfl) (g687 0 42 rfl)) (fun j => (g687 64 j rfl)) (fun j => (g687 65 j rfl)) (fun j => (g687 66 j rfl))).1, gs_ws_s (by exact gz_m 396 (by omega)) (by exact gz_m 397 (by omega)), U704])⟩) e5_47 (gs_ens_kp e6_47 (gr_LKs_fr gr_LKs_rf (fun k => g687 51 k rfl) (g687 0 59 rfl)) (gr_PTs_fr gr_PTs_rf (fun k => g687 35 k rfl) (g687 0 42 rfl)) (fun j => (g687 64 j rfl)) (fun j => (g687 65 j rfl)) (fun j => (g687 66 j rfl))).2 ⟨(fun k => ((g687 17 k rfl).trans (e7_47.1 k))), (fun k => ((g687 31 k rfl).trans (e7_47.2.1 k))), (fun k => ((g687 32 k rfl).trans (e7_47.2.2.1 k))), (fun k => ((g687 33 k rfl).trans (e7_47.2.2.2.1 k))), (fun k => ((g687 34 k rfl).trans (e7_47.2.2.2.2.1 k))), (fun k => ((k687 23 k rfl).trans (e7_47.2.2.2.2.2 k)))⟩
          · have Q707 := q687.2.2.2.2.2.2.2.2.2.2.2
            rw [(gs_ov_eq (FI45 0 6 rfl) (fun k => (FI45 14 k rfl)) (fun k => (FI45 24 k rfl)) (fun k => (FI45 25 k rfl)) (fun k => (FJ46 21 k rfl))).1, (gs_ov_eq (FI45 0 6 rfl) (fun k => (FI45 14 k rfl)) (fun k => (FI45 24 k rfl)) (fun k => (FI45 25 k rfl)) (fun k => (FJ46 21 k rfl))).2] at Q707
            obtain ⟨u707, u707_⟩ := gs_or0 Q707 (by exact gz_m 398 (by omega))
            refine gv_run 1 true hD (pcₚ := 239) (lvₚ := [(0, .inr (.inr (some 0))), (1, .inl (I 0 6)), (2, .inr (.inl v2_11)), (4, .inl v4_35)]) (stₚ := [.inl 0]) (hₚ := gr_h I688 J689) (C := (True ∧ True)) rfl ⟨trivial, trivial⟩ ?_
            have b708 : (I688 0 71 = 5 ∨ I688 0 73 ≤ I688 0 69) ∧ (I688 0 72 ≤ I688 0 69) ∧ (I688 0 71 = 0 ∨ (I688 0 72 < I688 0 73 ∧ I688 0 72 < I688 0 69)) ∧ (I688 0 71 = 3 → 2 ≤ I688 0 73 - I688 0 72 ∧ I688 0 73 - I688 0 72 ≤ 14) ∧ (I688 0 72 ≤ I688 0 73) ∧ (I688 0 69 = I 0 69) ∧ (I 0 73 ≤ I688 0 73) ∧ (I 0 72 ≤ I688 0 72) ∧ (I688 0 59 - I688 0 72 ≤ I 0 59 - I 0 72) ∧ (I688 0 42 - I688 0 72 ≤ I 0 42 - I 0 72) := by exact gz_m 399 (by omega)
            exact gv_zret hD rfl (by exact gz_m 400 (by omega)) ⟨I688, J689, rfl, hI688, FI688, FJ689, ⟨_, rfl, by exact gz_m 401 (by omega), by exact gz_m 402 (by omega), b708.1, b708.2.1, b708.2.2.1, b708.2.2.2.1, b708.2.2.2.2.1, b708.2.2.2.2.2.1, b708.2.2.2.2.2.2.1, b708.2.2.2.2.2.2.2.1, b708.2.2.2.2.2.2.2.2.1, b708.2.2.2.2.2.2.2.2.2, KLK_I688, KPT_I688, (Or.inr ⟨by exact gz_m 403 (by omega), by first | (exfalso; exact gz_m 404 (by omega)) | (obtain ⟨m, m2, hm, hm2, em⟩ := e4_47; obtain ⟨m2, rfl⟩ : ∃ n, m2 = n + 1 := ⟨m2 - 1, by exact gz_m 405 (by omega)⟩; rw [gs_pat_x2 (show gs_qtw β N9 I J p9 = (gs_ov β N9 I J (I45 0 106) p_47, []) from (em.trans (by rw [gs_ws_x (by exact gz_m 406 (by omega)) (by exact gz_m 407 (by omega))]; exact gs_qcA_x (by exact gz_m 408 (by omega))))) (by exact gz_m 409 (by omega))]; exact ⟨by exact gz_m 410 (by omega), by exact gz_m 411 (by omega), (fun j => ⟨((g687 17 j rfl).trans (e7_47.1 j)), ((k687 23 j rfl).trans (e7_47.2.2.2.2.2 j)), ((g687 31 j rfl).trans (e7_47.2.1 j)), ((g687 32 j rfl).trans (e7_47.2.2.1 j))⟩), fun j => ⟨((g687 33 j rfl).trans (e7_47.2.2.2.1 j)), ((g687 34 j rfl).trans (e7_47.2.2.2.2.1 j))⟩⟩)⟩)⟩⟩
    refine gv_run 3 true hD (pcₚ := 223) (lvₚ := [(0, .inr (.inr (some 0))), (1, .inl (I 0 6)), (2, .inr (.inl v2_11)), (4, .inl v4_35)]) (stₚ := []) (hₚ := gz_up (gr_h I33 J34) 0 106 (.inl 0)) (C := (((True ∧ True) ∧ True) ∧ True)) rfl ⟨⟨⟨trivial, trivial⟩, trivial⟩, trivial⟩ ?_
    refine gr_st hI33 FI33 rfl rfl ⟨⟨by show 0 ≤ _; exact gz_m 412 (by omega), by show _ ≤ 16777215; exact gz_m 413 (by omega)⟩, trivial⟩ (fun I709 hI709 FI709 q710 p710 => ?_)
    have t711 := p710 0 71 (by decide)
    have t712 := p710 0 72 (by decide)
    have t713 := p710 0 73 (by decide)
    have t714 := p710 0 69 (by decide)
    have t715 := p710 0 6 (by decide)
    have t716 := p710 0 59 (by decide)
    have t717 := p710 0 42 (by decide)
    have t718 := p710 17 (Int.toNat ((I 0 6))) (fun q => absurd q.1 (by first | exact gz_ne rfl | decide))
    have f719 := (gr_b_0_71 hI709)
    have f720 := (gr_b_0_72 hI709)
    have f721 := (gr_b_0_73 hI709)
    have f722 := (gr_b_0_69 hI709)
    have f723 := (gr_b_0_6 hI709)
    have f724 := (gr_b_0_59 hI709)
    have f725 := (gr_b_0_42 hI709)
    have f726 := (gr_b_0_106 hI709)
    have KLK_I709 := gr_LKs_fr KLK_I33 (fun k => p710 51 k (fun q => absurd q.1 (by first | exact gz_ne rfl | decide))) (p710 0 59 (by decide))
    have KPT_I709 := gr_PTs_fr KPT_I33 (fun k => p710 35 k (fun q => absurd q.1 (by first | exact gz_ne rfl | decide))) (p710 0 42 (by decide))
    have A727 := gr_ATp_sf e2_35 p710 rfl
    exact L223 _ I709 J34 p_35 (Nat.lt_succ_self _) hI709 FI709 FJ34 KLK_I709 KPT_I709 (by exact gz_m 414 (by omega)) A727 (by obtain ⟨m, hm, em⟩ := e3_35; obtain ⟨m, rfl⟩ : ∃ n, m = n + 1 := ⟨m - 1, by exact gz_m 415 (by omega)⟩; exact ⟨m, 1002, by exact gz_m 416 (by omega), by exact gz_m 417 (by omega), em.trans (by rw [show fo_ll (gs_en9 I709) _ = fo_ll (gs_en9 I33) _ from (gs_ens_kp e5_35 (gr_LKs_fr gr_LKs_rf (fun k => p710 51 k (fun q => absurd q.1 (by first | exact gz_ne rfl | decide))) (p710 0 59 (by decide))) (gr_PTs_fr gr_PTs_rf (fun k => p710 35 k (fun q => absurd q.1 (by first | exact gz_ne rfl | decide))) (p710 0 42 (by decide))) (fun j => (p710 64 j (fun q => absurd q.1 (by first | exact gz_ne rfl | decide)))) (fun j => (p710 65 j (fun q => absurd q.1 (by first | exact gz_ne rfl | decide)))) (fun j => (p710 66 j (fun q => absurd q.1 (by first | exact gz_ne rfl | decide))))).1, show I709 0 106 = 0 from by exact gz_m 418 (by omega)]; rfl)⟩) e4_35 (gs_ens_kp e5_35 (gr_LKs_fr gr_LKs_rf (fun k => p710 51 k (fun q => absurd q.1 (by first | exact gz_ne rfl | decide))) (p710 0 59 (by decide))) (gr_PTs_fr gr_PTs_rf (fun k => p710 35 k (fun q => absurd q.1 (by first | exact gz_ne rfl | decide))) (p710 0 42 (by decide))) (fun j => (p710 64 j (fun q => absurd q.1 (by first | exact gz_ne rfl | decide)))) (fun j => (p710 65 j (fun q => absurd q.1 (by first | exact gz_ne rfl | decide)))) (fun j => (p710 66 j (fun q => absurd q.1 (by first | exact gz_ne rfl | decide))))).2 ⟨(fun k => ((p710 17 k (fun q => absurd q.1 (by first | exact gz_ne rfl | decide))).trans (e6_35.1 k))), (fun k => ((p710 31 k (fun q => absurd q.1 (by first | exact gz_ne rfl | decide))).trans (e6_35.2.1 k))), (fun k => ((p710 32 k (fun q => absurd q.1 (by first | exact gz_ne rfl | decide))).trans (e6_35.2.2.1 k))), (fun k => ((p710 33 k (fun q => absurd q.1 (by first | exact gz_ne rfl | decide))).trans (e6_35.2.2.2.1 k))), (fun k => ((p710 34 k (fun q => absurd q.1 (by first | exact gz_ne rfl | decide))).trans (e6_35.2.2.2.2.1 k))), (fun k => (e6_35.2.2.2.2.2 k))⟩
set_option maxHeartbeats 32000000 in
set_option maxRecDepth 100000 in
theorem r_pattern_p_L46_L207 {ws0 : List Cond} {tb : String → gz_T} (hws : ∀ w ∈ gr_ws, w ∈ ws0) (htb : tb RX13 = gr_T) (ext : gz_Sh) (β : Int → Int) (N9 : Int) (p9 : Int) (I : gr_I) (J : gr_J) (hI : gr_Inv I) (x1 : I 0 72 ≤ I 0 69) (x4 : I 0 72 ≤ I 0 73) (x5 : 0 ≤ I 0 6) (x6 : I 0 59 + I 0 69 - I 0 72 ≤ 1900) (x7 : I 0 42 + I 0 69 - I 0 72 ≤ 1900) (x8 : gr_ATp β N9 p9 I J) (x9 : 0 ≤ p9) (x10 : gr_KW J) (x11 : gs_PDa I) (v2_11 : Int64) : ∀ (I21 : gr_I) (J22 : gr_J) (v4_23 : Int) (p_23 : Int), gr_Inv I21 → gr_fr [42, 59, 71, 72, 73, 74, 75, 76, 77, 106] [17, 23, 31, 32, 33, 34, 35, 51, 64, 65, 66] I I21 → gr_fj [42, 59, 71, 72, 73, 74, 75, 76, 77, 106] [17, 23, 31, 32, 33, 34, 35, 51, 64, 65, 66] J J22 → gr_LKs I I21 → gr_PTs I I21 → ((0 ≤ (I 0 6) ∧ (I 0 6) ≤ 7) ∧ (0 ≤ v4_23 ∧ v4_23 ≤ 24) ∧ (v4_23 ≤ 24) ∧ (0 ≤ p_23) ∧ (I21 0 72 ≤ I21 0 69) ∧ (I21 0 72 ≤ I21 0 73) ∧ (I21 0 69 = I 0 69) ∧ (I 0 73 ≤ I21 0 73) ∧ (I 0 72 ≤ I21 0 72) ∧ (I21 0 6 = I 0 6) ∧ (I21 0 59 - I21 0 72 ≤ I 0 59 - I 0 72) ∧ (I21 0 42 - I21 0 72 ≤ I 0 42 - I 0 72)) → (gr_ATp β N9 p_23 I21 J22) → (gs_qtw β N9 I J p9 = gs_qt2 β N9 I J (fo_ll (gs_en9 I21) v4_23) p_23) → (v2_11 = (gs_rn β N9 p9)) → (gs_eok I21 v4_23) → ((∀ k, I21 17 k = I 17 k) ∧ (∀ k, I21 31 k = I 31 k) ∧ (∀ k, I21 32 k = I 32 k) ∧ (∀ k, I21 33 k = I 33 k) ∧ (∀ k, I21 34 k = I 34 k) ∧ (∀ k, J22 23 k = J 23 k)) → gv_X (gr_E ws0 tb 11 (yX13_pattern, cX13_pattern, 8, (some .boolean)) kX13_pattern) (gv_Q cX13_pattern (some .boolean) (gr_sh ++ ext) (fun r hₚ => (∃ (Iₚ : gr_I) (Jₚ : gr_J), hₚ = gr_h Iₚ Jₚ ∧ gr_Inv Iₚ ∧ gr_fr [42, 59, 71, 72, 73, 74, 75, 76, 77, 106] [17, 23, 31, 32, 33, 34, 35, 51, 64, 65, 66] I Iₚ ∧ gr_fj [42, 59, 71, 72, 73, 74, 75, 76, 77, 106] [17, 23, 31, 32, 33, 34, 35, 51, 64, 65, 66] J Jₚ ∧ (∃ z : Int, r = some (.inl z) ∧ 0 ≤ z ∧ z ≤ 1 ∧ (Iₚ 0 71 = 5 ∨ Iₚ 0 73 ≤ Iₚ 0 69) ∧ (Iₚ 0 72 ≤ Iₚ 0 69) ∧ (Iₚ 0 71 = 0 ∨ (Iₚ 0 72 < Iₚ 0 73 ∧ Iₚ 0 72 < Iₚ 0 69)) ∧ (Iₚ 0 71 = 3 → 2 ≤ Iₚ 0 73 - Iₚ 0 72 ∧ Iₚ 0 73 - Iₚ 0 72 ≤ 14) ∧ (Iₚ 0 72 ≤ Iₚ 0 73) ∧ (Iₚ 0 69 = I 0 69) ∧ (I 0 73 ≤ Iₚ 0 73) ∧ (I 0 72 ≤ Iₚ 0 72) ∧ (Iₚ 0 59 - Iₚ 0 72 ≤ I 0 59 - I 0 72) ∧ (Iₚ 0 42 - Iₚ 0 72 ≤ I 0 42 - I 0 72) ∧ (gr_LKs I Iₚ) ∧ (gr_PTs I Iₚ) ∧ (gs_Or z (0 ≤ (gs_pat β N9 I J (I 0 78) p9) ∧ gr_ATp β N9 (gs_pat β N9 I J (I 0 78) p9) Iₚ Jₚ ∧ gs_Upat (gs_rn β N9 p9) (gs_ptw β N9 I J p9).2 I J Iₚ Jₚ ∧ gs_Uct β N9 I J p9 Iₚ) ((gs_pat β N9 I J (I 0 78) p9) < 0 ∧ Iₚ 0 77 = -1 - (gs_pat β N9 I J (I 0 78) p9) ∧ gs_Spt I J Iₚ Jₚ ∧ ∀ j, Iₚ 33 j = I 33 j ∧ Iₚ 34 j = I 34 j)))))) (207, [(0, .inr (.inr (some 0))), (1, .inl (I 0 6)), (2, .inr (.inl v2_11)), (4, .inl v4_23)], [], gr_sh ++ ext, gr_h I21 J22) := by
  have FI : gr_fr [42, 59, 71, 72, 73, 74, 75, 76, 77, 106] [17, 23, 31, 32, 33, 34, 35, 51, 64, 65, 66] I I := fun _ _ _ => rfl
  have FJ : gr_fj [42, 59, 71, 72, 73, 74, 75, 76, 77, 106] [17, 23, 31, 32, 33, 34, 35, 51, 64, 65, 66] J J := fun _ _ _ => rfl
  have hD : gv_D (gr_E ws0 tb 11 (yX13_pattern, cX13_pattern, 8, (some .boolean)) kX13_pattern) := gq_of oX13_pattern
  have tAT := gr_ATp_l x8
  skip
  have KW := x10
  have f1 := (gr_b_0_71 hI)
  have f2 := (gr_b_0_72 hI)
  have f3 := (gr_b_0_73 hI)
  have f4 := (gr_b_0_69 hI)
  have f5 := (gr_b_0_6 hI)
  have f6 := (gr_b_0_59 hI)
  have f7 := (gr_b_0_42 hI)
  have f8 := (gr_b_0_106 hI)
  have KLK_I : gr_LKs I I := gr_LKs_rf
  have KPT_I : gr_PTs I I := gr_PTs_rf
  intro I21 J22 v4_23 p_23 hI21 FI21 FJ22 KLK_I21 KPT_I21 m_23 e2_23 e3_23 e4_23 e5_23 e6_23
  obtain ⟨h_I_0_6__23, hv4_23, e0_23, e1_23, e7_23, e8_23, e9_23, e10_23, e11_23, e12_23, e13_23, e14_23⟩ := m_23
  have f24 := (gr_b_0_71 hI21)
  have f25 := (gr_b_0_72 hI21)
  have f26 := (gr_b_0_73 hI21)
  have f27 := (gr_b_0_69 hI21)
  have f28 := (gr_b_0_6 hI21)
  have f29 := (gr_b_0_59 hI21)
  have f30 := (gr_b_0_42 hI21)
  have f31 := (gr_b_0_106 hI21)
  have t32 := gr_ATp_l e2_23
  have L218 : ∀ (n : Nat) (I33 : gr_I) (J34 : gr_J) (v4_35 : Int) (p_35 : Int), (1001 - I33 0 72).toNat < n → gr_Inv I33 → gr_fr [42, 59, 71, 72, 73, 74, 75, 76, 77, 106] [17, 23, 31, 32, 33, 34, 35, 51, 64, 65, 66] I I33 → gr_fj [42, 59, 71, 72, 73, 74, 75, 76, 77, 106] [17, 23, 31, 32, 33, 34, 35, 51, 64, 65, 66] J J34 → gr_LKs I I33 → gr_PTs I I33 → ((0 ≤ (I 0 6) ∧ (I 0 6) ≤ 7) ∧ (0 ≤ v4_35 ∧ v4_35 ≤ 358) ∧ (3 * v4_35 ≤ 72 + I33 0 72) ∧ (0 ≤ p_35) ∧ (I33 0 72 ≤ I33 0 69) ∧ (I33 0 72 ≤ I33 0 73) ∧ (I33 0 69 = I 0 69) ∧ (I 0 73 ≤ I33 0 73) ∧ (I 0 72 ≤ I33 0 72) ∧ (I33 0 6 = I 0 6) ∧ (I33 0 59 - I33 0 72 ≤ I 0 59 - I 0 72) ∧ (I33 0 42 - I33 0 72 ≤ I 0 42 - I 0 72)) → (gr_ATp β N9 p_35 I33 J34) → (∃ m : Nat, 1001 - gs_A β N9 p_35 < (m : Int) ∧ gs_qtw β N9 I J p9 = gs_qc β N9 I J m (fo_ll (gs_en9 I33) v4_35) p_35) → (v2_11 = (gs_rn β N9 p9)) → (gs_eok I33 v4_35) → ((∀ k, I33 17 k = I 17 k) ∧ (∀ k, I33 31 k = I 31 k) ∧ (∀ k, I33 32 k = I 32 k) ∧ (∀ k, I33 33 k = I 33 k) ∧ (∀ k, I33 34 k = I 34 k) ∧ (∀ k, J34 23 k = J 23 k)) → gv_X (gr_E ws0 tb 11 (yX13_pattern, cX13_pattern, 8, (some .boolean)) kX13_pattern) (gv_Q cX13_pattern (some .boolean) (gr_sh ++ ext) (fun r hₚ => (∃ (Iₚ : gr_I) (Jₚ : gr_J), hₚ = gr_h Iₚ Jₚ ∧ gr_Inv Iₚ ∧ gr_fr [42, 59, 71, 72, 73, 74, 75, 76, 77, 106] [17, 23, 31, 32, 33, 34, 35, 51, 64, 65, 66] I Iₚ ∧ gr_fj [42, 59, 71, 72, 73, 74, 75, 76, 77, 106] [17, 23, 31, 32, 33, 34, 35, 51, 64, 65, 66] J Jₚ ∧ (∃ z : Int, r = some (.inl z) ∧ 0 ≤ z ∧ z ≤ 1 ∧ (Iₚ 0 71 = 5 ∨ Iₚ 0 73 ≤ Iₚ 0 69) ∧ (Iₚ 0 72 ≤ Iₚ 0 69) ∧ (Iₚ 0 71 = 0 ∨ (Iₚ 0 72 < Iₚ 0 73 ∧ Iₚ 0 72 < Iₚ 0 69)) ∧ (Iₚ 0 71 = 3 → 2 ≤ Iₚ 0 73 - Iₚ 0 72 ∧ Iₚ 0 73 - Iₚ 0 72 ≤ 14) ∧ (Iₚ 0 72 ≤ Iₚ 0 73) ∧ (Iₚ 0 69 = I 0 69) ∧ (I 0 73 ≤ Iₚ 0 73) ∧ (I 0 72 ≤ Iₚ 0 72) ∧ (Iₚ 0 59 - Iₚ 0 72 ≤ I 0 59 - I 0 72) ∧ (Iₚ 0 42 - Iₚ 0 72 ≤ I 0 42 - I 0 72) ∧ (gr_LKs I Iₚ) ∧ (gr_PTs I Iₚ) ∧ (gs_Or z (0 ≤ (gs_pat β N9 I J (I 0 78) p9) ∧ gr_ATp β N9 (gs_pat β N9 I J (I 0 78) p9) Iₚ Jₚ ∧ gs_Upat (gs_rn β N9 p9) (gs_ptw β N9 I J p9).2 I J Iₚ Jₚ ∧ gs_Uct β N9 I J p9 Iₚ) ((gs_pat β N9 I J (I 0 78) p9) < 0 ∧ Iₚ 0 77 = -1 - (gs_pat β N9 I J (I 0 78) p9) ∧ gs_Spt I J Iₚ Jₚ ∧ ∀ j, Iₚ 33 j = I 33 j ∧ Iₚ 34 j = I 34 j)))))) (218, [(0, .inr (.inr (some 0))), (1, .inl (I 0 6)), (2, .inr (.inl v2_11)), (4, .inl v4_35)], [], gr_sh ++ ext, gr_h I33 J34) := r_pattern_p_L218 (ws0 := ws0) (tb := tb) hws htb ext β N9 p9 I J hI x1 x4 x5 x6 x7 x8 x9 x10 x11 v2_11
  refine gv_run 2 true hD (pcₚ := 210) (lvₚ := [(0, .inr (.inr (some 0))), (1, .inl (I 0 6)), (2, .inr (.inl v2_11)), (4, .inl v4_23)]) (stₚ := [.inl 123, .inr (.inr (some 0))]) (hₚ := gr_h I21 J22) (C := ((True ∧ True) ∧ True)) rfl ⟨⟨trivial, trivial⟩, trivial⟩ ?_
  obtain ⟨r728, h728, E728, P728⟩ := r_need_p (ws0 := ws0) (tb := tb) hws htb ext β N9 p_23 I21 J22 hI21 123 ⟨by exact gz_m 419 (by omega), by exact gz_m 420 (by omega)⟩ (gr_ATp_rr e2_23).1 (gr_ATp_rr e2_23).2.1 (gr_ATp_rr e2_23).2.2.1 (gr_ATp_rr e2_23).2.2.2.1 (gr_ATp_rr e2_23).2.2.2.2 e2_23 (by exact gz_m 421 (by omega))
  obtain ⟨I729, J730, rfl, hI729, g728, k728, ⟨z728, rfl, q728⟩⟩ := P728
  have FI729 := gr_frt FI21 g728 rfl rfl
  have FJ730 := gr_fjt FJ22 k728 rfl rfl
  have t731 := g728 0 69 rfl
  have t732 := g728 0 6 rfl
  have t733 := g728 0 59 rfl
  have t734 := g728 0 42 rfl
  have t735 := g728 0 106 rfl
  have t736 := g728 17 (Int.toNat ((I 0 6))) rfl
  have f737 := (gr_b_0_71 hI729)
  have f738 := (gr_b_0_72 hI729)
  have f739 := (gr_b_0_73 hI729)
  have f740 := (gr_b_0_69 hI729)
  have f741 := (gr_b_0_6 hI729)
  have f742 := (gr_b_0_59 hI729)
  have f743 := (gr_b_0_42 hI729)
  have f744 := (gr_b_0_106 hI729)
  have KLK_I729 := gr_LKs_fr KLK_I21 (fun k => g728 51 k rfl) (g728 0 59 rfl)
  have KPT_I729 := gr_PTs_fr KPT_I21 (fun k => g728 35 k rfl) (g728 0 42 rfl)
  refine gv_callV hD rfl (As := [.inl 123]) (st := []) rfl (by decide) rfl rfl (gr_lV hws rfl) (Nat.le_of_ble_eq_true rfl) (gz_Ev_mono (d := 11) (by decide) E728) ?_
  show gv_X _ _ (213, [(0, .inr (.inr (some 0))), (1, .inl (I 0 6)), (2, .inr (.inl v2_11)), (4, .inl v4_23)], [.inl z728], gr_sh ++ ext, gr_h I729 J730)
  refine gv_if_ne (t := 218) hD rfl rfl ⟨by exact gz_m 422 (by omega), by exact gz_m 423 (by omega)⟩ (fun c745 => ?_) (fun c745 => ?_)
  · obtain ⟨u746, A746⟩ := gs_or1 q728.2.2.2.2.2.2.2.2.2.2.2 (by exact gz_m 424 (by omega))
    have t747 := gr_ATp_l A746
    have t748 := (q728.2.2.2.2.2.2.2.2.2.2.1).resolve_left (by exact gz_m 425 (by omega))
    obtain ⟨_, _, -, _, -, -, _, _, _, _, -, -⟩ := q728
    have t749 := (gr_ATp_rr e2_23).2.2.1.resolve_left (by exact gz_m 426 (by omega))
    exact L218 _ I729 J730 v4_23 (gs_need β N9 123 p_23) (Nat.lt_succ_self _) hI729 FI729 FJ730 KLK_I729 KPT_I729 (by exact gz_m 427 (by omega)) A746 ⟨1002, by exact gz_m 428 (by omega), (e3_23.trans (by rw [show fo_ll (gs_en9 I729) _ = fo_ll (gs_en9 I21) _ from (gs_ens_kp e5_23 (gr_LKs_fr gr_LKs_rf (fun k => g728 51 k rfl) (g728 0 59 rfl)) (gr_PTs_fr gr_PTs_rf (fun k => g728 35 k rfl) (g728 0 42 rfl)) (fun j => (g728 64 j rfl)) (fun j => (g728 65 j rfl)) (fun j => (g728 66 j rfl))).1]; unfold gs_qt2; (repeat first | rw [if_pos (by exact gz_m 429 (by omega))] | rw [if_neg (by exact gz_m 430 (by omega))])))⟩ e4_23 (gs_ens_kp e5_23 (gr_LKs_fr gr_LKs_rf (fun k => g728 51 k rfl) (g728 0 59 rfl)) (gr_PTs_fr gr_PTs_rf (fun k => g728 35 k rfl) (g728 0 42 rfl)) (fun j => (g728 64 j rfl)) (fun j => (g728 65 j rfl)) (fun j => (g728 66 j rfl))).2 ⟨(fun k => ((g728 17 k rfl).trans (e6_23.1 k))), (fun k => ((g728 31 k rfl).trans (e6_23.2.1 k))), (fun k => ((g728 32 k rfl).trans (e6_23.2.2.1 k))), (fun k => ((g728 33 k rfl).trans (e6_23.2.2.2.1 k))), (fun k => ((g728 34 k rfl).trans (e6_23.2.2.2.2.1 k))), (fun k => ((k728 23 k rfl).trans (e6_23.2.2.2.2.2 k)))⟩
  · obtain ⟨u750, u750_⟩ := gs_or0 q728.2.2.2.2.2.2.2.2.2.2.2 (by exact gz_m 431 (by omega))
    refine gv_run 1 true hD (pcₚ := 217) (lvₚ := [(0, .inr (.inr (some 0))), (1, .inl (I 0 6)), (2, .inr (.inl v2_11)), (4, .inl v4_23)]) (stₚ := [.inl 0]) (hₚ := gr_h I729 J730) (C := (True ∧ True)) rfl ⟨trivial, trivial⟩ ?_
    have b751 : (I729 0 71 = 5 ∨ I729 0 73 ≤ I729 0 69) ∧ (I729 0 72 ≤ I729 0 69) ∧ (I729 0 71 = 0 ∨ (I729 0 72 < I729 0 73 ∧ I729 0 72 < I729 0 69)) ∧ (I729 0 71 = 3 → 2 ≤ I729 0 73 - I729 0 72 ∧ I729 0 73 - I729 0 72 ≤ 14) ∧ (I729 0 72 ≤ I729 0 73) ∧ (I729 0 69 = I 0 69) ∧ (I 0 73 ≤ I729 0 73) ∧ (I 0 72 ≤ I729 0 72) ∧ (I729 0 59 - I729 0 72 ≤ I 0 59 - I 0 72) ∧ (I729 0 42 - I729 0 72 ≤ I 0 42 - I 0 72) := by exact gz_m 432 (by omega)
    exact gv_zret hD rfl (by exact gz_m 433 (by omega)) ⟨I729, J730, rfl, hI729, FI729, FJ730, ⟨_, rfl, by exact gz_m 434 (by omega), by exact gz_m 435 (by omega), b751.1, b751.2.1, b751.2.2.1, b751.2.2.2.1, b751.2.2.2.2.1, b751.2.2.2.2.2.1, b751.2.2.2.2.2.2.1, b751.2.2.2.2.2.2.2.1, b751.2.2.2.2.2.2.2.2.1, b751.2.2.2.2.2.2.2.2.2, KLK_I729, KPT_I729, (Or.inr ⟨by exact gz_m 436 (by omega), by first | (exfalso; exact gz_m 437 (by omega)) | (rw [gs_pat_x2 (show gs_qtw β N9 I J p9 = (gs_need β N9 123 p_23, []) from (e3_23.trans (by unfold gs_qt2; (repeat first | rw [if_pos (by exact gz_m 438 (by omega))] | rw [if_neg (by exact gz_m 439 (by omega))])))) (by exact gz_m 440 (by omega))]; exact ⟨by exact gz_m 441 (by omega), by exact gz_m 442 (by omega), (fun j => ⟨((g728 17 j rfl).trans (e6_23.1 j)), ((k728 23 j rfl).trans (e6_23.2.2.2.2.2 j)), ((g728 31 j rfl).trans (e6_23.2.1 j)), ((g728 32 j rfl).trans (e6_23.2.2.1 j))⟩), fun j => ⟨((g728 33 j rfl).trans (e6_23.2.2.2.1 j)), ((g728 34 j rfl).trans (e6_23.2.2.2.2.1 j))⟩⟩)⟩)⟩⟩
set_option maxHeartbeats 32000000 in
set_option maxRecDepth 100000 in
theorem r_pattern_p_L46 {ws0 : List Cond} {tb : String → gz_T} (hws : ∀ w ∈ gr_ws, w ∈ ws0) (htb : tb RX13 = gr_T) (ext : gz_Sh) (β : Int → Int) (N9 : Int) (p9 : Int) (I : gr_I) (J : gr_J) (hI : gr_Inv I) (x1 : I 0 72 ≤ I 0 69) (x4 : I 0 72 ≤ I 0 73) (x5 : 0 ≤ I 0 6) (x6 : I 0 59 + I 0 69 - I 0 72 ≤ 1900) (x7 : I 0 42 + I 0 69 - I 0 72 ≤ 1900) (x8 : gr_ATp β N9 p9 I J) (x9 : 0 ≤ p9) (x10 : gr_KW J) (x11 : gs_PDa I) : ∀ (I9 : gr_I) (J10 : gr_J) (v1_11 : Int) (v2_11 : Int64) (p_11 : Int), gr_Inv I9 → gr_fr [42, 59, 71, 72, 73, 74, 75, 76, 77, 106] [17, 23, 31, 32, 33, 34, 35, 51, 64, 65, 66] I I9 → gr_fj [42, 59, 71, 72, 73, 74, 75, 76, 77, 106] [17, 23, 31, 32, 33, 34, 35, 51, 64, 65, 66] J J10 → gr_LKs I I9 → gr_PTs I I9 → ((0 ≤ v1_11 ∧ v1_11 ≤ 7) ∧ (I9 0 71 = 1) ∧ (0 ≤ p_11) ∧ (I9 0 72 ≤ I9 0 69) ∧ (I9 0 72 ≤ I9 0 73) ∧ (I9 0 69 = I 0 69) ∧ (I 0 73 ≤ I9 0 73) ∧ (I 0 72 ≤ I9 0 72) ∧ (I9 0 6 = I 0 6) ∧ (I9 0 59 - I9 0 72 ≤ I 0 59 - I 0 72) ∧ (I9 0 42 - I9 0 72 ≤ I 0 42 - I 0 72)) → (gr_ATp β N9 p_11 I9 J10) → (gs_qtw β N9 I J p9 = gs_qt1 β N9 I J (gs_X β N9 p_11)) → (v1_11 = I 0 6) → (v2_11 = (gs_rn β N9 p9)) → ((∀ k, I9 17 k = I 17 k) ∧ (∀ k, I9 31 k = I 31 k) ∧ (∀ k, I9 32 k = I 32 k) ∧ (∀ k, I9 33 k = I 33 k) ∧ (∀ k, I9 34 k = I 34 k) ∧ (∀ k, J10 23 k = J 23 k)) → gv_X (gr_E ws0 tb 11 (yX13_pattern, cX13_pattern, 8, (some .boolean)) kX13_pattern) (gv_Q cX13_pattern (some .boolean) (gr_sh ++ ext) (fun r hₚ => (∃ (Iₚ : gr_I) (Jₚ : gr_J), hₚ = gr_h Iₚ Jₚ ∧ gr_Inv Iₚ ∧ gr_fr [42, 59, 71, 72, 73, 74, 75, 76, 77, 106] [17, 23, 31, 32, 33, 34, 35, 51, 64, 65, 66] I Iₚ ∧ gr_fj [42, 59, 71, 72, 73, 74, 75, 76, 77, 106] [17, 23, 31, 32, 33, 34, 35, 51, 64, 65, 66] J Jₚ ∧ (∃ z : Int, r = some (.inl z) ∧ 0 ≤ z ∧ z ≤ 1 ∧ (Iₚ 0 71 = 5 ∨ Iₚ 0 73 ≤ Iₚ 0 69) ∧ (Iₚ 0 72 ≤ Iₚ 0 69) ∧ (Iₚ 0 71 = 0 ∨ (Iₚ 0 72 < Iₚ 0 73 ∧ Iₚ 0 72 < Iₚ 0 69)) ∧ (Iₚ 0 71 = 3 → 2 ≤ Iₚ 0 73 - Iₚ 0 72 ∧ Iₚ 0 73 - Iₚ 0 72 ≤ 14) ∧ (Iₚ 0 72 ≤ Iₚ 0 73) ∧ (Iₚ 0 69 = I 0 69) ∧ (I 0 73 ≤ Iₚ 0 73) ∧ (I 0 72 ≤ Iₚ 0 72) ∧ (Iₚ 0 59 - Iₚ 0 72 ≤ I 0 59 - I 0 72) ∧ (Iₚ 0 42 - Iₚ 0 72 ≤ I 0 42 - I 0 72) ∧ (gr_LKs I Iₚ) ∧ (gr_PTs I Iₚ) ∧ (gs_Or z (0 ≤ (gs_pat β N9 I J (I 0 78) p9) ∧ gr_ATp β N9 (gs_pat β N9 I J (I 0 78) p9) Iₚ Jₚ ∧ gs_Upat (gs_rn β N9 p9) (gs_ptw β N9 I J p9).2 I J Iₚ Jₚ ∧ gs_Uct β N9 I J p9 Iₚ) ((gs_pat β N9 I J (I 0 78) p9) < 0 ∧ Iₚ 0 77 = -1 - (gs_pat β N9 I J (I 0 78) p9) ∧ gs_Spt I J Iₚ Jₚ ∧ ∀ j, Iₚ 33 j = I 33 j ∧ Iₚ 34 j = I 34 j)))))) (46, [(0, .inr (.inr (some 0))), (1, .inl v1_11), (2, .inr (.inl v2_11))], [], gr_sh ++ ext, gr_h I9 J10) := by
  have FI : gr_fr [42, 59, 71, 72, 73, 74, 75, 76, 77, 106] [17, 23, 31, 32, 33, 34, 35, 51, 64, 65, 66] I I := fun _ _ _ => rfl
  have FJ : gr_fj [42, 59, 71, 72, 73, 74, 75, 76, 77, 106] [17, 23, 31, 32, 33, 34, 35, 51, 64, 65, 66] J J := fun _ _ _ => rfl
  have hD : gv_D (gr_E ws0 tb 11 (yX13_pattern, cX13_pattern, 8, (some .boolean)) kX13_pattern) := gq_of oX13_pattern
  have tAT := gr_ATp_l x8
  skip
  have KW := x10
  have f1 := (gr_b_0_71 hI)
  have f2 := (gr_b_0_72 hI)
  have f3 := (gr_b_0_73 hI)
  have f4 := (gr_b_0_69 hI)
  have f5 := (gr_b_0_6 hI)
  have f6 := (gr_b_0_59 hI)
  have f7 := (gr_b_0_42 hI)
  have f8 := (gr_b_0_106 hI)
  have KLK_I : gr_LKs I I := gr_LKs_rf
  have KPT_I : gr_PTs I I := gr_PTs_rf
  intro I9 J10 v1_11 v2_11 p_11 hI9 FI9 FJ10 KLK_I9 KPT_I9 m_11 e2_11 e3_11 e4_11 e5_11 e6_11
  obtain ⟨hv1_11, e0_11, e1_11, e7_11, e8_11, e9_11, e10_11, e11_11, e12_11, e13_11, e14_11⟩ := m_11
  have q9_11 := e4_11
  subst q9_11
  have f12 := (gr_b_0_71 hI9)
  have f13 := (gr_b_0_72 hI9)
  have f14 := (gr_b_0_73 hI9)
  have f15 := (gr_b_0_69 hI9)
  have f16 := (gr_b_0_6 hI9)
  have f17 := (gr_b_0_59 hI9)
  have f18 := (gr_b_0_42 hI9)
  have f19 := (gr_b_0_106 hI9)
  have t20 := gr_ATp_l e2_11
  have L207 : ∀ (I21 : gr_I) (J22 : gr_J) (v4_23 : Int) (p_23 : Int), gr_Inv I21 → gr_fr [42, 59, 71, 72, 73, 74, 75, 76, 77, 106] [17, 23, 31, 32, 33, 34, 35, 51, 64, 65, 66] I I21 → gr_fj [42, 59, 71, 72, 73, 74, 75, 76, 77, 106] [17, 23, 31, 32, 33, 34, 35, 51, 64, 65, 66] J J22 → gr_LKs I I21 → gr_PTs I I21 → ((0 ≤ (I 0 6) ∧ (I 0 6) ≤ 7) ∧ (0 ≤ v4_23 ∧ v4_23 ≤ 24) ∧ (v4_23 ≤ 24) ∧ (0 ≤ p_23) ∧ (I21 0 72 ≤ I21 0 69) ∧ (I21 0 72 ≤ I21 0 73) ∧ (I21 0 69 = I 0 69) ∧ (I 0 73 ≤ I21 0 73) ∧ (I 0 72 ≤ I21 0 72) ∧ (I21 0 6 = I 0 6) ∧ (I21 0 59 - I21 0 72 ≤ I 0 59 - I 0 72) ∧ (I21 0 42 - I21 0 72 ≤ I 0 42 - I 0 72)) → (gr_ATp β N9 p_23 I21 J22) → (gs_qtw β N9 I J p9 = gs_qt2 β N9 I J (fo_ll (gs_en9 I21) v4_23) p_23) → (v2_11 = (gs_rn β N9 p9)) → (gs_eok I21 v4_23) → ((∀ k, I21 17 k = I 17 k) ∧ (∀ k, I21 31 k = I 31 k) ∧ (∀ k, I21 32 k = I 32 k) ∧ (∀ k, I21 33 k = I 33 k) ∧ (∀ k, I21 34 k = I 34 k) ∧ (∀ k, J22 23 k = J 23 k)) → gv_X (gr_E ws0 tb 11 (yX13_pattern, cX13_pattern, 8, (some .boolean)) kX13_pattern) (gv_Q cX13_pattern (some .boolean) (gr_sh ++ ext) (fun r hₚ => (∃ (Iₚ : gr_I) (Jₚ : gr_J), hₚ = gr_h Iₚ Jₚ ∧ gr_Inv Iₚ ∧ gr_fr [42, 59, 71, 72, 73, 74, 75, 76, 77, 106] [17, 23, 31, 32, 33, 34, 35, 51, 64, 65, 66] I Iₚ ∧ gr_fj [42, 59, 71, 72, 73, 74, 75, 76, 77, 106] [17, 23, 31, 32, 33, 34, 35, 51, 64, 65, 66] J Jₚ ∧ (∃ z : Int, r = some (.inl z) ∧ 0 ≤ z ∧ z ≤ 1 ∧ (Iₚ 0 71 = 5 ∨ Iₚ 0 73 ≤ Iₚ 0 69) ∧ (Iₚ 0 72 ≤ Iₚ 0 69) ∧ (Iₚ 0 71 = 0 ∨ (Iₚ 0 72 < Iₚ 0 73 ∧ Iₚ 0 72 < Iₚ 0 69)) ∧ (Iₚ 0 71 = 3 → 2 ≤ Iₚ 0 73 - Iₚ 0 72 ∧ Iₚ 0 73 - Iₚ 0 72 ≤ 14) ∧ (Iₚ 0 72 ≤ Iₚ 0 73) ∧ (Iₚ 0 69 = I 0 69) ∧ (I 0 73 ≤ Iₚ 0 73) ∧ (I 0 72 ≤ Iₚ 0 72) ∧ (Iₚ 0 59 - Iₚ 0 72 ≤ I 0 59 - I 0 72) ∧ (Iₚ 0 42 - Iₚ 0 72 ≤ I 0 42 - I 0 72) ∧ (gr_LKs I Iₚ) ∧ (gr_PTs I Iₚ) ∧ (gs_Or z (0 ≤ (gs_pat β N9 I J (I 0 78) p9) ∧ gr_ATp β N9 (gs_pat β N9 I J (I 0 78) p9) Iₚ Jₚ ∧ gs_Upat (gs_rn β N9 p9) (gs_ptw β N9 I J p9).2 I J Iₚ Jₚ ∧ gs_Uct β N9 I J p9 Iₚ) ((gs_pat β N9 I J (I 0 78) p9) < 0 ∧ Iₚ 0 77 = -1 - (gs_pat β N9 I J (I 0 78) p9) ∧ gs_Spt I J Iₚ Jₚ ∧ ∀ j, Iₚ 33 j = I 33 j ∧ Iₚ 34 j = I 34 j)))))) (207, [(0, .inr (.inr (some 0))), (1, .inl (I 0 6)), (2, .inr (.inl v2_11)), (4, .inl v4_23)], [], gr_sh ++ ext, gr_h I21 J22) := r_pattern_p_L46_L207 (ws0 := ws0) (tb := tb) hws htb ext β N9 p9 I J hI x1 x4 x5 x6 x7 x8 x9 x10 x11 v2_11
  have L64 : ∀ (I752 : gr_I) (J753 : gr_J) (v4_754 : Int) (p_754 : Int), gr_Inv I752 → gr_fr [42, 59, 71, 72, 73, 74, 75, 76, 77, 106] [17, 23, 31, 32, 33, 34, 35, 51, 64, 65, 66] I I752 → gr_fj [42, 59, 71, 72, 73, 74, 75, 76, 77, 106] [17, 23, 31, 32, 33, 34, 35, 51, 64, 65, 66] J J753 → gr_LKs I I752 → gr_PTs I I752 → ((0 ≤ (I 0 6) ∧ (I 0 6) ≤ 7) ∧ (0 ≤ v4_754 ∧ v4_754 ≤ 0) ∧ (I752 0 71 = 1) ∧ (0 ≤ p_754) ∧ (I752 0 72 ≤ I752 0 69) ∧ (I752 0 72 ≤ I752 0 73) ∧ (I752 0 69 = I 0 69) ∧ (I 0 73 ≤ I752 0 73) ∧ (I 0 72 ≤ I752 0 72) ∧ (I752 0 6 = I 0 6) ∧ (I752 0 59 - I752 0 72 ≤ I 0 59 - I 0 72) ∧ (I752 0 42 - I752 0 72 ≤ I 0 42 - I 0 72)) → (gr_ATp β N9 p_754 I752 J753) → (gs_qtw β N9 I J p9 = gs_qtO β N9 I J (gs_X β N9 p_754)) → (v2_11 = (gs_rn β N9 p9)) → ((∀ k, I752 17 k = I 17 k) ∧ (∀ k, I752 31 k = I 31 k) ∧ (∀ k, I752 32 k = I 32 k) ∧ (∀ k, I752 33 k = I 33 k) ∧ (∀ k, I752 34 k = I 34 k) ∧ (∀ k, J753 23 k = J 23 k)) → gv_X (gr_E ws0 tb 11 (yX13_pattern, cX13_pattern, 8, (some .boolean)) kX13_pattern) (gv_Q cX13_pattern (some .boolean) (gr_sh ++ ext) (fun r hₚ => (∃ (Iₚ : gr_I) (Jₚ : gr_J), hₚ = gr_h Iₚ Jₚ ∧ gr_Inv Iₚ ∧ gr_fr [42, 59, 71, 72, 73, 74, 75, 76, 77, 106] [17, 23, 31, 32, 33, 34, 35, 51, 64, 65, 66] I Iₚ ∧ gr_fj [42, 59, 71, 72, 73, 74, 75, 76, 77, 106] [17, 23, 31, 32, 33, 34, 35, 51, 64, 65, 66] J Jₚ ∧ (∃ z : Int, r = some (.inl z) ∧ 0 ≤ z ∧ z ≤ 1 ∧ (Iₚ 0 71 = 5 ∨ Iₚ 0 73 ≤ Iₚ 0 69) ∧ (Iₚ 0 72 ≤ Iₚ 0 69) ∧ (Iₚ 0 71 = 0 ∨ (Iₚ 0 72 < Iₚ 0 73 ∧ Iₚ 0 72 < Iₚ 0 69)) ∧ (Iₚ 0 71 = 3 → 2 ≤ Iₚ 0 73 - Iₚ 0 72 ∧ Iₚ 0 73 - Iₚ 0 72 ≤ 14) ∧ (Iₚ 0 72 ≤ Iₚ 0 73) ∧ (Iₚ 0 69 = I 0 69) ∧ (I 0 73 ≤ Iₚ 0 73) ∧ (I 0 72 ≤ Iₚ 0 72) ∧ (Iₚ 0 59 - Iₚ 0 72 ≤ I 0 59 - I 0 72) ∧ (Iₚ 0 42 - Iₚ 0 72 ≤ I 0 42 - I 0 72) ∧ (gr_LKs I Iₚ) ∧ (gr_PTs I Iₚ) ∧ (gs_Or z (0 ≤ (gs_pat β N9 I J (I 0 78) p9) ∧ gr_ATp β N9 (gs_pat β N9 I J (I 0 78) p9) Iₚ Jₚ ∧ gs_Upat (gs_rn β N9 p9) (gs_ptw β N9 I J p9).2 I J Iₚ Jₚ ∧ gs_Uct β N9 I J p9 Iₚ) ((gs_pat β N9 I J (I 0 78) p9) < 0 ∧ Iₚ 0 77 = -1 - (gs_pat β N9 I J (I 0 78) p9) ∧ gs_Spt I J Iₚ Jₚ ∧ ∀ j, Iₚ 33 j = I 33 j ∧ Iₚ 34 j = I 34 j)))))) (64, [(0, .inr (.inr (some 0))), (1, .inl (I 0 6)), (2, .inr (.inl v2_11)), (4, .inl v4_754)], [], gr_sh ++ ext, gr_h I752 J753) := by
    intro I752 J753 v4_754 p_754 hI752 FI752 FJ753 KLK_I752 KPT_I752 m_754 e2_754 e3_754 e4_754 e5_754
    clear hv1_11 e0_11 e1_11 e7_11 e8_11 e9_11 e10_11 e11_11 e12_11 e13_11 e14_11 f12 f13 f14 f15 f16 f17 f18 f19 t20
    obtain ⟨h_I_0_6__754, hv4_754, e0_754, e1_754, e6_754, e7_754, e8_754, e9_754, e10_754, e11_754, e12_754, e13_754⟩ := m_754
    have f755 := (gr_b_0_71 hI752)
    have f756 := (gr_b_0_72 hI752)
    have f757 := (gr_b_0_73 hI752)
    have f758 := (gr_b_0_69 hI752)
    have f759 := (gr_b_0_6 hI752)
    have f760 := (gr_b_0_59 hI752)
    have f761 := (gr_b_0_42 hI752)
    have f762 := (gr_b_0_106 hI752)
    have t763 := gr_ATp_l e2_754
    have L130 : ∀ (n : Nat) (I764 : gr_I) (J765 : gr_J) (v4_766 : Int) (v5_766 : Int) (v6_766 : Int) (v7_766 : Int) (p_766 : Int), (25 - v4_766).toNat < n → gr_Inv I764 → gr_fr [42, 59, 71, 72, 73, 74, 75, 76, 77, 106] [17, 23, 31, 32, 33, 34, 35, 51, 64, 65, 66] I I764 → gr_fj [42, 59, 71, 72, 73, 74, 75, 76, 77, 106] [17, 23, 31, 32, 33, 34, 35, 51, 64, 65, 66] J J765 → gr_LKs I I764 → gr_PTs I I764 → ((0 ≤ (I 0 6) ∧ (I 0 6) ≤ 7) ∧ (0 ≤ v4_766 ∧ v4_766 ≤ 24) ∧ (0 ≤ v5_766 ∧ v5_766 ≤ 23) ∧ (0 ≤ v6_766 ∧ v6_766 ≤ 4584) ∧ (0 ≤ v7_766 ∧ v7_766 ≤ 24) ∧ (v4_766 = v7_766) ∧ (0 ≤ p_766) ∧ (I764 0 72 ≤ I764 0 69) ∧ (I764 0 72 ≤ I764 0 73) ∧ (I764 0 69 = I 0 69) ∧ (I 0 73 ≤ I764 0 73) ∧ (I 0 72 ≤ I764 0 72) ∧ (I764 0 6 = I 0 6) ∧ (I764 0 59 - I764 0 72 ≤ I 0 59 - I 0 72) ∧ (I764 0 42 - I764 0 72 ≤ I 0 42 - I 0 72)) → (gr_ATp β N9 p_766 I764 J765) → (gs_qtw β N9 I J p9 = gs_qt2 β N9 I J (gs_dl I (I 0 6) v5_766) p_766) → (v2_11 = (gs_rn β N9 p9)) → (gs_cp9 I I764 (24 * (24 * I 0 6 + v5_766)) v7_766) → (v6_766 = 24 * (24 * I 0 6 + v5_766)) → (v7_766 ≤ I 31 (Int.toNat (24 * I 0 6 + v5_766))) → (v5_766 < I 17 (Int.toNat (I 0 6))) → ((∀ k, I764 17 k = I 17 k) ∧ (∀ k, I764 31 k = I 31 k) ∧ (∀ k, I764 32 k = I 32 k) ∧ (∀ k, I764 33 k = I 33 k) ∧ (∀ k, I764 34 k = I 34 k) ∧ (∀ k, J765 23 k = J 23 k)) → gv_X (gr_E ws0 tb 11 (yX13_pattern, cX13_pattern, 8, (some .boolean)) kX13_pattern) (gv_Q cX13_pattern (some .boolean) (gr_sh ++ ext) (fun r hₚ => (∃ (Iₚ : gr_I) (Jₚ : gr_J), hₚ = gr_h Iₚ Jₚ ∧ gr_Inv Iₚ ∧ gr_fr [42, 59, 71, 72, 73, 74, 75, 76, 77, 106] [17, 23, 31, 32, 33, 34, 35, 51, 64, 65, 66] I Iₚ ∧ gr_fj [42, 59, 71, 72, 73, 74, 75, 76, 77, 106] [17, 23, 31, 32, 33, 34, 35, 51, 64, 65, 66] J Jₚ ∧ (∃ z : Int, r = some (.inl z) ∧ 0 ≤ z ∧ z ≤ 1 ∧ (Iₚ 0 71 = 5 ∨ Iₚ 0 73 ≤ Iₚ 0 69) ∧ (Iₚ 0 72 ≤ Iₚ 0 69) ∧ (Iₚ 0 71 = 0 ∨ (Iₚ 0 72 < Iₚ 0 73 ∧ Iₚ 0 72 < Iₚ 0 69)) ∧ (Iₚ 0 71 = 3 → 2 ≤ Iₚ 0 73 - Iₚ 0 72 ∧ Iₚ 0 73 - Iₚ 0 72 ≤ 14) ∧ (Iₚ 0 72 ≤ Iₚ 0 73) ∧ (Iₚ 0 69 = I 0 69) ∧ (I 0 73 ≤ Iₚ 0 73) ∧ (I 0 72 ≤ Iₚ 0 72) ∧ (Iₚ 0 59 - Iₚ 0 72 ≤ I 0 59 - I 0 72) ∧ (Iₚ 0 42 - Iₚ 0 72 ≤ I 0 42 - I 0 72) ∧ (gr_LKs I Iₚ) ∧ (gr_PTs I Iₚ) ∧ (gs_Or z (0 ≤ (gs_pat β N9 I J (I 0 78) p9) ∧ gr_ATp β N9 (gs_pat β N9 I J (I 0 78) p9) Iₚ Jₚ ∧ gs_Upat (gs_rn β N9 p9) (gs_ptw β N9 I J p9).2 I J Iₚ Jₚ ∧ gs_Uct β N9 I J p9 Iₚ) ((gs_pat β N9 I J (I 0 78) p9) < 0 ∧ Iₚ 0 77 = -1 - (gs_pat β N9 I J (I 0 78) p9) ∧ gs_Spt I J Iₚ Jₚ ∧ ∀ j, Iₚ 33 j = I 33 j ∧ Iₚ 34 j = I 34 j)))))) (130, [(0, .inr (.inr (some 0))), (1, .inl (I 0 6)), (2, .inr (.inl v2_11)), (4, .inl v4_766), (5, .inl v5_766), (6, .inl v6_766), (7, .inl v7_766)], [], gr_sh ++ ext, gr_h I764 J765) := by
      intro n
      induction n with
      | zero => intro I764 J765 v4_766 v5_766 v6_766 v7_766 p_766 hn; exact gz_m 443 (by omega)
      | succ n ih130 =>
        intro I764 J765 v4_766 v5_766 v6_766 v7_766 p_766 hn hI764 FI764 FJ765 KLK_I764 KPT_I764 m_766 e2_766 e3_766 e4_766 e5_766 e6_766 e7_766 e8_766 e9_766
        clear h_I_0_6__754 hv4_754 e0_754 e1_754 e6_754 e7_754 e8_754 e9_754 e10_754 e11_754 e12_754 e13_754 f755 f756 f757 f758 f759 f760 f761 f762 t763
        obtain ⟨h_I_0_6__766, hv4_766, hv5_766, hv6_766, hv7_766, e0_766, e1_766, e10_766, e11_766, e12_766, e13_766, e14_766, e15_766, e16_766, e17_766⟩ := m_766
        have f767 := (gr_b_0_71 hI764)
        have f768 := (gr_b_0_72 hI764)
        have f769 := (gr_b_0_73 hI764)
        have f770 := (gr_b_0_69 hI764)
        have f771 := (gr_b_0_6 hI764)
        have f772 := (gr_b_0_59 hI764)
        have f773 := (gr_b_0_42 hI764)
        have f774 := (gr_b_0_106 hI764)
        have t775 := gr_ATp_l e2_766
        refine gv_run 7 true hD (pcₚ := 142) (lvₚ := [(0, .inr (.inr (some 0))), (1, .inl (I 0 6)), (2, .inr (.inl v2_11)), (4, .inl v4_766), (5, .inl v5_766), (6, .inl v6_766), (7, .inl v7_766)]) (stₚ := [.inl v5_766, .inl (24 * (I 0 6)), .inr (.inr (some 31)), .inl v7_766]) (hₚ := gr_h I764 J765) (C := (((((((True ∧ True) ∧ True) ∧ True) ∧ True) ∧ True) ∧ True) ∧ True)) rfl ⟨⟨⟨⟨⟨⟨⟨trivial, trivial⟩, trivial⟩, trivial⟩, trivial⟩, trivial⟩, trivial⟩, trivial⟩ ?_
        have f776 := (gr_b_31 hI764 (Int.toNat (((24 * (I 0 6)) + v5_766))))
        refine gv_run 2 true hD (pcₚ := 144) (lvₚ := [(0, .inr (.inr (some 0))), (1, .inl (I 0 6)), (2, .inr (.inl v2_11)), (4, .inl v4_766), (5, .inl v5_766), (6, .inl v6_766), (7, .inl v7_766)]) (stₚ := [.inl (I764 31 (Int.toNat (((24 * (I 0 6)) + v5_766)))), .inl v7_766]) (hₚ := gr_h I764 J765) (C := ((True ∧ True) ∧ (0 ≤ (((24 * (I 0 6)) + v5_766)) ∧ (((24 * (I 0 6)) + v5_766)) < ((192 : Nat) : Int)))) rfl ⟨⟨trivial, trivial⟩, ⟨by exact gz_m 444 (by omega), by exact gz_m 445 (by omega)⟩⟩ ?_
        have t777 := (show I764 31 (Int.toNat ((24 * (I 0 6)) + v5_766)) = I 31 (Int.toNat (24 * I 0 6 + v5_766)) from (e9_766.2.1 _))
        have t778 := (gr_b_31 hI (Int.toNat (24 * I 0 6 + v5_766)))
        refine gv_icmp_ge (t := 207) hD rfl rfl ⟨⟨by exact gz_m 446 (by omega), by exact gz_m 447 (by omega)⟩, ⟨by exact gz_m 448 (by omega), by exact gz_m 449 (by omega)⟩⟩ (fun c779 => ?_) (fun c779 => ?_)
        · refine gv_pick [0, 1, 2, 3] rfl ?_
          exact L207 I764 J765 v4_766 p_766 hI764 FI764 FJ765 KLK_I764 KPT_I764 (by exact gz_m 450 (by omega)) e2_766 (e3_766.trans (by rw [(gs_cp9_e (n := v4_766) (fun j hj => e5_766 j (by exact gz_m 451 (by omega))) (by have h9 := (x11.2 (I 0 6) v5_766 (by exact gz_m 452 (by omega)) (by exact gz_m 453 (by omega)) (by exact gz_m 454 (by omega)) (by exact gz_m 455 (by omega))).2; rw [show I 31 (Int.toNat (24 * I 0 6 + v5_766)) = v4_766 from by exact gz_m 456 (by omega)] at h9; exact h9) KLK_I764 KPT_I764).1]; unfold gs_dl; rw [show I 31 (Int.toNat (24 * I 0 6 + v5_766)) = v4_766 from by exact gz_m 457 (by omega)])) e4_766 (gs_cp9_e (n := v4_766) (fun j hj => e5_766 j (by exact gz_m 458 (by omega))) (by have h9 := (x11.2 (I 0 6) v5_766 (by exact gz_m 459 (by omega)) (by exact gz_m 460 (by omega)) (by exact gz_m 461 (by omega)) (by exact gz_m 462 (by omega))).2; rw [show I 31 (Int.toNat (24 * I 0 6 + v5_766)) = v4_766 from by exact gz_m 463 (by omega)] at h9; exact h9) KLK_I764 KPT_I764).2 ⟨(fun k => (e9_766.1 k)), (fun k => (e9_766.2.1 k)), (fun k => (e9_766.2.2.1 k)), (fun k => (e9_766.2.2.2.1 k)), (fun k => (e9_766.2.2.2.2.1 k)), (fun k => (e9_766.2.2.2.2.2 k))⟩
        · refine gv_run 7 true hD (pcₚ := 161) (lvₚ := [(0, .inr (.inr (some 0))), (1, .inl (I 0 6)), (2, .inr (.inl v2_11)), (4, .inl v4_766), (5, .inl v5_766), (6, .inl v6_766), (7, .inl v7_766)]) (stₚ := [.inl v7_766, .inl v6_766, .inr (.inr (some 32)), .inl v4_766, .inr (.inr (some 64))]) (hₚ := gr_h I764 J765) (C := (((((((True ∧ True) ∧ True) ∧ True) ∧ True) ∧ True) ∧ True) ∧ True)) rfl ⟨⟨⟨⟨⟨⟨⟨trivial, trivial⟩, trivial⟩, trivial⟩, trivial⟩, trivial⟩, trivial⟩, trivial⟩ ?_
          have f780 := (gr_b_32 hI764 (Int.toNat ((v6_766 + v7_766))))
          refine gv_run 2 true hD (pcₚ := 163) (lvₚ := [(0, .inr (.inr (some 0))), (1, .inl (I 0 6)), (2, .inr (.inl v2_11)), (4, .inl v4_766), (5, .inl v5_766), (6, .inl v6_766), (7, .inl v7_766)]) (stₚ := [.inl (I764 32 (Int.toNat ((v6_766 + v7_766)))), .inl v4_766, .inr (.inr (some 64))]) (hₚ := gr_h I764 J765) (C := ((True ∧ True) ∧ (0 ≤ (v6_766 + v7_766) ∧ (v6_766 + v7_766) < ((4608 : Nat) : Int)))) rfl ⟨⟨trivial, trivial⟩, ⟨by exact gz_m 464 (by omega), by exact gz_m 465 (by omega)⟩⟩ ?_
          refine gv_run 1 true hD (pcₚ := 164) (lvₚ := [(0, .inr (.inr (some 0))), (1, .inl (I 0 6)), (2, .inr (.inl v2_11)), (4, .inl v4_766), (5, .inl v5_766), (6, .inl v6_766), (7, .inl v7_766)]) (stₚ := []) (hₚ := gz_up (gr_h I764 J765) 64 (Int.toNat v4_766) (.inl ((I764 32 (Int.toNat ((v6_766 + v7_766))))))) (C := (True ∧ (0 ≤ v4_766 ∧ v4_766 < ((420 : Nat) : Int)))) rfl ⟨trivial, ⟨by exact gz_m 466 (by omega), by exact gz_m 467 (by omega)⟩⟩ ?_
          refine gr_st hI764 FI764 rfl rfl ⟨⟨by show 0 ≤ _; exact gz_m 468 (by omega), by show _ ≤ 16777215; exact gz_m 469 (by omega)⟩, trivial⟩ (fun I781 hI781 FI781 q782 p782 => ?_)
          have t783 := p782 0 71 (fun q => absurd q.1 (by first | exact gz_ne rfl | decide))
          have t784 := p782 0 72 (fun q => absurd q.1 (by first | exact gz_ne rfl | decide))
          have t785 := p782 0 73 (fun q => absurd q.1 (by first | exact gz_ne rfl | decide))
          have t786 := p782 0 69 (fun q => absurd q.1 (by first | exact gz_ne rfl | decide))
          have t787 := p782 0 6 (fun q => absurd q.1 (by first | exact gz_ne rfl | decide))
          have t788 := p782 0 59 (fun q => absurd q.1 (by first | exact gz_ne rfl | decide))
          have t789 := p782 0 42 (fun q => absurd q.1 (by first | exact gz_ne rfl | decide))
          have t790 := p782 0 106 (fun q => absurd q.1 (by first | exact gz_ne rfl | decide))
          have t791 := p782 17 (Int.toNat ((I 0 6))) (fun q => absurd q.1 (by first | exact gz_ne rfl | decide))
          have t792 := p782 65 (Int.toNat v5_766) (fun q => absurd q.1 (by first | exact gz_ne rfl | decide))
          have f793 := (gr_b_0_71 hI781)
          have f794 := (gr_b_0_72 hI781)
          have f795 := (gr_b_0_73 hI781)
          have f796 := (gr_b_0_69 hI781)
          have f797 := (gr_b_0_6 hI781)
          have f798 := (gr_b_0_59 hI781)
          have f799 := (gr_b_0_42 hI781)
          have f800 := (gr_b_0_106 hI781)
          have KLK_I781 := gr_LKs_fr KLK_I764 (fun k => p782 51 k (fun q => absurd q.1 (by first | exact gz_ne rfl | decide))) (p782 0 59 (fun q => absurd q.1 (by first | exact gz_ne rfl | decide)))
          have KPT_I781 := gr_PTs_fr KPT_I764 (fun k => p782 35 k (fun q => absurd q.1 (by first | exact gz_ne rfl | decide))) (p782 0 42 (fun q => absurd q.1 (by first | exact gz_ne rfl | decide)))
          have A801 := gr_ATp_sr e2_766 p782 rfl
          refine gv_run 7 true hD (pcₚ := 178) (lvₚ := [(0, .inr (.inr (some 0))), (1, .inl (I 0 6)), (2, .inr (.inl v2_11)), (4, .inl v4_766), (5, .inl v5_766), (6, .inl v6_766), (7, .inl v7_766)]) (stₚ := [.inl v7_766, .inl v6_766, .inr (.inr (some 33)), .inl v4_766, .inr (.inr (some 65))]) (hₚ := gr_h I781 J765) (C := (((((((True ∧ True) ∧ True) ∧ True) ∧ True) ∧ True) ∧ True) ∧ True)) rfl ⟨⟨⟨⟨⟨⟨⟨trivial, trivial⟩, trivial⟩, trivial⟩, trivial⟩, trivial⟩, trivial⟩, trivial⟩ ?_
          have f802 := (gr_b_33 hI781 (Int.toNat ((v6_766 + v7_766))))
          refine gv_run 2 true hD (pcₚ := 180) (lvₚ := [(0, .inr (.inr (some 0))), (1, .inl (I 0 6)), (2, .inr (.inl v2_11)), (4, .inl v4_766), (5, .inl v5_766), (6, .inl v6_766), (7, .inl v7_766)]) (stₚ := [.inl (I781 33 (Int.toNat ((v6_766 + v7_766)))), .inl v4_766, .inr (.inr (some 65))]) (hₚ := gr_h I781 J765) (C := ((True ∧ True) ∧ (0 ≤ (v6_766 + v7_766) ∧ (v6_766 + v7_766) < ((4608 : Nat) : Int)))) rfl ⟨⟨trivial, trivial⟩, ⟨by exact gz_m 470 (by omega), by exact gz_m 471 (by omega)⟩⟩ ?_
          refine gv_run 1 true hD (pcₚ := 181) (lvₚ := [(0, .inr (.inr (some 0))), (1, .inl (I 0 6)), (2, .inr (.inl v2_11)), (4, .inl v4_766), (5, .inl v5_766), (6, .inl v6_766), (7, .inl v7_766)]) (stₚ := []) (hₚ := gz_up (gr_h I781 J765) 65 (Int.toNat v4_766) (.inl ((I781 33 (Int.toNat ((v6_766 + v7_766))))))) (C := (True ∧ (0 ≤ v4_766 ∧ v4_766 < ((420 : Nat) : Int)))) rfl ⟨trivial, ⟨by exact gz_m 472 (by omega), by exact gz_m 473 (by omega)⟩⟩ ?_
          refine gr_st hI781 FI781 rfl rfl ⟨⟨by show 0 ≤ _; exact gz_m 474 (by omega), by show _ ≤ 2000; exact gz_m 475 (by omega)⟩, trivial⟩ (fun I803 hI803 FI803 q804 p804 => ?_)
          have t805 := p804 0 71 (fun q => absurd q.1 (by first | exact gz_ne rfl | decide))
          have t806 := p804 0 72 (fun q => absurd q.1 (by first | exact gz_ne rfl | decide))
          have t807 := p804 0 73 (fun q => absurd q.1 (by first | exact gz_ne rfl | decide))
          have t808 := p804 0 69 (fun q => absurd q.1 (by first | exact gz_ne rfl | decide))
          have t809 := p804 0 6 (fun q => absurd q.1 (by first | exact gz_ne rfl | decide))
          have t810 := p804 0 59 (fun q => absurd q.1 (by first | exact gz_ne rfl | decide))
          have t811 := p804 0 42 (fun q => absurd q.1 (by first | exact gz_ne rfl | decide))
          have t812 := p804 0 106 (fun q => absurd q.1 (by first | exact gz_ne rfl | decide))
          have t813 := p804 17 (Int.toNat ((I 0 6))) (fun q => absurd q.1 (by first | exact gz_ne rfl | decide))
          have f814 := (gr_b_0_71 hI803)
          have f815 := (gr_b_0_72 hI803)
          have f816 := (gr_b_0_73 hI803)
          have f817 := (gr_b_0_69 hI803)
          have f818 := (gr_b_0_6 hI803)
          have f819 := (gr_b_0_59 hI803)
          have f820 := (gr_b_0_42 hI803)
          have f821 := (gr_b_0_106 hI803)
          have KLK_I803 := gr_LKs_fr KLK_I781 (fun k => p804 51 k (fun q => absurd q.1 (by first | exact gz_ne rfl | decide))) (p804 0 59 (fun q => absurd q.1 (by first | exact gz_ne rfl | decide)))
          have KPT_I803 := gr_PTs_fr KPT_I781 (fun k => p804 35 k (fun q => absurd q.1 (by first | exact gz_ne rfl | decide))) (p804 0 42 (fun q => absurd q.1 (by first | exact gz_ne rfl | decide)))
          have A822 := gr_ATp_sr A801 p804 rfl
          refine gv_run 7 true hD (pcₚ := 196) (lvₚ := [(4, .inl (v4_766 + 1)), (0, .inr (.inr (some 0))), (1, .inl (I 0 6)), (2, .inr (.inl v2_11)), (5, .inl v5_766), (6, .inl v6_766), (7, .inl v7_766)]) (stₚ := [.inl v6_766, .inr (.inr (some 34)), .inl v4_766, .inr (.inr (some 66))]) (hₚ := gr_h I803 J765) (C := (((((((True ∧ True) ∧ True) ∧ True) ∧ True) ∧ True) ∧ True) ∧ True)) rfl ⟨⟨⟨⟨⟨⟨⟨trivial, trivial⟩, trivial⟩, trivial⟩, trivial⟩, trivial⟩, trivial⟩, trivial⟩ ?_
          have f823 := (gr_b_34 hI803 (Int.toNat ((v6_766 + v7_766))))
          refine gv_run 3 true hD (pcₚ := 200) (lvₚ := [(4, .inl (v4_766 + 1)), (0, .inr (.inr (some 0))), (1, .inl (I 0 6)), (2, .inr (.inl v2_11)), (5, .inl v5_766), (6, .inl v6_766), (7, .inl v7_766)]) (stₚ := [.inl (I803 34 (Int.toNat ((v6_766 + v7_766)))), .inl v4_766, .inr (.inr (some 66))]) (hₚ := gr_h I803 J765) (C := (((True ∧ True) ∧ True) ∧ (0 ≤ (v6_766 + v7_766) ∧ (v6_766 + v7_766) < ((4608 : Nat) : Int)))) rfl ⟨⟨⟨trivial, trivial⟩, trivial⟩, ⟨by exact gz_m 476 (by omega), by exact gz_m 477 (by omega)⟩⟩ ?_
          refine gv_run 1 true hD (pcₚ := 201) (lvₚ := [(4, .inl (v4_766 + 1)), (0, .inr (.inr (some 0))), (1, .inl (I 0 6)), (2, .inr (.inl v2_11)), (5, .inl v5_766), (6, .inl v6_766), (7, .inl v7_766)]) (stₚ := []) (hₚ := gz_up (gr_h I803 J765) 66 (Int.toNat v4_766) (.inl ((I803 34 (Int.toNat ((v6_766 + v7_766))))))) (C := (True ∧ (0 ≤ v4_766 ∧ v4_766 < ((420 : Nat) : Int)))) rfl ⟨trivial, ⟨by exact gz_m 478 (by omega), by exact gz_m 479 (by omega)⟩⟩ ?_
          refine gr_st hI803 FI803 rfl rfl ⟨⟨by show (-1) ≤ _; exact gz_m 480 (by omega), by show _ ≤ 2000; exact gz_m 481 (by omega)⟩, trivial⟩ (fun I824 hI824 FI824 q825 p825 => ?_)
          have t826 := p825 0 71 (fun q => absurd q.1 (by first | exact gz_ne rfl | decide))
          have t827 := p825 0 72 (fun q => absurd q.1 (by first | exact gz_ne rfl | decide))
          have t828 := p825 0 73 (fun q => absurd q.1 (by first | exact gz_ne rfl | decide))
          have t829 := p825 0 69 (fun q => absurd q.1 (by first | exact gz_ne rfl | decide))
          have t830 := p825 0 6 (fun q => absurd q.1 (by first | exact gz_ne rfl | decide))
          have t831 := p825 0 59 (fun q => absurd q.1 (by first | exact gz_ne rfl | decide))
          have t832 := p825 0 42 (fun q => absurd q.1 (by first | exact gz_ne rfl | decide))
          have t833 := p825 0 106 (fun q => absurd q.1 (by first | exact gz_ne rfl | decide))
          have t834 := p825 17 (Int.toNat ((I 0 6))) (fun q => absurd q.1 (by first | exact gz_ne rfl | decide))
          have t835 := p825 65 (Int.toNat v5_766) (fun q => absurd q.1 (by first | exact gz_ne rfl | decide))
          have f836 := (gr_b_0_71 hI824)
          have f837 := (gr_b_0_72 hI824)
          have f838 := (gr_b_0_73 hI824)
          have f839 := (gr_b_0_69 hI824)
          have f840 := (gr_b_0_6 hI824)
          have f841 := (gr_b_0_59 hI824)
          have f842 := (gr_b_0_42 hI824)
          have f843 := (gr_b_0_106 hI824)
          have KLK_I824 := gr_LKs_fr KLK_I803 (fun k => p825 51 k (fun q => absurd q.1 (by first | exact gz_ne rfl | decide))) (p825 0 59 (fun q => absurd q.1 (by first | exact gz_ne rfl | decide)))
          have KPT_I824 := gr_PTs_fr KPT_I803 (fun k => p825 35 k (fun q => absurd q.1 (by first | exact gz_ne rfl | decide))) (p825 0 42 (fun q => absurd q.1 (by first | exact gz_ne rfl | decide)))
          have A844 := gr_ATp_sr A822 p825 rfl
          refine gv_run 2 true hD (pcₚ := 130) (lvₚ := [(7, .inl (v7_766 + 1)), (4, .inl (v4_766 + 1)), (0, .inr (.inr (some 0))), (1, .inl (I 0 6)), (2, .inr (.inl v2_11)), (5, .inl v5_766), (6, .inl v6_766)]) (stₚ := []) (hₚ := gr_h I824 J765) (C := ((True ∧ True) ∧ True)) rfl ⟨⟨trivial, trivial⟩, trivial⟩ ?_
          refine gv_pick [2, 3, 4, 1, 5, 6, 0] rfl ?_
          exact ih130 I824 J765 (v4_766 + 1) v5_766 v6_766 (v7_766 + 1) p_766 (by exact gz_m 482 (by omega)) hI824 FI824 FJ765 KLK_I824 KPT_I824 (by exact gz_m 483 (by omega)) A844 e3_766 e4_766 (fun j hj => by by_cases c : j = Int.toNat v7_766; (exact ⟨(((p825 64 j (fun q => absurd q.1 (by first | exact gz_ne rfl | decide))).trans (p804 64 j (fun q => absurd q.1 (by first | exact gz_ne rfl | decide))))).trans ((congrArg (I781 64) (show j = (Int.toNat v4_766) by exact gz_m 484 (by omega))).trans (q782.trans ((e9_766.2.2.1 _).trans (congrArg (I 32) (by exact gz_m 485 (by omega)))))), ((p825 65 j (fun q => absurd q.1 (by first | exact gz_ne rfl | decide)))).trans ((congrArg (I803 65) (show j = (Int.toNat v4_766) by exact gz_m 486 (by omega))).trans (q804.trans (((p782 33 _ (fun q => absurd q.1 (by first | exact gz_ne rfl | decide))).trans (e9_766.2.2.2.1 _)).trans (congrArg (I 33) (by exact gz_m 487 (by omega)))))), (rfl).trans ((congrArg (I824 66) (show j = (Int.toNat v4_766) by exact gz_m 488 (by omega))).trans (q825.trans ((((p804 34 _ (fun q => absurd q.1 (by first | exact gz_ne rfl | decide))).trans (p782 34 _ (fun q => absurd q.1 (by first | exact gz_ne rfl | decide)))).trans (e9_766.2.2.2.2.1 _)).trans (congrArg (I 34) (by exact gz_m 489 (by omega))))))⟩); (have h8 := e5_766 j (by exact gz_m 490 (by omega)); exact ⟨((((p825 64 j (fun q => absurd q.1 (by first | exact gz_ne rfl | decide))).trans (p804 64 j (fun q => absurd q.1 (by first | exact gz_ne rfl | decide)))).trans (p782 64 j (fun h => c (by have h9 := h.2; exact gz_m 491 (by omega)))))).trans (h8.1), ((((p825 65 j (fun q => absurd q.1 (by first | exact gz_ne rfl | decide))).trans (p804 65 j (fun h => c (by have h9 := h.2; exact gz_m 492 (by omega))))).trans (p782 65 j (fun q => absurd q.1 (by first | exact gz_ne rfl | decide))))).trans (h8.2.1), ((((p825 66 j (fun h => c (by have h9 := h.2; exact gz_m 493 (by omega)))).trans (p804 66 j (fun q => absurd q.1 (by first | exact gz_ne rfl | decide)))).trans (p782 66 j (fun q => absurd q.1 (by first | exact gz_ne rfl | decide))))).trans (h8.2.2)⟩)) (by exact gz_m 494 (by omega)) (by exact gz_m 495 (by omega)) e8_766 ⟨(fun k => ((((p825 17 k (fun q => absurd q.1 (by first | exact gz_ne rfl | decide))).trans (p804 17 k (fun q => absurd q.1 (by first | exact gz_ne rfl | decide)))).trans (p782 17 k (fun q => absurd q.1 (by first | exact gz_ne rfl | decide)))).trans (e9_766.1 k))), (fun k => ((((p825 31 k (fun q => absurd q.1 (by first | exact gz_ne rfl | decide))).trans (p804 31 k (fun q => absurd q.1 (by first | exact gz_ne rfl | decide)))).trans (p782 31 k (fun q => absurd q.1 (by first | exact gz_ne rfl | decide)))).trans (e9_766.2.1 k))), (fun k => ((((p825 32 k (fun q => absurd q.1 (by first | exact gz_ne rfl | decide))).trans (p804 32 k (fun q => absurd q.1 (by first | exact gz_ne rfl | decide)))).trans (p782 32 k (fun q => absurd q.1 (by first | exact gz_ne rfl | decide)))).trans (e9_766.2.2.1 k))), (fun k => ((((p825 33 k (fun q => absurd q.1 (by first | exact gz_ne rfl | decide))).trans (p804 33 k (fun q => absurd q.1 (by first | exact gz_ne rfl | decide)))).trans (p782 33 k (fun q => absurd q.1 (by first | exact gz_ne rfl | decide)))).trans (e9_766.2.2.2.1 k))), (fun k => ((((p825 34 k (fun q => absurd q.1 (by first | exact gz_ne rfl | decide))).trans (p804 34 k (fun q => absurd q.1 (by first | exact gz_ne rfl | decide)))).trans (p782 34 k (fun q => absurd q.1 (by first | exact gz_ne rfl | decide)))).trans (e9_766.2.2.2.2.1 k))), (fun k => (e9_766.2.2.2.2.2 k))⟩
    refine gv_run 1 true hD (pcₚ := 65) (lvₚ := [(0, .inr (.inr (some 0))), (1, .inl (I 0 6)), (2, .inr (.inl v2_11)), (4, .inl v4_754)]) (stₚ := [.inr (.inr (some 0))]) (hₚ := gr_h I752 J753) (C := (True ∧ True)) rfl ⟨trivial, trivial⟩ ?_
    obtain ⟨r845, h845, E845, P845⟩ := r_next_p (ws0 := ws0) (tb := tb) hws htb ext β N9 I752 J753 hI752   ((gr_ATp_rr e2_754).1.resolve_left (by exact gz_m 496 (by omega))) e2_754.1.1 e2_754.1.2
    obtain ⟨I846, J847, rfl, hI846, g845, k845, ⟨rfl, q845⟩⟩ := P845
    have FI846 := gr_frt FI752 g845 rfl rfl
    have FJ847 := gr_fjt FJ753 k845 rfl rfl
    have t848 := g845 0 69 rfl
    have t849 := g845 0 6 rfl
    have t850 := g845 0 59 rfl
    have t851 := g845 0 42 rfl
    have t852 := g845 0 106 rfl
    have t853 := g845 17 (Int.toNat ((I 0 6))) rfl
    have f854 := (gr_b_0_71 hI846)
    have f855 := (gr_b_0_72 hI846)
    have f856 := (gr_b_0_73 hI846)
    have f857 := (gr_b_0_69 hI846)
    have f858 := (gr_b_0_6 hI846)
    have f859 := (gr_b_0_59 hI846)
    have f860 := (gr_b_0_42 hI846)
    have f861 := (gr_b_0_106 hI846)
    have KLK_I846 := gr_LKs_fr KLK_I752 (fun k => g845 51 k rfl) (g845 0 59 rfl)
    have KPT_I846 := gr_PTs_fr KPT_I752 (fun k => g845 35 k rfl) (g845 0 42 rfl)
    have t862 := (gr_ATp_rr e2_754).2.2.1.resolve_left (by exact gz_m 497 (by omega))
    have A863 := gr_ATp_nx e2_754 q845.2.2.2.2.2
    have t864 := gr_ATp_l A863
    obtain ⟨_, _, -, -, -, -⟩ := q845
    refine gv_callV hD rfl (As := []) (st := []) rfl (by decide) rfl rfl (gr_lV hws rfl) (Nat.le_of_ble_eq_true rfl) (gz_Ev_mono (d := 10) (by decide) E845) ?_
    show gv_X _ _ (68, [(0, .inr (.inr (some 0))), (1, .inl (I 0 6)), (2, .inr (.inl v2_11)), (4, .inl v4_754)], [], gr_sh ++ ext, gr_h I846 J847)
    refine gv_run 1 true hD (pcₚ := 69) (lvₚ := [(0, .inr (.inr (some 0))), (1, .inl (I 0 6)), (2, .inr (.inl v2_11)), (4, .inl v4_754)]) (stₚ := [.inr (.inr (some 0))]) (hₚ := gr_h I846 J847) (C := (True ∧ True)) rfl ⟨trivial, trivial⟩ ?_
    obtain ⟨r865, h865, E865, P865⟩ := r_name_p (ws0 := ws0) (tb := tb) hws htb ext β N9 (gs_X β N9 p_754) I846 J847 hI846   A863 (by exact gz_m 498 (by omega))
    obtain ⟨I866, J867, rfl, hI866, g865, k865, ⟨z865, rfl, q865⟩⟩ := P865
    have FI866 := gr_frt FI846 g865 rfl rfl
    have FJ867 := gr_fjt FJ847 k865 rfl rfl
    have t868 := g865 0 71 rfl
    have t869 := g865 0 72 rfl
    have t870 := g865 0 73 rfl
    have t871 := g865 0 69 rfl
    have t872 := g865 0 6 rfl
    have t873 := g865 0 59 rfl
    have t874 := g865 0 42 rfl
    have t875 := g865 0 106 rfl
    have t876 := g865 17 (Int.toNat ((I 0 6))) rfl
    have f877 := (gr_b_0_71 hI866)
    have f878 := (gr_b_0_72 hI866)
    have f879 := (gr_b_0_73 hI866)
    have f880 := (gr_b_0_69 hI866)
    have f881 := (gr_b_0_6 hI866)
    have f882 := (gr_b_0_59 hI866)
    have f883 := (gr_b_0_42 hI866)
    have f884 := (gr_b_0_106 hI866)
    have KLK_I866 := gr_LKs_fr KLK_I846 (fun k => g865 51 k rfl) (g865 0 59 rfl)
    have KPT_I866 := gr_PTs_fr KPT_I846 (fun k => g865 35 k rfl) (g865 0 42 rfl)
    have V865 := gs_or_mk q865.2.2.2
    have A885 := gr_ATp_F A863 g865 k865 rfl
    have t886 := gr_ATp_l A885
    obtain ⟨_, _, o865, -⟩ := q865
    refine gv_callV hD rfl (As := []) (st := []) rfl (by decide) rfl rfl (gr_lV hws rfl) (Nat.le_of_ble_eq_true rfl) (gz_Ev_mono (d := 3) (by decide) E865) ?_
    show gv_X _ _ (72, [(0, .inr (.inr (some 0))), (1, .inl (I 0 6)), (2, .inr (.inl v2_11)), (4, .inl v4_754)], [.inl z865], gr_sh ++ ext, gr_h I866 J867)
    refine gv_if_ne (t := 77) hD rfl rfl ⟨by exact gz_m 499 (by omega), by exact gz_m 500 (by omega)⟩ (fun c887 => ?_) (fun c887 => ?_)
    · have u888 := gs_or1 V865 (by exact gz_m 501 (by omega))
      have t889 := o865.resolve_left (by exact gz_m 502 (by omega))
      have t890 := (gr_ATp_rr A885).2.2.1.resolve_left (by exact gz_m 503 (by omega))
      clear o865 V865
      refine gv_run 7 true hD (pcₚ := 89) (lvₚ := [(0, .inr (.inr (some 0))), (1, .inl (I 0 6)), (2, .inr (.inl v2_11)), (4, .inl v4_754)]) (stₚ := [.inr (.inr (some 17)), .inl (24 * (I 0 6)), .inr (.inr (some 23))]) (hₚ := gr_h I866 J867) (C := (((((((True ∧ True) ∧ True) ∧ True) ∧ True) ∧ True) ∧ True) ∧ True)) rfl ⟨⟨⟨⟨⟨⟨⟨trivial, trivial⟩, trivial⟩, trivial⟩, trivial⟩, trivial⟩, trivial⟩, trivial⟩ ?_
      have f891 := (gr_b_17 hI866 (Int.toNat ((I 0 6))))
      refine gv_run 2 true hD (pcₚ := 91) (lvₚ := [(0, .inr (.inr (some 0))), (1, .inl (I 0 6)), (2, .inr (.inl v2_11)), (4, .inl v4_754)]) (stₚ := [.inl (I866 17 (Int.toNat ((I 0 6)))), .inl (24 * (I 0 6)), .inr (.inr (some 23))]) (hₚ := gr_h I866 J867) (C := ((True ∧ True) ∧ (0 ≤ (I 0 6) ∧ (I 0 6) < ((8 : Nat) : Int)))) rfl ⟨⟨trivial, trivial⟩, ⟨by exact gz_m 504 (by omega), by exact gz_m 505 (by omega)⟩⟩ ?_
      refine gv_run 2 true hD (pcₚ := 95) (lvₚ := [(0, .inr (.inr (some 0))), (1, .inl (I 0 6)), (2, .inr (.inl v2_11)), (4, .inl v4_754)]) (stₚ := [.inr (.inl (J867 0 75)), .inl (I866 17 (Int.toNat ((I 0 6)))), .inl (24 * (I 0 6)), .inr (.inr (some 23))]) (hₚ := gr_h I866 J867) (C := ((True ∧ True) ∧ True)) rfl ⟨⟨trivial, trivial⟩, trivial⟩ ?_
      obtain ⟨r892, h892, E892, P892⟩ := r_find_23_p (ws0 := ws0) (tb := tb) hws htb ext I866 J867 hI866 ((24 * (I 0 6))) ((I866 17 (Int.toNat ((I 0 6))))) (J867 0 75) ⟨by exact gz_m 506 (by omega), by exact gz_m 507 (by omega)⟩ ⟨by exact gz_m 508 (by omega), by exact gz_m 509 (by omega)⟩ (by exact gz_m 510 (by omega))
      obtain ⟨rfl, ⟨z892, rfl, q892⟩⟩ := P892
      have t893 := q892.2.2.2.trans (gs_lt_eq (J := J) (row := 23) (o := 24 * I 0 6) (n := I 17 (Int.toNat (I 0 6))) (w := gs_rn β N9 (gs_X β N9 p_754)) (fun k => (((k865 23 k rfl).trans (k845 23 k rfl)).trans (e5_754.2.2.2.2.2 k))) (by exact gz_m 511 (by omega)) (by first | exact (((g865 17 _ rfl).trans (g845 17 _ rfl)).trans (e5_754.1 _)) | (rw [show ((I 0 6)) = I 0 6 from by exact gz_m 512 (by omega)]; exact (((g865 17 _ rfl).trans (g845 17 _ rfl)).trans (e5_754.1 _)))) (gr_ATp_w A885))
      refine gv_callS hD rfl (As := [.inr (.inr (some 23)), .inl (24 * (I 0 6)), .inl (I866 17 (Int.toNat ((I 0 6)))), .inr (.inl (J867 0 75))]) (st := []) rfl (gr_lS hws rfl) (Nat.le_of_ble_eq_true rfl) (gz_Ev_mono (d := 1) (by decide) E892) ?_
      show gv_X _ _ (98, [(0, .inr (.inr (some 0))), (1, .inl (I 0 6)), (2, .inr (.inl v2_11)), (4, .inl v4_754)], [.inl z892], gr_sh ++ ext, gr_h I866 J867)
      refine gv_run 2 true hD (pcₚ := 102) (lvₚ := [(5, .inl z892), (0, .inr (.inr (some 0))), (1, .inl (I 0 6)), (2, .inr (.inl v2_11)), (4, .inl v4_754)]) (stₚ := [.inl z892]) (hₚ := gr_h I866 J867) (C := ((True ∧ True) ∧ True)) rfl ⟨⟨trivial, trivial⟩, trivial⟩ ?_
      have t894 := (show I866 17 (Int.toNat (I 0 6)) = I 17 (Int.toNat (I 0 6)) from (((g865 17 _ rfl).trans (g845 17 _ rfl)).trans (e5_754.1 _)))
      refine gv_if_ge (t := 111) hD rfl rfl ⟨by exact gz_m 513 (by omega), by exact gz_m 514 (by omega)⟩ (fun c895 => ?_) (fun c895 => ?_)
      · refine gv_run 1 true hD (pcₚ := 112) (lvₚ := [(5, .inl z892), (0, .inr (.inr (some 0))), (1, .inl (I 0 6)), (2, .inr (.inl v2_11)), (4, .inl v4_754)]) (stₚ := [.inr (.inr (some 0))]) (hₚ := gr_h I866 J867) (C := (True ∧ True)) rfl ⟨trivial, trivial⟩ ?_
        obtain ⟨r896, h896, E896, P896⟩ := r_next_p (ws0 := ws0) (tb := tb) hws htb ext β N9 I866 J867 hI866   ((gr_ATp_rr A885).1.resolve_left (by exact gz_m 515 (by omega))) A885.1.1 A885.1.2
        obtain ⟨I897, J898, rfl, hI897, g896, k896, ⟨rfl, q896⟩⟩ := P896
        have FI897 := gr_frt FI866 g896 rfl rfl
        have FJ898 := gr_fjt FJ867 k896 rfl rfl
        have t899 := g896 0 69 rfl
        have t900 := g896 0 6 rfl
        have t901 := g896 0 59 rfl
        have t902 := g896 0 42 rfl
        have t903 := g896 0 106 rfl
        have t904 := g896 17 (Int.toNat ((I 0 6))) rfl
        have t905 := g896 65 (Int.toNat z892) rfl
        have f906 := (gr_b_0_71 hI897)
        have f907 := (gr_b_0_72 hI897)
        have f908 := (gr_b_0_73 hI897)
        have f909 := (gr_b_0_69 hI897)
        have f910 := (gr_b_0_6 hI897)
        have f911 := (gr_b_0_59 hI897)
        have f912 := (gr_b_0_42 hI897)
        have f913 := (gr_b_0_106 hI897)
        have KLK_I897 := gr_LKs_fr KLK_I866 (fun k => g896 51 k rfl) (g896 0 59 rfl)
        have KPT_I897 := gr_PTs_fr KPT_I866 (fun k => g896 35 k rfl) (g896 0 42 rfl)
        have t914 := (gr_ATp_rr A885).2.2.1.resolve_left (by exact gz_m 516 (by omega))
        have A915 := gr_ATp_nx A885 q896.2.2.2.2.2
        have t916 := gr_ATp_l A915
        obtain ⟨_, _, -, -, -, -⟩ := q896
        refine gv_callV hD rfl (As := []) (st := []) rfl (by decide) rfl rfl (gr_lV hws rfl) (Nat.le_of_ble_eq_true rfl) (gz_Ev_mono (d := 10) (by decide) E896) ?_
        show gv_X _ _ (115, [(5, .inl z892), (0, .inr (.inr (some 0))), (1, .inl (I 0 6)), (2, .inr (.inl v2_11)), (4, .inl v4_754)], [], gr_sh ++ ext, gr_h I897 J898)
        refine gv_run 7 true hD (pcₚ := 125) (lvₚ := [(5, .inl z892), (0, .inr (.inr (some 0))), (1, .inl (I 0 6)), (2, .inr (.inl v2_11)), (4, .inl v4_754)]) (stₚ := [.inl (24 * ((24 * (I 0 6)) + z892))]) (hₚ := gr_h I897 J898) (C := (((((((True ∧ True) ∧ True) ∧ True) ∧ True) ∧ True) ∧ True) ∧ True)) rfl ⟨⟨⟨⟨⟨⟨⟨trivial, trivial⟩, trivial⟩, trivial⟩, trivial⟩, trivial⟩, trivial⟩, trivial⟩ ?_
        refine gv_run 3 true hD (pcₚ := 130) (lvₚ := [(7, .inl 0), (6, .inl (24 * ((24 * (I 0 6)) + z892))), (5, .inl z892), (0, .inr (.inr (some 0))), (1, .inl (I 0 6)), (2, .inr (.inl v2_11)), (4, .inl v4_754)]) (stₚ := []) (hₚ := gr_h I897 J898) (C := (((True ∧ True) ∧ True) ∧ True)) rfl ⟨⟨⟨trivial, trivial⟩, trivial⟩, trivial⟩ ?_
        refine gv_pick [3, 4, 5, 6, 2, 1, 0] rfl ?_
        exact L130 _ I897 J898 v4_754 z892 ((24 * ((24 * (I 0 6)) + z892))) 0 ((gs_X β N9 (gs_X β N9 p_754))) (Nat.lt_succ_self _) hI897 FI897 FJ898 KLK_I897 KPT_I897 (by exact gz_m 517 (by omega)) A915 (e3_754.trans (by unfold gs_qtO; rw [if_pos (by exact gz_m 518 (by omega)), show gs_lt J 23 (24 * I 0 6) (I 17 (Int.toNat (I 0 6))) (gs_rn β N9 _) = z892 from by exact gz_m 519 (by omega)]; unfold gs_qtP; (repeat first | rw [if_pos (by exact gz_m 520 (by omega))] | rw [if_neg (by exact gz_m 521 (by omega))]))) e4_754 (fun j hj => absurd hj (by exact gz_m 522 (by omega))) (by exact gz_m 523 (by omega)) (by have h9 := (gr_b_31 hI (Int.toNat (24 * I 0 6 + z892))); exact gz_m 524 (by omega)) (by exact gz_m 525 (by omega)) ⟨(fun k => ((((g896 17 k rfl).trans (g865 17 k rfl)).trans (g845 17 k rfl)).trans (e5_754.1 k))), (fun k => ((((g896 31 k rfl).trans (g865 31 k rfl)).trans (g845 31 k rfl)).trans (e5_754.2.1 k))), (fun k => ((((g896 32 k rfl).trans (g865 32 k rfl)).trans (g845 32 k rfl)).trans (e5_754.2.2.1 k))), (fun k => ((((g896 33 k rfl).trans (g865 33 k rfl)).trans (g845 33 k rfl)).trans (e5_754.2.2.2.1 k))), (fun k => ((((g896 34 k rfl).trans (g865 34 k rfl)).trans (g845 34 k rfl)).trans (e5_754.2.2.2.2.1 k))), (fun k => ((((k896 23 k rfl).trans (k865 23 k rfl)).trans (k845 23 k rfl)).trans (e5_754.2.2.2.2.2 k)))⟩
      · refine gv_run 2 true hD (pcₚ := 107) (lvₚ := [(5, .inl z892), (0, .inr (.inr (some 0))), (1, .inl (I 0 6)), (2, .inr (.inl v2_11)), (4, .inl v4_754)]) (stₚ := [.inl 5, .inr (.inr (some 0))]) (hₚ := gr_h I866 J867) (C := ((True ∧ True) ∧ True)) rfl ⟨⟨trivial, trivial⟩, trivial⟩ ?_
        obtain ⟨r917, h917, E917, P917⟩ := r_no__p (ws0 := ws0) (tb := tb) hws htb ext β N9 (gs_X β N9 p_754) I866 J867 hI866 5 ⟨by exact gz_m 526 (by omega), by exact gz_m 527 (by omega)⟩ A885 (by exact gz_m 528 (by omega))
        obtain ⟨I918, J919, rfl, hI918, g917, k917, ⟨z917, rfl, q917⟩⟩ := P917
        have FI918 := gr_frt FI866 g917 rfl rfl
        have FJ919 := gr_fjt FJ867 k917 rfl rfl
        have t920 := g917 0 71 rfl
        have t921 := g917 0 72 rfl
        have t922 := g917 0 73 rfl
        have t923 := g917 0 69 rfl
        have t924 := g917 0 6 rfl
        have t925 := g917 0 59 rfl
        have t926 := g917 0 42 rfl
        have t927 := g917 0 106 rfl
        have t928 := g917 17 (Int.toNat ((I 0 6))) rfl
        have t929 := g917 65 (Int.toNat z892) rfl
        have f930 := (gr_b_0_71 hI918)
        have f931 := (gr_b_0_72 hI918)
        have f932 := (gr_b_0_73 hI918)
        have f933 := (gr_b_0_69 hI918)
        have f934 := (gr_b_0_6 hI918)
        have f935 := (gr_b_0_59 hI918)
        have f936 := (gr_b_0_42 hI918)
        have f937 := (gr_b_0_106 hI918)
        have KLK_I918 := gr_LKs_fr KLK_I866 (fun k => g917 51 k rfl) (g917 0 59 rfl)
        have KPT_I918 := gr_PTs_fr KPT_I866 (fun k => g917 35 k rfl) (g917 0 42 rfl)
        have A938 := gr_ATp_F A885 g917 k917 rfl
        have t939 := gr_ATp_l A938
        refine gv_callV hD rfl (As := [.inl 5]) (st := []) rfl (by decide) rfl rfl (gr_lV hws rfl) (Nat.le_of_ble_eq_true rfl) (gz_Ev_mono (d := 2) (by decide) E917) ?_
        show gv_X _ _ (110, [(5, .inl z892), (0, .inr (.inr (some 0))), (1, .inl (I 0 6)), (2, .inr (.inl v2_11)), (4, .inl v4_754)], [.inl z917], gr_sh ++ ext, gr_h I918 J919)
        have b940 : (I918 0 69 = I 0 69) ∧ (I 0 73 ≤ I918 0 73) ∧ (I 0 72 ≤ I918 0 72) ∧ (I918 0 59 - I918 0 72 ≤ I 0 59 - I 0 72) ∧ (I918 0 42 - I918 0 72 ≤ I 0 42 - I 0 72) := by exact gz_m 529 (by omega)
        exact gv_zret hD rfl (by exact gz_m 530 (by omega)) ⟨I918, J919, rfl, hI918, FI918, FJ919, ⟨_, rfl, by exact gz_m 531 (by omega), by exact gz_m 532 (by omega), (gr_ATp_rr A938).1, (gr_ATp_rr A938).2.1, (gr_ATp_rr A938).2.2.1, (gr_ATp_rr A938).2.2.2.1, (gr_ATp_rr A938).2.2.2.2, b940.1, b940.2.1, b940.2.2.1, b940.2.2.2.1, b940.2.2.2.2, KLK_I918, KPT_I918, (Or.inr ⟨by exact gz_m 533 (by omega), by first | (exfalso; exact gz_m 534 (by omega)) | (rw [gs_pat_x2 (show gs_qtw β N9 I J p9 = (-1 - gs_A β N9 (gs_X β N9 p_754), []) from (e3_754.trans (by unfold gs_qtO gs_qtP; (repeat first | rw [if_pos (by exact gz_m 535 (by omega))] | rw [if_neg (by exact gz_m 536 (by omega))])))) (by exact gz_m 537 (by omega))]; exact ⟨by exact gz_m 538 (by omega), by exact gz_m 539 (by omega), (fun j => ⟨((((g917 17 j rfl).trans (g865 17 j rfl)).trans (g845 17 j rfl)).trans (e5_754.1 j)), ((((k917 23 j rfl).trans (k865 23 j rfl)).trans (k845 23 j rfl)).trans (e5_754.2.2.2.2.2 j)), ((((g917 31 j rfl).trans (g865 31 j rfl)).trans (g845 31 j rfl)).trans (e5_754.2.1 j)), ((((g917 32 j rfl).trans (g865 32 j rfl)).trans (g845 32 j rfl)).trans (e5_754.2.2.1 j))⟩), fun j => ⟨((((g917 33 j rfl).trans (g865 33 j rfl)).trans (g845 33 j rfl)).trans (e5_754.2.2.2.1 j)), ((((g917 34 j rfl).trans (g865 34 j rfl)).trans (g845 34 j rfl)).trans (e5_754.2.2.2.2.1 j))⟩⟩)⟩)⟩⟩
    · have u941 := gs_or0 V865 (by exact gz_m 540 (by omega))
      clear o865 V865
      refine gv_run 1 true hD (pcₚ := 76) (lvₚ := [(0, .inr (.inr (some 0))), (1, .inl (I 0 6)), (2, .inr (.inl v2_11)), (4, .inl v4_754)]) (stₚ := [.inl 0]) (hₚ := gr_h I866 J867) (C := (True ∧ True)) rfl ⟨trivial, trivial⟩ ?_
      have b942 : (I866 0 69 = I 0 69) ∧ (I 0 73 ≤ I866 0 73) ∧ (I 0 72 ≤ I866 0 72) ∧ (I866 0 59 - I866 0 72 ≤ I 0 59 - I 0 72) ∧ (I866 0 42 - I866 0 72 ≤ I 0 42 - I 0 72) := by exact gz_m 541 (by omega)
      exact gv_zret hD rfl (by exact gz_m 542 (by omega)) ⟨I866, J867, rfl, hI866, FI866, FJ867, ⟨_, rfl, by exact gz_m 543 (by omega), by exact gz_m 544 (by omega), (gr_ATp_rr A885).1, (gr_ATp_rr A885).2.1, (gr_ATp_rr A885).2.2.1, (gr_ATp_rr A885).2.2.2.1, (gr_ATp_rr A885).2.2.2.2, b942.1, b942.2.1, b942.2.2.1, b942.2.2.2.1, b942.2.2.2.2, KLK_I866, KPT_I866, (Or.inr ⟨by exact gz_m 545 (by omega), by first | (exfalso; exact gz_m 546 (by omega)) | (rw [gs_pat_x2 (show gs_qtw β N9 I J p9 = (-1 - gs_A β N9 (gs_X β N9 p_754), []) from (e3_754.trans (by unfold gs_qtO gs_qtP; (repeat first | rw [if_pos (by exact gz_m 547 (by omega))] | rw [if_neg (by exact gz_m 548 (by omega))])))) (by exact gz_m 549 (by omega))]; exact ⟨by exact gz_m 550 (by omega), by exact gz_m 551 (by omega), (fun j => ⟨(((g865 17 j rfl).trans (g845 17 j rfl)).trans (e5_754.1 j)), (((k865 23 j rfl).trans (k845 23 j rfl)).trans (e5_754.2.2.2.2.2 j)), (((g865 31 j rfl).trans (g845 31 j rfl)).trans (e5_754.2.1 j)), (((g865 32 j rfl).trans (g845 32 j rfl)).trans (e5_754.2.2.1 j))⟩), fun j => ⟨(((g865 33 j rfl).trans (g845 33 j rfl)).trans (e5_754.2.2.2.1 j)), (((g865 34 j rfl).trans (g845 34 j rfl)).trans (e5_754.2.2.2.2.1 j))⟩⟩)⟩)⟩⟩
  refine gv_run 1 true hD (pcₚ := 47) (lvₚ := [(0, .inr (.inr (some 0))), (1, .inl (I 0 6)), (2, .inr (.inl v2_11))]) (stₚ := [.inr (.inr (some 0))]) (hₚ := gr_h I9 J10) (C := (True ∧ True)) rfl ⟨trivial, trivial⟩ ?_
  obtain ⟨r943, h943, E943, P943⟩ := r_next_p (ws0 := ws0) (tb := tb) hws htb ext β N9 I9 J10 hI9   ((gr_ATp_rr e2_11).1.resolve_left (by exact gz_m 552 (by omega))) e2_11.1.1 e2_11.1.2
  obtain ⟨I944, J945, rfl, hI944, g943, k943, ⟨rfl, q943⟩⟩ := P943
  have FI944 := gr_frt FI9 g943 rfl rfl
  have FJ945 := gr_fjt FJ10 k943 rfl rfl
  have t946 := g943 0 69 rfl
  have t947 := g943 0 6 rfl
  have t948 := g943 0 59 rfl
  have t949 := g943 0 42 rfl
  have t950 := g943 0 106 rfl
  have t951 := g943 17 (Int.toNat ((I 0 6))) rfl
  have f952 := (gr_b_0_71 hI944)
  have f953 := (gr_b_0_72 hI944)
  have f954 := (gr_b_0_73 hI944)
  have f955 := (gr_b_0_69 hI944)
  have f956 := (gr_b_0_6 hI944)
  have f957 := (gr_b_0_59 hI944)
  have f958 := (gr_b_0_42 hI944)
  have f959 := (gr_b_0_106 hI944)
  have KLK_I944 := gr_LKs_fr KLK_I9 (fun k => g943 51 k rfl) (g943 0 59 rfl)
  have KPT_I944 := gr_PTs_fr KPT_I9 (fun k => g943 35 k rfl) (g943 0 42 rfl)
  have t960 := (gr_ATp_rr e2_11).2.2.1.resolve_left (by exact gz_m 553 (by omega))
  have A961 := gr_ATp_nx e2_11 q943.2.2.2.2.2
  have t962 := gr_ATp_l A961
  obtain ⟨_, _, -, -, -, -⟩ := q943
  refine gv_callV hD rfl (As := []) (st := []) rfl (by decide) rfl rfl (gr_lV hws rfl) (Nat.le_of_ble_eq_true rfl) (gz_Ev_mono (d := 10) (by decide) E943) ?_
  show gv_X _ _ (50, [(0, .inr (.inr (some 0))), (1, .inl (I 0 6)), (2, .inr (.inl v2_11))], [], gr_sh ++ ext, gr_h I944 J945)
  refine gv_run 5 true hD (pcₚ := 58) (lvₚ := [(4, .inl 0), (0, .inr (.inr (some 0))), (1, .inl (I 0 6)), (2, .inr (.inl v2_11))]) (stₚ := [.inr (.inl (J945 0 94)), .inr (.inr (some 0))]) (hₚ := gr_h I944 J945) (C := (((((True ∧ True) ∧ True) ∧ True) ∧ True) ∧ True)) rfl ⟨⟨⟨⟨⟨trivial, trivial⟩, trivial⟩, trivial⟩, trivial⟩, trivial⟩ ?_
  obtain ⟨r963, h963, E963, P963⟩ := r_is_p (ws0 := ws0) (tb := tb) hws htb ext β N9 (gs_X β N9 p_11) I944 J945 hI944 (J945 0 94)  A961 (by exact gz_m 554 (by omega))
  obtain ⟨rfl, ⟨z963, rfl, q963⟩⟩ := P963
  have t964 := (show gs_kw β N9 (gs_X β N9 p_11) (J945 0 94) = gs_kw β N9 (gs_X β N9 p_11) (gs_W 94) from by rw [show J945 0 94 = gs_W 94 from (fun k h1 h2 => (FJ945 0 k (gs_kwF h1 h2 rfl)).trans (KW k h1 h2)) 94 (by decide) (by decide)])
  obtain ⟨_, _, o963, _⟩ := q963
  refine gv_callV hD rfl (As := [.inr (.inl (J945 0 94))]) (st := []) rfl (by decide) rfl rfl (gr_lV hws rfl) (Nat.le_of_ble_eq_true rfl) (gz_Ev_mono (d := 1) (by decide) E963) ?_
  show gv_X _ _ (61, [(4, .inl 0), (0, .inr (.inr (some 0))), (1, .inl (I 0 6)), (2, .inr (.inl v2_11))], [.inl z963], gr_sh ++ ext, gr_h I944 J945)
  refine gv_if_eq (t := 207) hD rfl rfl ⟨by exact gz_m 555 (by omega), by exact gz_m 556 (by omega)⟩ (fun c965 => ?_) (fun c965 => ?_)
  · clear o963
    refine gv_pick [1, 2, 3, 0] rfl ?_
    exact L207 I944 J945 0 (gs_X β N9 p_11) hI944 FI944 FJ945 KLK_I944 KPT_I944 (by exact gz_m 557 (by omega)) A961 (e3_11.trans (by unfold gs_qt1; (repeat first | rw [if_pos (by exact gz_m 558 (by omega))] | rw [if_neg (by exact gz_m 559 (by omega))]); rfl)) e5_11 (fun j hj => absurd hj (by exact gz_m 560 (by omega))) ⟨(fun k => ((g943 17 k rfl).trans (e6_11.1 k))), (fun k => ((g943 31 k rfl).trans (e6_11.2.1 k))), (fun k => ((g943 32 k rfl).trans (e6_11.2.2.1 k))), (fun k => ((g943 33 k rfl).trans (e6_11.2.2.2.1 k))), (fun k => ((g943 34 k rfl).trans (e6_11.2.2.2.2.1 k))), (fun k => ((k943 23 k rfl).trans (e6_11.2.2.2.2.2 k)))⟩
  · have t966 := o963.resolve_left (by exact gz_m 561 (by omega))
    have t967 := (gr_ATp_rr A961).2.2.1.resolve_left (by exact gz_m 562 (by omega))
    clear o963
    refine gv_pick [1, 2, 3, 0] rfl ?_
    exact L64 I944 J945 0 (gs_X β N9 p_11) hI944 FI944 FJ945 KLK_I944 KPT_I944 (by exact gz_m 563 (by omega)) A961 (e3_11.trans (by unfold gs_qt1; (repeat first | rw [if_pos (by exact gz_m 564 (by omega))] | rw [if_neg (by exact gz_m 565 (by omega))]))) e5_11 ⟨(fun k => ((g943 17 k rfl).trans (e6_11.1 k))), (fun k => ((g943 31 k rfl).trans (e6_11.2.1 k))), (fun k => ((g943 32 k rfl).trans (e6_11.2.2.1 k))), (fun k => ((g943 33 k rfl).trans (e6_11.2.2.2.1 k))), (fun k => ((g943 34 k rfl).trans (e6_11.2.2.2.2.1 k))), (fun k => ((k943 23 k rfl).trans (e6_11.2.2.2.2.2 k)))⟩
set_option maxHeartbeats 32000000 in
set_option maxRecDepth 100000 in
theorem r_pattern_p {ws0 : List Cond} {tb : String → gz_T} (hws : ∀ w ∈ gr_ws, w ∈ ws0) (htb : tb RX13 = gr_T) (ext : gz_Sh) (β : Int → Int) (N9 : Int) (p9 : Int) (I : gr_I) (J : gr_J) (hI : gr_Inv I)   (x0 : I 0 71 = 5 ∨ I 0 73 ≤ I 0 69) (x1 : I 0 72 ≤ I 0 69) (x2 : I 0 71 = 0 ∨ (I 0 72 < I 0 73 ∧ I 0 72 < I 0 69)) (x3 : I 0 71 = 3 → 2 ≤ I 0 73 - I 0 72 ∧ I 0 73 - I 0 72 ≤ 14) (x4 : I 0 72 ≤ I 0 73) (x5 : 0 ≤ I 0 6) (x6 : I 0 59 + I 0 69 - I 0 72 ≤ 1900) (x7 : I 0 42 + I 0 69 - I 0 72 ≤ 1900) (x8 : gr_ATp β N9 p9 I J) (x9 : 0 ≤ p9) (x10 : gr_KW J) (x11 : gs_PDa I) : ∃ r hₚ, gz_Ev ws0 tb 12 (yX13_pattern, cX13_pattern, 8, (some .boolean)) [.inr (.inr (some 0))] (gr_sh ++ ext) (gr_h I J) r (gr_sh ++ ext) hₚ 0 0 ∧ (∃ (Iₚ : gr_I) (Jₚ : gr_J), hₚ = gr_h Iₚ Jₚ ∧ gr_Inv Iₚ ∧ gr_fr [42, 59, 71, 72, 73, 74, 75, 76, 77, 106] [17, 23, 31, 32, 33, 34, 35, 51, 64, 65, 66] I Iₚ ∧ gr_fj [42, 59, 71, 72, 73, 74, 75, 76, 77, 106] [17, 23, 31, 32, 33, 34, 35, 51, 64, 65, 66] J Jₚ ∧ (∃ z : Int, r = some (.inl z) ∧ 0 ≤ z ∧ z ≤ 1 ∧ (Iₚ 0 71 = 5 ∨ Iₚ 0 73 ≤ Iₚ 0 69) ∧ (Iₚ 0 72 ≤ Iₚ 0 69) ∧ (Iₚ 0 71 = 0 ∨ (Iₚ 0 72 < Iₚ 0 73 ∧ Iₚ 0 72 < Iₚ 0 69)) ∧ (Iₚ 0 71 = 3 → 2 ≤ Iₚ 0 73 - Iₚ 0 72 ∧ Iₚ 0 73 - Iₚ 0 72 ≤ 14) ∧ (Iₚ 0 72 ≤ Iₚ 0 73) ∧ (Iₚ 0 69 = I 0 69) ∧ (I 0 73 ≤ Iₚ 0 73) ∧ (I 0 72 ≤ Iₚ 0 72) ∧ (Iₚ 0 59 - Iₚ 0 72 ≤ I 0 59 - I 0 72) ∧ (Iₚ 0 42 - Iₚ 0 72 ≤ I 0 42 - I 0 72) ∧ (gr_LKs I Iₚ) ∧ (gr_PTs I Iₚ) ∧ (gs_Or z (0 ≤ (gs_pat β N9 I J (I 0 78) p9) ∧ gr_ATp β N9 (gs_pat β N9 I J (I 0 78) p9) Iₚ Jₚ ∧ gs_Upat (gs_rn β N9 p9) (gs_ptw β N9 I J p9).2 I J Iₚ Jₚ ∧ gs_Uct β N9 I J p9 Iₚ) ((gs_pat β N9 I J (I 0 78) p9) < 0 ∧ Iₚ 0 77 = -1 - (gs_pat β N9 I J (I 0 78) p9) ∧ gs_Spt I J Iₚ Jₚ ∧ ∀ j, Iₚ 33 j = I 33 j ∧ Iₚ 34 j = I 34 j)))) := by
  have FI : gr_fr [42, 59, 71, 72, 73, 74, 75, 76, 77, 106] [17, 23, 31, 32, 33, 34, 35, 51, 64, 65, 66] I I := fun _ _ _ => rfl
  have FJ : gr_fj [42, 59, 71, 72, 73, 74, 75, 76, 77, 106] [17, 23, 31, 32, 33, 34, 35, 51, 64, 65, 66] J J := fun _ _ _ => rfl
  have hD : gv_D (gr_E ws0 tb 11 (yX13_pattern, cX13_pattern, 8, (some .boolean)) kX13_pattern) := gq_of oX13_pattern
  refine gr_ev (d := 11) (l := kX13_pattern) (Po := fun r hₚ => (∃ (Iₚ : gr_I) (Jₚ : gr_J), hₚ = gr_h Iₚ Jₚ ∧ gr_Inv Iₚ ∧ gr_fr [42, 59, 71, 72, 73, 74, 75, 76, 77, 106] [17, 23, 31, 32, 33, 34, 35, 51, 64, 65, 66] I Iₚ ∧ gr_fj [42, 59, 71, 72, 73, 74, 75, 76, 77, 106] [17, 23, 31, 32, 33, 34, 35, 51, 64, 65, 66] J Jₚ ∧ (∃ z : Int, r = some (.inl z) ∧ 0 ≤ z ∧ z ≤ 1 ∧ (Iₚ 0 71 = 5 ∨ Iₚ 0 73 ≤ Iₚ 0 69) ∧ (Iₚ 0 72 ≤ Iₚ 0 69) ∧ (Iₚ 0 71 = 0 ∨ (Iₚ 0 72 < Iₚ 0 73 ∧ Iₚ 0 72 < Iₚ 0 69)) ∧ (Iₚ 0 71 = 3 → 2 ≤ Iₚ 0 73 - Iₚ 0 72 ∧ Iₚ 0 73 - Iₚ 0 72 ≤ 14) ∧ (Iₚ 0 72 ≤ Iₚ 0 73) ∧ (Iₚ 0 69 = I 0 69) ∧ (I 0 73 ≤ Iₚ 0 73) ∧ (I 0 72 ≤ Iₚ 0 72) ∧ (Iₚ 0 59 - Iₚ 0 72 ≤ I 0 59 - I 0 72) ∧ (Iₚ 0 42 - Iₚ 0 72 ≤ I 0 42 - I 0 72) ∧ (gr_LKs I Iₚ) ∧ (gr_PTs I Iₚ) ∧ (gs_Or z (0 ≤ (gs_pat β N9 I J (I 0 78) p9) ∧ gr_ATp β N9 (gs_pat β N9 I J (I 0 78) p9) Iₚ Jₚ ∧ gs_Upat (gs_rn β N9 p9) (gs_ptw β N9 I J p9).2 I J Iₚ Jₚ ∧ gs_Uct β N9 I J p9 Iₚ) ((gs_pat β N9 I J (I 0 78) p9) < 0 ∧ Iₚ 0 77 = -1 - (gs_pat β N9 I J (I 0 78) p9) ∧ gs_Spt I J Iₚ Jₚ ∧ ∀ j, Iₚ 33 j = I 33 j ∧ Iₚ 34 j = I 34 j))))) htb rfl (Nat.le_of_ble_eq_true rfl) ?_
  have tAT := gr_ATp_l x8
  clear x0 x2 x3
  have KW := x10
  have f1 := (gr_b_0_71 hI)
  have f2 := (gr_b_0_72 hI)
  have f3 := (gr_b_0_73 hI)
  have f4 := (gr_b_0_69 hI)
  have f5 := (gr_b_0_6 hI)
  have f6 := (gr_b_0_59 hI)
  have f7 := (gr_b_0_42 hI)
  have f8 := (gr_b_0_106 hI)
  have KLK_I : gr_LKs I I := gr_LKs_rf
  have KPT_I : gr_PTs I I := gr_PTs_rf
  have L46 : ∀ (I9 : gr_I) (J10 : gr_J) (v1_11 : Int) (v2_11 : Int64) (p_11 : Int), gr_Inv I9 → gr_fr [42, 59, 71, 72, 73, 74, 75, 76, 77, 106] [17, 23, 31, 32, 33, 34, 35, 51, 64, 65, 66] I I9 → gr_fj [42, 59, 71, 72, 73, 74, 75, 76, 77, 106] [17, 23, 31, 32, 33, 34, 35, 51, 64, 65, 66] J J10 → gr_LKs I I9 → gr_PTs I I9 → ((0 ≤ v1_11 ∧ v1_11 ≤ 7) ∧ (I9 0 71 = 1) ∧ (0 ≤ p_11) ∧ (I9 0 72 ≤ I9 0 69) ∧ (I9 0 72 ≤ I9 0 73) ∧ (I9 0 69 = I 0 69) ∧ (I 0 73 ≤ I9 0 73) ∧ (I 0 72 ≤ I9 0 72) ∧ (I9 0 6 = I 0 6) ∧ (I9 0 59 - I9 0 72 ≤ I 0 59 - I 0 72) ∧ (I9 0 42 - I9 0 72 ≤ I 0 42 - I 0 72)) → (gr_ATp β N9 p_11 I9 J10) → (gs_qtw β N9 I J p9 = gs_qt1 β N9 I J (gs_X β N9 p_11)) → (v1_11 = I 0 6) → (v2_11 = (gs_rn β N9 p9)) → ((∀ k, I9 17 k = I 17 k) ∧ (∀ k, I9 31 k = I 31 k) ∧ (∀ k, I9 32 k = I 32 k) ∧ (∀ k, I9 33 k = I 33 k) ∧ (∀ k, I9 34 k = I 34 k) ∧ (∀ k, J10 23 k = J 23 k)) → gv_X (gr_E ws0 tb 11 (yX13_pattern, cX13_pattern, 8, (some .boolean)) kX13_pattern) (gv_Q cX13_pattern (some .boolean) (gr_sh ++ ext) (fun r hₚ => (∃ (Iₚ : gr_I) (Jₚ : gr_J), hₚ = gr_h Iₚ Jₚ ∧ gr_Inv Iₚ ∧ gr_fr [42, 59, 71, 72, 73, 74, 75, 76, 77, 106] [17, 23, 31, 32, 33, 34, 35, 51, 64, 65, 66] I Iₚ ∧ gr_fj [42, 59, 71, 72, 73, 74, 75, 76, 77, 106] [17, 23, 31, 32, 33, 34, 35, 51, 64, 65, 66] J Jₚ ∧ (∃ z : Int, r = some (.inl z) ∧ 0 ≤ z ∧ z ≤ 1 ∧ (Iₚ 0 71 = 5 ∨ Iₚ 0 73 ≤ Iₚ 0 69) ∧ (Iₚ 0 72 ≤ Iₚ 0 69) ∧ (Iₚ 0 71 = 0 ∨ (Iₚ 0 72 < Iₚ 0 73 ∧ Iₚ 0 72 < Iₚ 0 69)) ∧ (Iₚ 0 71 = 3 → 2 ≤ Iₚ 0 73 - Iₚ 0 72 ∧ Iₚ 0 73 - Iₚ 0 72 ≤ 14) ∧ (Iₚ 0 72 ≤ Iₚ 0 73) ∧ (Iₚ 0 69 = I 0 69) ∧ (I 0 73 ≤ Iₚ 0 73) ∧ (I 0 72 ≤ Iₚ 0 72) ∧ (Iₚ 0 59 - Iₚ 0 72 ≤ I 0 59 - I 0 72) ∧ (Iₚ 0 42 - Iₚ 0 72 ≤ I 0 42 - I 0 72) ∧ (gr_LKs I Iₚ) ∧ (gr_PTs I Iₚ) ∧ (gs_Or z (0 ≤ (gs_pat β N9 I J (I 0 78) p9) ∧ gr_ATp β N9 (gs_pat β N9 I J (I 0 78) p9) Iₚ Jₚ ∧ gs_Upat (gs_rn β N9 p9) (gs_ptw β N9 I J p9).2 I J Iₚ Jₚ ∧ gs_Uct β N9 I J p9 Iₚ) ((gs_pat β N9 I J (I 0 78) p9) < 0 ∧ Iₚ 0 77 = -1 - (gs_pat β N9 I J (I 0 78) p9) ∧ gs_Spt I J Iₚ Jₚ ∧ ∀ j, Iₚ 33 j = I 33 j ∧ Iₚ 34 j = I 34 j)))))) (46, [(0, .inr (.inr (some 0))), (1, .inl v1_11), (2, .inr (.inl v2_11))], [], gr_sh ++ ext, gr_h I9 J10) := r_pattern_p_L46 (ws0 := ws0) (tb := tb) hws htb ext β N9 p9 I J hI x1 x4 x5 x6 x7 x8 x9 x10 x11
  have f968 := (gr_b_0_6 hI)
  refine gv_run 4 true hD (pcₚ := 6) (lvₚ := [(1, .inl (I 0 6)), (0, .inr (.inr (some 0)))]) (stₚ := [.inr (.inr (some 0))]) (hₚ := gr_h I J) (C := ((((True ∧ True) ∧ True) ∧ True) ∧ True)) rfl ⟨⟨⟨⟨trivial, trivial⟩, trivial⟩, trivial⟩, trivial⟩ ?_
  obtain ⟨r969, h969, E969, P969⟩ := r_name_p (ws0 := ws0) (tb := tb) hws htb ext β N9 p9 I J hI   x8 (by exact gz_m 566 (by omega))
  obtain ⟨I970, J971, rfl, hI970, g969, k969, ⟨z969, rfl, q969⟩⟩ := P969
  have FI970 := gr_frt FI g969 rfl rfl
  have FJ971 := gr_fjt FJ k969 rfl rfl
  have t972 := g969 0 71 rfl
  have t973 := g969 0 72 rfl
  have t974 := g969 0 73 rfl
  have t975 := g969 0 69 rfl
  have t976 := g969 0 6 rfl
  have t977 := g969 0 59 rfl
  have t978 := g969 0 42 rfl
  have t979 := g969 0 106 rfl
  have t980 := g969 17 (Int.toNat ((I 0 6))) rfl
  have f981 := (gr_b_0_71 hI970)
  have f982 := (gr_b_0_72 hI970)
  have f983 := (gr_b_0_73 hI970)
  have f984 := (gr_b_0_69 hI970)
  have f985 := (gr_b_0_6 hI970)
  have f986 := (gr_b_0_59 hI970)
  have f987 := (gr_b_0_42 hI970)
  have f988 := (gr_b_0_106 hI970)
  have KLK_I970 := gr_LKs_fr KLK_I (fun k => g969 51 k rfl) (g969 0 59 rfl)
  have KPT_I970 := gr_PTs_fr KPT_I (fun k => g969 35 k rfl) (g969 0 42 rfl)
  have V969 := gs_or_mk q969.2.2.2
  have A989 := gr_ATp_F x8 g969 k969 rfl
  have t990 := gr_ATp_l A989
  obtain ⟨_, _, o969, -⟩ := q969
  refine gv_callV hD rfl (As := []) (st := []) rfl (by decide) rfl rfl (gr_lV hws rfl) (Nat.le_of_ble_eq_true rfl) (gz_Ev_mono (d := 3) (by decide) E969) ?_
  show gv_X _ _ (9, [(1, .inl (I 0 6)), (0, .inr (.inr (some 0)))], [.inl z969], gr_sh ++ ext, gr_h I970 J971)
  refine gv_if_ne (t := 14) hD rfl rfl ⟨by exact gz_m 567 (by omega), by exact gz_m 568 (by omega)⟩ (fun c991 => ?_) (fun c991 => ?_)
  · have u992 := gs_or1 V969 (by exact gz_m 569 (by omega))
    have t993 := o969.resolve_left (by exact gz_m 570 (by omega))
    have t994 := (gr_ATp_rr A989).2.2.1.resolve_left (by exact gz_m 571 (by omega))
    clear o969 V969
    refine gv_run 7 true hD (pcₚ := 26) (lvₚ := [(2, .inr (.inl (J971 0 75))), (1, .inl (I 0 6)), (0, .inr (.inr (some 0)))]) (stₚ := [.inl (I 0 6), .inl 24, .inr (.inr (some 23))]) (hₚ := gr_h I970 J971) (C := (((((((True ∧ True) ∧ True) ∧ True) ∧ True) ∧ True) ∧ True) ∧ True)) rfl ⟨⟨⟨⟨⟨⟨⟨trivial, trivial⟩, trivial⟩, trivial⟩, trivial⟩, trivial⟩, trivial⟩, trivial⟩ ?_
    have f995 := (gr_b_17 hI970 (Int.toNat ((I 0 6))))
    refine gv_run 5 true hD (pcₚ := 33) (lvₚ := [(2, .inr (.inl (J971 0 75))), (1, .inl (I 0 6)), (0, .inr (.inr (some 0)))]) (stₚ := [.inl (I970 17 (Int.toNat ((I 0 6)))), .inl (24 * (I 0 6)), .inr (.inr (some 23))]) (hₚ := gr_h I970 J971) (C := (((((True ∧ True) ∧ True) ∧ True) ∧ True) ∧ (0 ≤ (I 0 6) ∧ (I 0 6) < ((8 : Nat) : Int)))) rfl ⟨⟨⟨⟨⟨trivial, trivial⟩, trivial⟩, trivial⟩, trivial⟩, ⟨by exact gz_m 572 (by omega), by exact gz_m 573 (by omega)⟩⟩ ?_
    refine gv_run 1 true hD (pcₚ := 34) (lvₚ := [(2, .inr (.inl (J971 0 75))), (1, .inl (I 0 6)), (0, .inr (.inr (some 0)))]) (stₚ := [.inr (.inl (J971 0 75)), .inl (I970 17 (Int.toNat ((I 0 6)))), .inl (24 * (I 0 6)), .inr (.inr (some 23))]) (hₚ := gr_h I970 J971) (C := (True ∧ True)) rfl ⟨trivial, trivial⟩ ?_
    obtain ⟨r996, h996, E996, P996⟩ := r_find_23_p (ws0 := ws0) (tb := tb) hws htb ext I970 J971 hI970 ((24 * (I 0 6))) ((I970 17 (Int.toNat ((I 0 6))))) (J971 0 75) ⟨by exact gz_m 574 (by omega), by exact gz_m 575 (by omega)⟩ ⟨by exact gz_m 576 (by omega), by exact gz_m 577 (by omega)⟩ (by exact gz_m 578 (by omega))
    obtain ⟨rfl, ⟨z996, rfl, q996⟩⟩ := P996
    have t997 := q996.2.2.2.trans (gs_lt_eq (J := J) (row := 23) (o := 24 * I 0 6) (n := I 17 (Int.toNat (I 0 6))) (w := gs_rn β N9 p9) (fun k => (k969 23 k rfl)) (by exact gz_m 579 (by omega)) (by first | exact (g969 17 _ rfl) | (rw [show ((I 0 6)) = I 0 6 from by exact gz_m 580 (by omega)]; exact (g969 17 _ rfl))) (gr_ATp_w A989))
    refine gv_callS hD rfl (As := [.inr (.inr (some 23)), .inl (24 * (I 0 6)), .inl (I970 17 (Int.toNat ((I 0 6)))), .inr (.inl (J971 0 75))]) (st := []) rfl (gr_lS hws rfl) (Nat.le_of_ble_eq_true rfl) (gz_Ev_mono (d := 1) (by decide) E996) ?_
    show gv_X _ _ (37, [(2, .inr (.inl (J971 0 75))), (1, .inl (I 0 6)), (0, .inr (.inr (some 0)))], [.inl z996], gr_sh ++ ext, gr_h I970 J971)
    refine gv_if_lt (t := 46) hD rfl rfl ⟨by exact gz_m 581 (by omega), by exact gz_m 582 (by omega)⟩ (fun c998 => ?_) (fun c998 => ?_)
    · refine gv_pick [2, 1, 0] rfl ?_
      exact L46 I970 J971 (I 0 6) (J971 0 75) p9 hI970 FI970 FJ971 KLK_I970 KPT_I970 (by exact gz_m 583 (by omega)) A989 (by unfold gs_qtw; (repeat first | rw [if_pos (by exact gz_m 584 (by omega))] | rw [if_neg (by exact gz_m 585 (by omega))])) rfl (gr_ATp_w A989) ⟨(fun k => (g969 17 k rfl)), (fun k => (g969 31 k rfl)), (fun k => (g969 32 k rfl)), (fun k => (g969 33 k rfl)), (fun k => (g969 34 k rfl)), (fun k => (k969 23 k rfl))⟩
    · refine gv_run 2 true hD (pcₚ := 42) (lvₚ := [(2, .inr (.inl (J971 0 75))), (1, .inl (I 0 6)), (0, .inr (.inr (some 0)))]) (stₚ := [.inl 4, .inr (.inr (some 0))]) (hₚ := gr_h I970 J971) (C := ((True ∧ True) ∧ True)) rfl ⟨⟨trivial, trivial⟩, trivial⟩ ?_
      obtain ⟨r999, h999, E999, P999⟩ := r_no__p (ws0 := ws0) (tb := tb) hws htb ext β N9 p9 I970 J971 hI970 4 ⟨by exact gz_m 586 (by omega), by exact gz_m 587 (by omega)⟩ A989 (by exact gz_m 588 (by omega))
      obtain ⟨I1000, J1001, rfl, hI1000, g999, k999, ⟨z999, rfl, q999⟩⟩ := P999
      have FI1000 := gr_frt FI970 g999 rfl rfl
      have FJ1001 := gr_fjt FJ971 k999 rfl rfl
      have t1002 := g999 0 71 rfl
      have t1003 := g999 0 72 rfl
      have t1004 := g999 0 73 rfl
      have t1005 := g999 0 69 rfl
      have t1006 := g999 0 6 rfl
      have t1007 := g999 0 59 rfl
      have t1008 := g999 0 42 rfl
      have t1009 := g999 0 106 rfl
      have t1010 := g999 17 (Int.toNat ((I 0 6))) rfl
      have f1011 := (gr_b_0_71 hI1000)
      have f1012 := (gr_b_0_72 hI1000)
      have f1013 := (gr_b_0_73 hI1000)
      have f1014 := (gr_b_0_69 hI1000)
      have f1015 := (gr_b_0_6 hI1000)
      have f1016 := (gr_b_0_59 hI1000)
      have f1017 := (gr_b_0_42 hI1000)
      have f1018 := (gr_b_0_106 hI1000)
      have KLK_I1000 := gr_LKs_fr KLK_I970 (fun k => g999 51 k rfl) (g999 0 59 rfl)
      have KPT_I1000 := gr_PTs_fr KPT_I970 (fun k => g999 35 k rfl) (g999 0 42 rfl)
      have A1019 := gr_ATp_F A989 g999 k999 rfl
      have t1020 := gr_ATp_l A1019
      refine gv_callV hD rfl (As := [.inl 4]) (st := []) rfl (by decide) rfl rfl (gr_lV hws rfl) (Nat.le_of_ble_eq_true rfl) (gz_Ev_mono (d := 2) (by decide) E999) ?_
      show gv_X _ _ (45, [(2, .inr (.inl (J971 0 75))), (1, .inl (I 0 6)), (0, .inr (.inr (some 0)))], [.inl z999], gr_sh ++ ext, gr_h I1000 J1001)
      have b1021 : (I1000 0 69 = I 0 69) ∧ (I 0 73 ≤ I1000 0 73) ∧ (I 0 72 ≤ I1000 0 72) ∧ (I1000 0 59 - I1000 0 72 ≤ I 0 59 - I 0 72) ∧ (I1000 0 42 - I1000 0 72 ≤ I 0 42 - I 0 72) := by exact gz_m 589 (by omega)
      exact gv_zret hD rfl (by exact gz_m 590 (by omega)) ⟨I1000, J1001, rfl, hI1000, FI1000, FJ1001, ⟨_, rfl, by exact gz_m 591 (by omega), by exact gz_m 592 (by omega), (gr_ATp_rr A1019).1, (gr_ATp_rr A1019).2.1, (gr_ATp_rr A1019).2.2.1, (gr_ATp_rr A1019).2.2.2.1, (gr_ATp_rr A1019).2.2.2.2, b1021.1, b1021.2.1, b1021.2.2.1, b1021.2.2.2.1, b1021.2.2.2.2, KLK_I1000, KPT_I1000, (Or.inr ⟨by exact gz_m 593 (by omega), by first | (exfalso; exact gz_m 594 (by omega)) | (rw [gs_pat_x2 (show gs_qtw β N9 I J p9 = (-1 - gs_A β N9 p9, []) from (by unfold gs_qtw; (repeat first | rw [if_pos (by exact gz_m 595 (by omega))] | rw [if_neg (by exact gz_m 596 (by omega))]))) (by exact gz_m 597 (by omega))]; exact ⟨by exact gz_m 598 (by omega), by exact gz_m 599 (by omega), (fun j => ⟨((g999 17 j rfl).trans (g969 17 j rfl)), ((k999 23 j rfl).trans (k969 23 j rfl)), ((g999 31 j rfl).trans (g969 31 j rfl)), ((g999 32 j rfl).trans (g969 32 j rfl))⟩), fun j => ⟨((g999 33 j rfl).trans (g969 33 j rfl)), ((g999 34 j rfl).trans (g969 34 j rfl))⟩⟩)⟩)⟩⟩
  · have u1022 := gs_or0 V969 (by exact gz_m 600 (by omega))
    clear o969 V969
    refine gv_run 1 true hD (pcₚ := 13) (lvₚ := [(1, .inl (I 0 6)), (0, .inr (.inr (some 0)))]) (stₚ := [.inl 0]) (hₚ := gr_h I970 J971) (C := (True ∧ True)) rfl ⟨trivial, trivial⟩ ?_
    have b1023 : (I970 0 69 = I 0 69) ∧ (I 0 73 ≤ I970 0 73) ∧ (I 0 72 ≤ I970 0 72) ∧ (I970 0 59 - I970 0 72 ≤ I 0 59 - I 0 72) ∧ (I970 0 42 - I970 0 72 ≤ I 0 42 - I 0 72) := by exact gz_m 601 (by omega)
    exact gv_zret hD rfl (by exact gz_m 602 (by omega)) ⟨I970, J971, rfl, hI970, FI970, FJ971, ⟨_, rfl, by exact gz_m 603 (by omega), by exact gz_m 604 (by omega), (gr_ATp_rr A989).1, (gr_ATp_rr A989).2.1, (gr_ATp_rr A989).2.2.1, (gr_ATp_rr A989).2.2.2.1, (gr_ATp_rr A989).2.2.2.2, b1023.1, b1023.2.1, b1023.2.2.1, b1023.2.2.2.1, b1023.2.2.2.2, KLK_I970, KPT_I970, (Or.inr ⟨by exact gz_m 605 (by omega), by first | (exfalso; exact gz_m 606 (by omega)) | (rw [gs_pat_x2 (show gs_qtw β N9 I J p9 = (-1 - gs_A β N9 p9, []) from (by unfold gs_qtw; (repeat first | rw [if_pos (by exact gz_m 607 (by omega))] | rw [if_neg (by exact gz_m 608 (by omega))]))) (by exact gz_m 609 (by omega))]; exact ⟨by exact gz_m 610 (by omega), by exact gz_m 611 (by omega), (fun j => ⟨(g969 17 j rfl), (k969 23 j rfl), (g969 31 j rfl), (g969 32 j rfl)⟩), fun j => ⟨(g969 33 j rfl), (g969 34 j rfl)⟩⟩)⟩)⟩⟩
