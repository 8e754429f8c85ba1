set_option maxHeartbeats 32000000 in
set_option maxRecDepth 100000 in
theorem r_wordOf_p_L139_L246_L278 {ws0 : List Cond} {tb : String → gz_T} (hws : ∀ w ∈ gr_ws, w ∈ ws0) (htb : tb RX13 = gr_T) (ext : gz_Sh) (I9 : gr_I) (β : Int → Int) (N9 : Int) (p9 : Int) (I : gr_I) (J : gr_J) (hI : gr_Inv I) (x1 : I 0 72 ≤ I 0 69) (x4 : I 0 72 ≤ I 0 73) (x5 : 0 ≤ I 0 6) (x6 : I 0 59 + I 0 69 - I 0 72 ≤ 1900) (x7 : gr_ATp β N9 p9 I J) (x8 : 0 ≤ p9) (x9 : gr_KW J) (KGR_I : gr_GR I) (KST_I : gr_ST I9 I) (v2_12 : Int) (v3_25 : Int) : ∀ (I99 : gr_I) (J100 : gr_J) (p_101 : Int), gr_Inv I99 → gr_fr [59, 71, 72, 73, 74, 75, 76, 77, 101, 106] [18, 36, 37, 38, 39, 40, 51, 67] I I99 → gr_fj [59, 71, 72, 73, 74, 75, 76, 77, 101, 106] [18, 36, 37, 38, 39, 40, 51, 67] J J100 → gr_GR I99 → gr_ST I9 I99 → gr_LKs I I99 → ((0 ≤ (I 0 6) ∧ (I 0 6) ≤ 7) ∧ (0 ≤ v2_12 ∧ v2_12 ≤ 95) ∧ (0 ≤ v3_25 ∧ v3_25 ≤ 23) ∧ (I99 6 (Int.toNat v2_12) = 0) ∧ (v2_12 < I99 0 3) ∧ (I99 18 (Int.toNat (I 0 6)) ≤ 63) ∧ (v3_25 < I 17 (Int.toNat (I 0 6))) ∧ (0 ≤ p_101) ∧ (I99 0 72 ≤ I99 0 69) ∧ (I99 0 72 ≤ I99 0 73) ∧ (I99 0 69 = I 0 69) ∧ (I 0 73 ≤ I99 0 73) ∧ (I 0 72 ≤ I99 0 72) ∧ (I99 0 6 = I 0 6) ∧ (I99 0 59 - I99 0 72 ≤ I 0 59 - I 0 72)) → (gr_ATp β N9 p_101 I99 J100) → ((gs_wd β N9 I J (I 0 78) p9) = p_101) → (v2_12 = gs_lk I J 3 3 (gs_rn β N9 p9)) → (v3_25 = gs_wpt β N9 I J p9) → (gs_w3 β N9 I (gs_X β N9 (gs_X β N9 p9)) I99 (I99 67)) → (I99 0 106 = (gs_wvl β N9 I J (gs_stm β N9 3 (gs_X β N9 (gs_X β N9 p9))))) → (I99 0 101 = gs_prc β N9 (gs_wve β N9 I J (gs_stm β N9 3 (gs_X β N9 (gs_X β N9 p9))))) → ((∀ k, I99 18 k = I 18 k) ∧ (∀ k, I99 36 k = I 36 k) ∧ (∀ k, I99 37 k = I 37 k) ∧ (∀ k, I99 38 k = I 38 k) ∧ (∀ k, I99 39 k = I 39 k) ∧ (∀ k, I99 40 k = I 40 k)) → gv_X (gr_E ws0 tb 11 (yX13_wordOf, cX13_wordOf, 7, (some .boolean)) kX13_wordOf) (gv_Q cX13_wordOf (some .boolean) (gr_sh ++ ext) (fun r hₚ => (∃ (Iₚ : gr_I) (Jₚ : gr_J), hₚ = gr_h Iₚ Jₚ ∧ gr_Inv Iₚ ∧ gr_fr [59, 71, 72, 73, 74, 75, 76, 77, 101, 106] [18, 36, 37, 38, 39, 40, 51, 67] I Iₚ ∧ gr_fj [59, 71, 72, 73, 74, 75, 76, 77, 101, 106] [18, 36, 37, 38, 39, 40, 51, 67] J Jₚ ∧ gr_GR Iₚ ∧ gr_ST I9 Iₚ ∧ (∃ z : Int, r = some (.inl z) ∧ 0 ≤ z ∧ z ≤ 1 ∧ (Iₚ 0 71 = 5 ∨ Iₚ 0 73 ≤ Iₚ 0 69) ∧ (Iₚ 0 72 ≤ Iₚ 0 69) ∧ (Iₚ 0 71 = 0 ∨ (Iₚ 0 72 < Iₚ 0 73 ∧ Iₚ 0 72 < Iₚ 0 69)) ∧ (Iₚ 0 71 = 3 → 2 ≤ Iₚ 0 73 - Iₚ 0 72 ∧ Iₚ 0 73 - Iₚ 0 72 ≤ 14) ∧ (Iₚ 0 72 ≤ Iₚ 0 73) ∧ (Iₚ 0 69 = I 0 69) ∧ (I 0 73 ≤ Iₚ 0 73) ∧ (I 0 72 ≤ Iₚ 0 72) ∧ (Iₚ 0 59 - Iₚ 0 72 ≤ I 0 59 - I 0 72) ∧ (gr_LKs I Iₚ) ∧ (gs_Or z (0 ≤ (gs_wd β N9 I J (I 0 78) p9) ∧ gr_ATp β N9 (gs_wd β N9 I J (I 0 78) p9) Iₚ Jₚ ∧ (Iₚ 18 (Int.toNat (I 0 6)) = I 18 (Int.toNat (I 0 6)) + 1 ∧ ∀ j, ¬ j = (Int.toNat (I 0 6)) → Iₚ 18 j = I 18 j) ∧ gs_Uwd β N9 I J p9 Iₚ) ((gs_wd β N9 I J (I 0 78) p9) < 0 ∧ Iₚ 0 77 = -1 - (gs_wd β N9 I J (I 0 78) p9) ∧ gs_Swd I Iₚ)))))) (278, [(0, .inr (.inr (some 0))), (1, .inl (I 0 6)), (2, .inl v2_12), (3, .inl v3_25)], [], gr_sh ++ ext, gr_h I99 J100) := by
  have FI : gr_fr [59, 71, 72, 73, 74, 75, 76, 77, 101, 106] [18, 36, 37, 38, 39, 40, 51, 67] I I := fun _ _ _ => rfl
  have FJ : gr_fj [59, 71, 72, 73, 74, 75, 76, 77, 101, 106] [18, 36, 37, 38, 39, 40, 51, 67] J J := fun _ _ _ => rfl
  have hD : gv_D (gr_E ws0 tb 11 (yX13_wordOf, cX13_wordOf, 7, (some .boolean)) kX13_wordOf) := gq_of oX13_wordOf
  have tAT := gr_ATp_l x7
  skip
  have KW := x9
  have f1 := (gr_b_0_71 hI)
  have f2 := (gr_b_0_72 hI)
  have f3 := (gr_b_0_73 hI)
  have f4 := (gr_b_0_69 hI)
  have f5 := (gr_b_0_6 hI)
  have f6 := (gr_b_0_59 hI)
  have f7 := (gr_b_0_3 hI)
  have f8 := (gr_b_0_106 hI)
  have f9 := (gr_b_0_101 hI)
  have KLK_I : gr_LKs I I := gr_LKs_rf
  intro I99 J100 p_101 hI99 FI99 FJ100 KGR_I99 KST_I99 KLK_I99 m_101 e5_101 e6_101 e7_101 e8_101 e9_101 e10_101 e11_101 e12_101
  obtain ⟨h_I_0_6__101, hv2_12_101, hv3_25_101, e0_101, e1_101, e2_101, e3_101, e4_101, e13_101, e14_101, e15_101, e16_101, e17_101, e18_101, e19_101⟩ := m_101
  have f102 := (gr_b_0_71 hI99)
  have f103 := (gr_b_0_72 hI99)
  have f104 := (gr_b_0_73 hI99)
  have f105 := (gr_b_0_69 hI99)
  have f106 := (gr_b_0_6 hI99)
  have f107 := (gr_b_0_59 hI99)
  have f108 := (gr_b_0_3 hI99)
  have f109 := (gr_b_0_106 hI99)
  have f110 := (gr_b_0_101 hI99)
  have t111 := gr_ATp_l e5_101
  have L315 : ∀ (n : Nat) (I112 : gr_I) (J113 : gr_J) (v5_114 : Int) (v6_114 : Int) (p_114 : Int), (4 - v6_114).toNat < n → gr_Inv I112 → gr_fr [59, 71, 72, 73, 74, 75, 76, 77, 101, 106] [18, 36, 37, 38, 39, 40, 51, 67] I I112 → gr_fj [59, 71, 72, 73, 74, 75, 76, 77, 101, 106] [18, 36, 37, 38, 39, 40, 51, 67] J J113 → gr_GR I112 → gr_ST I9 I112 → gr_LKs I I112 → ((0 ≤ v5_114 ∧ v5_114 ≤ 511) ∧ (0 ≤ v6_114 ∧ v6_114 ≤ 3) ∧ (0 ≤ p_114) ∧ (I112 0 72 ≤ I112 0 69) ∧ (I112 0 72 ≤ I112 0 73) ∧ (I112 0 69 = I 0 69) ∧ (I 0 73 ≤ I112 0 73) ∧ (I 0 72 ≤ I112 0 72) ∧ (I112 0 6 = I 0 6) ∧ (I112 0 59 - I112 0 72 ≤ I 0 59 - I 0 72)) → (gr_ATp β N9 p_114 I112 J113) → ((gs_wd β N9 I J (I 0 78) p9) = p_114) → ((I112 18 (Int.toNat (I 0 6)) = I 18 (Int.toNat (I 0 6)) + 1 ∧ ∀ j, ¬ j = (Int.toNat (I 0 6)) → I112 18 j = I 18 j)) → (gs_w9 (gs_lk I J 3 3 (gs_rn β N9 p9)) (gs_wpt β N9 I J p9) (Int.toNat v5_114) v6_114 I I112) → (gs_w3 β N9 I (gs_X β N9 (gs_X β N9 p9)) I112 (I112 67)) → (I112 0 106 = (gs_wvl β N9 I J (gs_stm β N9 3 (gs_X β N9 (gs_X β N9 p9))))) → (I112 0 101 = gs_prc β N9 (gs_wve β N9 I J (gs_stm β N9 3 (gs_X β N9 (gs_X β N9 p9))))) → (v5_114 = 64 * I 0 6 + I 18 (Int.toNat (I 0 6))) → (gs_wb β N9 I J p9) → gv_X (gr_E ws0 tb 11 (yX13_wordOf, cX13_wordOf, 7, (some .boolean)) kX13_wordOf) (gv_Q cX13_wordOf (some .boolean) (gr_sh ++ ext) (fun r hₚ => (∃ (Iₚ : gr_I) (Jₚ : gr_J), hₚ = gr_h Iₚ Jₚ ∧ gr_Inv Iₚ ∧ gr_fr [59, 71, 72, 73, 74, 75, 76, 77, 101, 106] [18, 36, 37, 38, 39, 40, 51, 67] I Iₚ ∧ gr_fj [59, 71, 72, 73, 74, 75, 76, 77, 101, 106] [18, 36, 37, 38, 39, 40, 51, 67] J Jₚ ∧ gr_GR Iₚ ∧ gr_ST I9 Iₚ ∧ (∃ z : Int, r = some (.inl z) ∧ 0 ≤ z ∧ z ≤ 1 ∧ (Iₚ 0 71 = 5 ∨ Iₚ 0 73 ≤ Iₚ 0 69) ∧ (Iₚ 0 72 ≤ Iₚ 0 69) ∧ (Iₚ 0 71 = 0 ∨ (Iₚ 0 72 < Iₚ 0 73 ∧ Iₚ 0 72 < Iₚ 0 69)) ∧ (Iₚ 0 71 = 3 → 2 ≤ Iₚ 0 73 - Iₚ 0 72 ∧ Iₚ 0 73 - Iₚ 0 72 ≤ 14) ∧ (Iₚ 0 72 ≤ Iₚ 0 73) ∧ (Iₚ 0 69 = I 0 69) ∧ (I 0 73 ≤ Iₚ 0 73) ∧ (I 0 72 ≤ Iₚ 0 72) ∧ (Iₚ 0 59 - Iₚ 0 72 ≤ I 0 59 - I 0 72) ∧ (gr_LKs I Iₚ) ∧ (gs_Or z (0 ≤ (gs_wd β N9 I J (I 0 78) p9) ∧ gr_ATp β N9 (gs_wd β N9 I J (I 0 78) p9) Iₚ Jₚ ∧ (Iₚ 18 (Int.toNat (I 0 6)) = I 18 (Int.toNat (I 0 6)) + 1 ∧ ∀ j, ¬ j = (Int.toNat (I 0 6)) → Iₚ 18 j = I 18 j) ∧ gs_Uwd β N9 I J p9 Iₚ) ((gs_wd β N9 I J (I 0 78) p9) < 0 ∧ Iₚ 0 77 = -1 - (gs_wd β N9 I J (I 0 78) p9) ∧ gs_Swd I Iₚ)))))) (315, [(0, .inr (.inr (some 0))), (5, .inl v5_114), (6, .inl v6_114)], [], gr_sh ++ ext, gr_h I112 J113) := by
    intro n
    induction n with
    | zero => intro I112 J113 v5_114 v6_114 p_114 hn; exact gz_m 2 (by omega)
    | succ n ih315 =>
      intro I112 J113 v5_114 v6_114 p_114 hn hI112 FI112 FJ113 KGR_I112 KST_I112 KLK_I112 m_114 e1_114 e2_114 e3_114 e4_114 e5_114 e6_114 e7_114 e8_114 e9_114
      clear h_I_0_6__101 hv2_12_101 hv3_25_101 e0_101 e1_101 e2_101 e3_101 e4_101 e13_101 e14_101 e15_101 e16_101 e17_101 e18_101 e19_101 f102 f103 f104 f105 f106 f107 f108 f109 f110 t111
      obtain ⟨hv5_114, hv6_114, e0_114, e10_114, e11_114, e12_114, e13_114, e14_114, e15_114, e16_114⟩ := m_114
      have f115 := (gr_b_0_71 hI112)
      have f116 := (gr_b_0_72 hI112)
      have f117 := (gr_b_0_73 hI112)
      have f118 := (gr_b_0_69 hI112)
      have f119 := (gr_b_0_6 hI112)
      have f120 := (gr_b_0_59 hI112)
      have f121 := (gr_b_0_3 hI112)
      have f122 := (gr_b_0_106 hI112)
      have f123 := (gr_b_0_101 hI112)
      have t124 := gr_ATp_l e1_114
      refine gv_run 2 true hD (pcₚ := 318) (lvₚ := [(0, .inr (.inr (some 0))), (5, .inl v5_114), (6, .inl v6_114)]) (stₚ := [.inl 3, .inl v6_114]) (hₚ := gr_h I112 J113) (C := ((True ∧ True) ∧ True)) rfl ⟨⟨trivial, trivial⟩, trivial⟩ ?_
      refine gv_icmp_ge (t := 346) hD rfl rfl ⟨⟨by exact gz_m 3 (by omega), by exact gz_m 4 (by omega)⟩, ⟨by exact gz_m 5 (by omega), by exact gz_m 6 (by omega)⟩⟩ (fun c125 => ?_) (fun c125 => ?_)
      · have f126 := (gr_b_0_106 hI112)
        refine gv_run 5 true hD (pcₚ := 356) (lvₚ := [(0, .inr (.inr (some 0))), (5, .inl v5_114), (6, .inl v6_114)]) (stₚ := [.inl (I112 0 106), .inl v5_114, .inr (.inr (some 39))]) (hₚ := gr_h I112 J113) (C := (((((True ∧ True) ∧ True) ∧ True) ∧ True) ∧ True)) rfl ⟨⟨⟨⟨⟨trivial, trivial⟩, trivial⟩, trivial⟩, trivial⟩, trivial⟩ ?_
        refine gv_run 1 true hD (pcₚ := 357) (lvₚ := [(0, .inr (.inr (some 0))), (5, .inl v5_114), (6, .inl v6_114)]) (stₚ := []) (hₚ := gz_up (gr_h I112 J113) 39 (Int.toNat v5_114) (.inl (I112 0 106))) (C := (True ∧ (0 ≤ v5_114 ∧ v5_114 < ((512 : Nat) : Int)))) rfl ⟨trivial, ⟨by exact gz_m 7 (by omega), by exact gz_m 8 (by omega)⟩⟩ ?_
        refine gr_st hI112 FI112 rfl rfl ⟨⟨by show 0 ≤ _; exact gz_m 9 (by omega), by show _ ≤ 16777215; exact gz_m 10 (by omega)⟩, trivial⟩ (fun I127 hI127 FI127 q128 p128 => ?_)
        have t129 := p128 0 71 (fun q => absurd q.1 (by first | exact gz_ne rfl | decide))
        have t130 := p128 0 72 (fun q => absurd q.1 (by first | exact gz_ne rfl | decide))
        have t131 := p128 0 73 (fun q => absurd q.1 (by first | exact gz_ne rfl | decide))
        have t132 := p128 0 69 (fun q => absurd q.1 (by first | exact gz_ne rfl | decide))
        have t133 := p128 0 6 (fun q => absurd q.1 (by first | exact gz_ne rfl | decide))
        have t134 := p128 0 59 (fun q => absurd q.1 (by first | exact gz_ne rfl | decide))
        have t135 := p128 0 3 (fun q => absurd q.1 (by first | exact gz_ne rfl | decide))
        have t136 := p128 0 106 (fun q => absurd q.1 (by first | exact gz_ne rfl | decide))
        have t137 := p128 0 101 (fun q => absurd q.1 (by first | exact gz_ne rfl | decide))
        have f138 := (gr_b_0_71 hI127)
        have f139 := (gr_b_0_72 hI127)
        have f140 := (gr_b_0_73 hI127)
        have f141 := (gr_b_0_69 hI127)
        have f142 := (gr_b_0_6 hI127)
        have f143 := (gr_b_0_59 hI127)
        have f144 := (gr_b_0_3 hI127)
        have f145 := (gr_b_0_106 hI127)
        have f146 := (gr_b_0_101 hI127)
        have KGR_I127 := gr_GR_fr KGR_I112 (fun k => p128 19 k (fun q => absurd q.1 (by first | exact gz_ne rfl | decide))) (fun k => p128 18 k (fun q => absurd q.1 (by first | exact gz_ne rfl | decide))) (fun k => p128 36 k (fun q => absurd q.1 (by first | exact gz_ne rfl | decide))) (fun k => p128 41 k (fun q => absurd q.1 (by first | exact gz_ne rfl | decide))) (fun k => p128 42 k (fun q => absurd q.1 (by first | exact gz_ne rfl | decide))) (fun k => p128 43 k (fun q => absurd q.1 (by first | exact gz_ne rfl | decide))) (fun k => p128 45 k (fun q => absurd q.1 (by first | exact gz_ne rfl | decide))) (fun k => p128 46 k (fun q => absurd q.1 (by first | exact gz_ne rfl | decide))) (fun k => p128 47 k (fun q => absurd q.1 (by first | exact gz_ne rfl | decide))) (fun k => p128 6 k (fun q => absurd q.1 (by first | exact gz_ne rfl | decide))) (fun k => p128 7 k (fun q => absurd q.1 (by first | exact gz_ne rfl | decide))) (fun k => p128 8 k (fun q => absurd q.1 (by first | exact gz_ne rfl | decide))) (p128 0 3 (fun q => absurd q.1 (by first | exact gz_ne rfl | decide)))
        have KST_I127 := gr_ST_fr KST_I112 (fun k => p128 6 k (fun q => absurd q.1 (by first | exact gz_ne rfl | decide))) (fun k => p128 19 k (fun q => absurd q.1 (by first | exact gz_ne rfl | decide))) (fun k => p128 18 k (fun q => absurd q.1 (by first | exact gz_ne rfl | decide))) (fun k => p128 41 k (fun q => absurd q.1 (by first | exact gz_ne rfl | decide))) (fun k => p128 36 k (fun q => absurd q.1 (by first | exact gz_ne rfl | decide))) (p128 0 3 (fun q => absurd q.1 (by first | exact gz_ne rfl | decide)))
        have KLK_I127 := gr_LKs_fr KLK_I112 (fun k => p128 51 k (fun q => absurd q.1 (by first | exact gz_ne rfl | decide))) (p128 0 59 (fun q => absurd q.1 (by first | exact gz_ne rfl | decide)))
        have A147 := gr_ATp_sr e1_114 p128 rfl
        have f148 := (gr_b_0_101 hI127)
        refine gv_run 5 true hD (pcₚ := 367) (lvₚ := [(0, .inr (.inr (some 0))), (5, .inl v5_114), (6, .inl v6_114)]) (stₚ := [.inl (I127 0 101), .inl v5_114, .inr (.inr (some 40))]) (hₚ := gr_h I127 J113) (C := (((((True ∧ True) ∧ True) ∧ True) ∧ True) ∧ True)) rfl ⟨⟨⟨⟨⟨trivial, trivial⟩, trivial⟩, trivial⟩, trivial⟩, trivial⟩ ?_
        refine gv_run 1 true hD (pcₚ := 368) (lvₚ := [(0, .inr (.inr (some 0))), (5, .inl v5_114), (6, .inl v6_114)]) (stₚ := []) (hₚ := gz_up (gr_h I127 J113) 40 (Int.toNat v5_114) (.inl (I127 0 101))) (C := (True ∧ (0 ≤ v5_114 ∧ v5_114 < ((512 : Nat) : Int)))) rfl ⟨trivial, ⟨by exact gz_m 11 (by omega), by exact gz_m 12 (by omega)⟩⟩ ?_
        refine gr_st hI127 FI127 rfl rfl ⟨⟨by show 0 ≤ _; exact gz_m 13 (by omega), by show _ ≤ 10000; exact gz_m 14 (by omega)⟩, trivial⟩ (fun I149 hI149 FI149 q150 p150 => ?_)
        have t151 := p150 0 71 (fun q => absurd q.1 (by first | exact gz_ne rfl | decide))
        have t152 := p150 0 72 (fun q => absurd q.1 (by first | exact gz_ne rfl | decide))
        have t153 := p150 0 73 (fun q => absurd q.1 (by first | exact gz_ne rfl | decide))
        have t154 := p150 0 69 (fun q => absurd q.1 (by first | exact gz_ne rfl | decide))
        have t155 := p150 0 6 (fun q => absurd q.1 (by first | exact gz_ne rfl | decide))
        have t156 := p150 0 59 (fun q => absurd q.1 (by first | exact gz_ne rfl | decide))
        have t157 := p150 0 3 (fun q => absurd q.1 (by first | exact gz_ne rfl | decide))
        have t158 := p150 0 106 (fun q => absurd q.1 (by first | exact gz_ne rfl | decide))
        have t159 := p150 0 101 (fun q => absurd q.1 (by first | exact gz_ne rfl | decide))
        have f160 := (gr_b_0_71 hI149)
        have f161 := (gr_b_0_72 hI149)
        have f162 := (gr_b_0_73 hI149)
        have f163 := (gr_b_0_69 hI149)
        have f164 := (gr_b_0_6 hI149)
        have f165 := (gr_b_0_59 hI149)
        have f166 := (gr_b_0_3 hI149)
        have f167 := (gr_b_0_106 hI149)
        have f168 := (gr_b_0_101 hI149)
        have KGR_I149 := gr_GR_fr KGR_I127 (fun k => p150 19 k (fun q => absurd q.1 (by first | exact gz_ne rfl | decide))) (fun k => p150 18 k (fun q => absurd q.1 (by first | exact gz_ne rfl | decide))) (fun k => p150 36 k (fun q => absurd q.1 (by first | exact gz_ne rfl | decide))) (fun k => p150 41 k (fun q => absurd q.1 (by first | exact gz_ne rfl | decide))) (fun k => p150 42 k (fun q => absurd q.1 (by first | exact gz_ne rfl | decide))) (fun k => p150 43 k (fun q => absurd q.1 (by first | exact gz_ne rfl | decide))) (fun k => p150 45 k (fun q => absurd q.1 (by first | exact gz_ne rfl | decide))) (fun k => p150 46 k (fun q => absurd q.1 (by first | exact gz_ne rfl | decide))) (fun k => p150 47 k (fun q => absurd q.1 (by first | exact gz_ne rfl | decide))) (fun k => p150 6 k (fun q => absurd q.1 (by first | exact gz_ne rfl | decide))) (fun k => p150 7 k (fun q => absurd q.1 (by first | exact gz_ne rfl | decide))) (fun k => p150 8 k (fun q => absurd q.1 (by first | exact gz_ne rfl | decide))) (p150 0 3 (fun q => absurd q.1 (by first | exact gz_ne rfl | decide)))
        have KST_I149 := gr_ST_fr KST_I127 (fun k => p150 6 k (fun q => absurd q.1 (by first | exact gz_ne rfl | decide))) (fun k => p150 19 k (fun q => absurd q.1 (by first | exact gz_ne rfl | decide))) (fun k => p150 18 k (fun q => absurd q.1 (by first | exact gz_ne rfl | decide))) (fun k => p150 41 k (fun q => absurd q.1 (by first | exact gz_ne rfl | decide))) (fun k => p150 36 k (fun q => absurd q.1 (by first | exact gz_ne rfl | decide))) (p150 0 3 (fun q => absurd q.1 (by first | exact gz_ne rfl | decide)))
        have KLK_I149 := gr_LKs_fr KLK_I127 (fun k => p150 51 k (fun q => absurd q.1 (by first | exact gz_ne rfl | decide))) (p150 0 59 (fun q => absurd q.1 (by first | exact gz_ne rfl | decide)))
        have A169 := gr_ATp_sr A147 p150 rfl
        refine gv_run 1 true hD (pcₚ := 369) (lvₚ := [(0, .inr (.inr (some 0))), (5, .inl v5_114), (6, .inl v6_114)]) (stₚ := [.inl 1]) (hₚ := gr_h I149 J113) (C := (True ∧ True)) rfl ⟨trivial, trivial⟩ ?_
        have b170 : (I149 0 69 = I 0 69) ∧ (I 0 73 ≤ I149 0 73) ∧ (I 0 72 ≤ I149 0 72) ∧ (I149 0 59 - I149 0 72 ≤ I 0 59 - I 0 72) := by exact gz_m 15 (by omega)
        exact gv_zret hD rfl (by exact gz_m 16 (by omega)) ⟨I149, J113, rfl, hI149, FI149, FJ113, KGR_I149, KST_I149, ⟨_, rfl, by exact gz_m 17 (by omega), by exact gz_m 18 (by omega), (gr_ATp_rr A169).1, (gr_ATp_rr A169).2.1, (gr_ATp_rr A169).2.2.1, (gr_ATp_rr A169).2.2.2.1, (gr_ATp_rr A169).2.2.2.2, b170.1, b170.2.1, b170.2.2.1, b170.2.2.2, KLK_I149, (Or.inl ⟨by exact gz_m 19 (by omega), by rw [e2_114]; exact ⟨by exact gz_m 20 (by omega), A169, (by have y9 : ∀ j, I149 18 j = I112 18 j := fun j => ((p150 18 j (fun q => absurd q.1 (by first | exact gz_ne rfl | decide))).trans (p128 18 j (fun q => absurd q.1 (by first | exact gz_ne rfl | decide)))); exact ⟨(y9 _).trans e3_114.1, fun j hj => (y9 j).trans (e3_114.2 j hj)⟩), (gs_Uwd_mk e4_114 (by exact gz_m 21 (by omega)) (by unfold gs_Wn; exact gz_m 22 (by omega)) rfl rfl e5_114 (by exact gz_m 23 (by omega)) p128 q128 (by exact gz_m 24 (by omega)) (by exact gz_m 25 (by omega)) p150 q150 (by have h9 := p128 0 101 (fun q => absurd q.1 (by first | exact gz_ne rfl | decide)); exact gz_m 26 (by omega)) e9_114)⟩⟩)⟩⟩
      · refine gv_run 7 true hD (pcₚ := 332) (lvₚ := [(0, .inr (.inr (some 0))), (5, .inl v5_114), (6, .inl v6_114)]) (stₚ := [.inl ((3 * v5_114) + v6_114), .inr (.inr (some 38))]) (hₚ := gr_h I112 J113) (C := (((((((True ∧ True) ∧ True) ∧ True) ∧ True) ∧ True) ∧ True) ∧ True)) rfl ⟨⟨⟨⟨⟨⟨⟨trivial, trivial⟩, trivial⟩, trivial⟩, trivial⟩, trivial⟩, trivial⟩, trivial⟩ ?_
        have f171 := (gr_b_67 hI112 (Int.toNat v6_114))
        refine gv_run 4 true hD (pcₚ := 339) (lvₚ := [(0, .inr (.inr (some 0))), (5, .inl v5_114), (6, .inl v6_114)]) (stₚ := [.inl (I112 67 (Int.toNat v6_114)), .inl ((3 * v5_114) + v6_114), .inr (.inr (some 38))]) (hₚ := gr_h I112 J113) (C := ((((True ∧ True) ∧ True) ∧ True) ∧ (0 ≤ v6_114 ∧ v6_114 < ((3 : Nat) : Int)))) rfl ⟨⟨⟨⟨trivial, trivial⟩, trivial⟩, trivial⟩, ⟨by exact gz_m 27 (by omega), by exact gz_m 28 (by omega)⟩⟩ ?_
        refine gv_run 1 true hD (pcₚ := 340) (lvₚ := [(0, .inr (.inr (some 0))), (5, .inl v5_114), (6, .inl v6_114)]) (stₚ := []) (hₚ := gz_up (gr_h I112 J113) 38 (Int.toNat (((3 * v5_114) + v6_114))) (.inl ((I112 67 (Int.toNat v6_114))))) (C := (True ∧ (0 ≤ (((3 * v5_114) + v6_114)) ∧ (((3 * v5_114) + v6_114)) < ((1536 : Nat) : Int)))) rfl ⟨trivial, ⟨by exact gz_m 29 (by omega), by exact gz_m 30 (by omega)⟩⟩ ?_
        refine gr_st hI112 FI112 rfl rfl ⟨⟨by show (-1) ≤ _; exact gz_m 31 (by omega), by show _ ≤ 32015; exact gz_m 32 (by omega)⟩, trivial⟩ (fun I172 hI172 FI172 q173 p173 => ?_)
        have t174 := p173 0 71 (fun q => absurd q.1 (by first | exact gz_ne rfl | decide))
        have t175 := p173 0 72 (fun q => absurd q.1 (by first | exact gz_ne rfl | decide))
        have t176 := p173 0 73 (fun q => absurd q.1 (by first | exact gz_ne rfl | decide))
        have t177 := p173 0 69 (fun q => absurd q.1 (by first | exact gz_ne rfl | decide))
        have t178 := p173 0 6 (fun q => absurd q.1 (by first | exact gz_ne rfl | decide))
        have t179 := p173 0 59 (fun q => absurd q.1 (by first | exact gz_ne rfl | decide))
        have t180 := p173 0 3 (fun q => absurd q.1 (by first | exact gz_ne rfl | decide))
        have t181 := p173 0 106 (fun q => absurd q.1 (by first | exact gz_ne rfl | decide))
        have t182 := p173 0 101 (fun q => absurd q.1 (by first | exact gz_ne rfl | decide))
        have f183 := (gr_b_0_71 hI172)
        have f184 := (gr_b_0_72 hI172)
        have f185 := (gr_b_0_73 hI172)
        have f186 := (gr_b_0_69 hI172)
        have f187 := (gr_b_0_6 hI172)
        have f188 := (gr_b_0_59 hI172)
        have f189 := (gr_b_0_3 hI172)
        have f190 := (gr_b_0_106 hI172)
        have f191 := (gr_b_0_101 hI172)
        have KGR_I172 := gr_GR_fr KGR_I112 (fun k => p173 19 k (fun q => absurd q.1 (by first | exact gz_ne rfl | decide))) (fun k => p173 18 k (fun q => absurd q.1 (by first | exact gz_ne rfl | decide))) (fun k => p173 36 k (fun q => absurd q.1 (by first | exact gz_ne rfl | decide))) (fun k => p173 41 k (fun q => absurd q.1 (by first | exact gz_ne rfl | decide))) (fun k => p173 42 k (fun q => absurd q.1 (by first | exact gz_ne rfl | decide))) (fun k => p173 43 k (fun q => absurd q.1 (by first | exact gz_ne rfl | decide))) (fun k => p173 45 k (fun q => absurd q.1 (by first | exact gz_ne rfl | decide))) (fun k => p173 46 k (fun q => absurd q.1 (by first | exact gz_ne rfl | decide))) (fun k => p173 47 k (fun q => absurd q.1 (by first | exact gz_ne rfl | decide))) (fun k => p173 6 k (fun q => absurd q.1 (by first | exact gz_ne rfl | decide))) (fun k => p173 7 k (fun q => absurd q.1 (by first | exact gz_ne rfl | decide))) (fun k => p173 8 k (fun q => absurd q.1 (by first | exact gz_ne rfl | decide))) (p173 0 3 (fun q => absurd q.1 (by first | exact gz_ne rfl | decide)))
        have KST_I172 := gr_ST_fr KST_I112 (fun k => p173 6 k (fun q => absurd q.1 (by first | exact gz_ne rfl | decide))) (fun k => p173 19 k (fun q => absurd q.1 (by first | exact gz_ne rfl | decide))) (fun k => p173 18 k (fun q => absurd q.1 (by first | exact gz_ne rfl | decide))) (fun k => p173 41 k (fun q => absurd q.1 (by first | exact gz_ne rfl | decide))) (fun k => p173 36 k (fun q => absurd q.1 (by first | exact gz_ne rfl | decide))) (p173 0 3 (fun q => absurd q.1 (by first | exact gz_ne rfl | decide)))
        have KLK_I172 := gr_LKs_fr KLK_I112 (fun k => p173 51 k (fun q => absurd q.1 (by first | exact gz_ne rfl | decide))) (p173 0 59 (fun q => absurd q.1 (by first | exact gz_ne rfl | decide)))
        have A192 := gr_ATp_sr e1_114 p173 rfl
        refine gv_run 2 true hD (pcₚ := 315) (lvₚ := [(6, .inl (v6_114 + 1)), (0, .inr (.inr (some 0))), (5, .inl v5_114)]) (stₚ := []) (hₚ := gr_h I172 J113) (C := ((True ∧ True) ∧ True)) rfl ⟨⟨trivial, trivial⟩, trivial⟩ ?_
        refine gv_pick [1, 2, 0] rfl ?_
        exact ih315 I172 J113 v5_114 (v6_114 + 1) p_114 (by exact gz_m 33 (by omega)) hI172 FI172 FJ113 KGR_I172 KST_I172 KLK_I172 (by exact gz_m 34 (by omega)) A192 e2_114 (by have y9 : ∀ j, I172 18 j = I112 18 j := fun j => (p173 18 j (fun q => absurd q.1 (by first | exact gz_ne rfl | decide))); exact ⟨(y9 _).trans e3_114.1, fun j hj => (y9 j).trans (e3_114.2 j hj)⟩) (gs_w9_s e4_114 ⟨by exact gz_m 35 (by omega), by exact gz_m 36 (by omega)⟩ (by exact gz_m 37 (by omega)) p173 q173) (gs_w3_kp e5_114 (gr_LKs_fr gr_LKs_rf (fun k => p173 51 k (fun q => absurd q.1 (by first | exact gz_ne rfl | decide))) (p173 0 59 (fun q => absurd q.1 (by first | exact gz_ne rfl | decide)))) (fun k _ => (p173 67 k (fun q => absurd q.1 (by first | exact gz_ne rfl | decide))))) (((p173 0 106 (fun q => absurd q.1 (by first | exact gz_ne rfl | decide)))).trans e6_114) (((p173 0 101 (fun q => absurd q.1 (by first | exact gz_ne rfl | decide)))).trans e7_114) e8_114 e9_114
  refine gv_run 7 true hD (pcₚ := 288) (lvₚ := [(0, .inr (.inr (some 0))), (1, .inl (I 0 6)), (2, .inl v2_12), (3, .inl v3_25)]) (stₚ := [.inl (I 0 6), .inr (.inr (some 18)), .inl (I 0 6), .inr (.inr (some 18)), .inl (64 * (I 0 6))]) (hₚ := gr_h I99 J100) (C := (((((((True ∧ True) ∧ True) ∧ True) ∧ True) ∧ True) ∧ True) ∧ True)) rfl ⟨⟨⟨⟨⟨⟨⟨trivial, trivial⟩, trivial⟩, trivial⟩, trivial⟩, trivial⟩, trivial⟩, trivial⟩ ?_
  have f193 := (gr_b_18 hI99 (Int.toNat ((I 0 6))))
  refine gv_run 1 true hD (pcₚ := 289) (lvₚ := [(0, .inr (.inr (some 0))), (1, .inl (I 0 6)), (2, .inl v2_12), (3, .inl v3_25)]) (stₚ := [.inl (I99 18 (Int.toNat ((I 0 6)))), .inl (I 0 6), .inr (.inr (some 18)), .inl (64 * (I 0 6))]) (hₚ := gr_h I99 J100) (C := (True ∧ (0 ≤ (I 0 6) ∧ (I 0 6) < ((8 : Nat) : Int)))) rfl ⟨trivial, ⟨by exact gz_m 38 (by omega), by exact gz_m 39 (by omega)⟩⟩ ?_
  refine gv_run 3 true hD (pcₚ := 292) (lvₚ := [(0, .inr (.inr (some 0))), (1, .inl (I 0 6)), (2, .inl v2_12), (3, .inl v3_25)]) (stₚ := [.inl ((I99 18 (Int.toNat ((I 0 6)))) + 1), .inl (I 0 6), .inr (.inr (some 18)), .inl (I99 18 (Int.toNat ((I 0 6)))), .inl (64 * (I 0 6))]) (hₚ := gr_h I99 J100) (C := (((True ∧ True) ∧ True) ∧ True)) rfl ⟨⟨⟨trivial, trivial⟩, trivial⟩, trivial⟩ ?_
  refine gv_run 1 true hD (pcₚ := 293) (lvₚ := [(0, .inr (.inr (some 0))), (1, .inl (I 0 6)), (2, .inl v2_12), (3, .inl v3_25)]) (stₚ := [.inl (I99 18 (Int.toNat ((I 0 6)))), .inl (64 * (I 0 6))]) (hₚ := gz_up (gr_h I99 J100) 18 (Int.toNat ((I 0 6))) (.inl (((I99 18 (Int.toNat ((I 0 6)))) + 1)))) (C := (True ∧ (0 ≤ (I 0 6) ∧ (I 0 6) < ((8 : Nat) : Int)))) rfl ⟨trivial, ⟨by exact gz_m 40 (by omega), by exact gz_m 41 (by omega)⟩⟩ ?_
  refine gr_st hI99 FI99 rfl rfl ⟨⟨by show 0 ≤ _; exact gz_m 42 (by omega), by show _ ≤ 64; exact gz_m 43 (by omega)⟩, trivial⟩ (fun I194 hI194 FI194 q195 p195 => ?_)
  have t196 := p195 0 71 (fun q => absurd q.1 (by first | exact gz_ne rfl | decide))
  have t197 := p195 0 72 (fun q => absurd q.1 (by first | exact gz_ne rfl | decide))
  have t198 := p195 0 73 (fun q => absurd q.1 (by first | exact gz_ne rfl | decide))
  have t199 := p195 0 69 (fun q => absurd q.1 (by first | exact gz_ne rfl | decide))
  have t200 := p195 0 6 (fun q => absurd q.1 (by first | exact gz_ne rfl | decide))
  have t201 := p195 0 59 (fun q => absurd q.1 (by first | exact gz_ne rfl | decide))
  have t202 := p195 0 3 (fun q => absurd q.1 (by first | exact gz_ne rfl | decide))
  have t203 := p195 0 106 (fun q => absurd q.1 (by first | exact gz_ne rfl | decide))
  have t204 := p195 0 101 (fun q => absurd q.1 (by first | exact gz_ne rfl | decide))
  have t205 := p195 6 (Int.toNat v2_12) (fun q => absurd q.1 (by first | exact gz_ne rfl | decide))
  have f206 := (gr_b_0_71 hI194)
  have f207 := (gr_b_0_72 hI194)
  have f208 := (gr_b_0_73 hI194)
  have f209 := (gr_b_0_69 hI194)
  have f210 := (gr_b_0_6 hI194)
  have f211 := (gr_b_0_59 hI194)
  have f212 := (gr_b_0_3 hI194)
  have f213 := (gr_b_0_106 hI194)
  have f214 := (gr_b_0_101 hI194)
  have KLK_I194 := gr_LKs_fr KLK_I99 (fun k => p195 51 k (fun q => absurd q.1 (by first | exact gz_ne rfl | decide))) (p195 0 59 (fun q => absurd q.1 (by first | exact gz_ne rfl | decide)))
  have A215 := gr_ATp_sr e5_101 p195 rfl
  refine gv_run 6 true hD (pcₚ := 303) (lvₚ := [(5, .inl ((64 * (I 0 6)) + (I99 18 (Int.toNat ((I 0 6)))))), (0, .inr (.inr (some 0))), (1, .inl (I 0 6)), (2, .inl v2_12), (3, .inl v3_25)]) (stₚ := [.inl v2_12, .inl ((64 * (I 0 6)) + (I99 18 (Int.toNat ((I 0 6))))), .inr (.inr (some 36))]) (hₚ := gr_h I194 J100) (C := ((((((True ∧ True) ∧ True) ∧ True) ∧ True) ∧ True) ∧ True)) rfl ⟨⟨⟨⟨⟨⟨trivial, trivial⟩, trivial⟩, trivial⟩, trivial⟩, trivial⟩, trivial⟩ ?_
  refine gv_run 1 true hD (pcₚ := 304) (lvₚ := [(5, .inl ((64 * (I 0 6)) + (I99 18 (Int.toNat ((I 0 6)))))), (0, .inr (.inr (some 0))), (1, .inl (I 0 6)), (2, .inl v2_12), (3, .inl v3_25)]) (stₚ := []) (hₚ := gz_up (gr_h I194 J100) 36 (Int.toNat (((64 * (I 0 6)) + (I99 18 (Int.toNat ((I 0 6))))))) (.inl v2_12)) (C := (True ∧ (0 ≤ (((64 * (I 0 6)) + (I99 18 (Int.toNat ((I 0 6)))))) ∧ (((64 * (I 0 6)) + (I99 18 (Int.toNat ((I 0 6)))))) < ((512 : Nat) : Int)))) rfl ⟨trivial, ⟨by exact gz_m 44 (by omega), by exact gz_m 45 (by omega)⟩⟩ ?_
  refine gr_st hI194 FI194 rfl rfl ⟨⟨by show 0 ≤ _; exact gz_m 46 (by omega), by show _ ≤ 95; exact gz_m 47 (by omega)⟩, trivial⟩ (fun I216 hI216 FI216 q217 p217 => ?_)
  have t218 := p217 0 71 (fun q => absurd q.1 (by first | exact gz_ne rfl | decide))
  have t219 := p217 0 72 (fun q => absurd q.1 (by first | exact gz_ne rfl | decide))
  have t220 := p217 0 73 (fun q => absurd q.1 (by first | exact gz_ne rfl | decide))
  have t221 := p217 0 69 (fun q => absurd q.1 (by first | exact gz_ne rfl | decide))
  have t222 := p217 0 6 (fun q => absurd q.1 (by first | exact gz_ne rfl | decide))
  have t223 := p217 0 59 (fun q => absurd q.1 (by first | exact gz_ne rfl | decide))
  have t224 := p217 0 3 (fun q => absurd q.1 (by first | exact gz_ne rfl | decide))
  have t225 := p217 0 106 (fun q => absurd q.1 (by first | exact gz_ne rfl | decide))
  have t226 := p217 0 101 (fun q => absurd q.1 (by first | exact gz_ne rfl | decide))
  have t227 := p217 18 (Int.toNat ((I 0 6))) (fun q => absurd q.1 (by first | exact gz_ne rfl | decide))
  have t228 := p217 6 (Int.toNat v2_12) (fun q => absurd q.1 (by first | exact gz_ne rfl | decide))
  have f229 := (gr_b_0_71 hI216)
  have f230 := (gr_b_0_72 hI216)
  have f231 := (gr_b_0_73 hI216)
  have f232 := (gr_b_0_69 hI216)
  have f233 := (gr_b_0_6 hI216)
  have f234 := (gr_b_0_59 hI216)
  have f235 := (gr_b_0_3 hI216)
  have f236 := (gr_b_0_106 hI216)
  have f237 := (gr_b_0_101 hI216)
  have KLK_I216 := gr_LKs_fr KLK_I194 (fun k => p217 51 k (fun q => absurd q.1 (by first | exact gz_ne rfl | decide))) (p217 0 59 (fun q => absurd q.1 (by first | exact gz_ne rfl | decide)))
  have A238 := gr_ATp_sr A215 p217 rfl
  have KGR_I216 : gr_GR I216 := gr_GR_w (t := (Int.toNat ((I 0 6)))) (k := (Int.toNat (((64 * (I 0 6)) + (I99 18 (Int.toNat ((I 0 6)))))))) KGR_I99 (by exact gz_m 48 (by omega)) p195 (by exact gz_m 49 (by omega)) (by exact gz_m 50 (by omega)) (by exact gz_m 51 (by omega)) (by exact gz_m 52 (by omega)) p217 q217 (by exact gz_m 53 (by omega)) (by exact gz_m 54 (by omega))
  have KST_I216 : gr_ST I9 I216 := gr_ST_w (t := (Int.toNat ((I 0 6)))) (k := (Int.toNat (((64 * (I 0 6)) + (I99 18 (Int.toNat ((I 0 6)))))))) KST_I99 KGR_I99 (by exact gz_m 55 (by omega)) p195 (by exact gz_m 56 (by omega)) (by exact gz_m 57 (by omega)) (by exact gz_m 58 (by omega)) (by exact gz_m 59 (by omega)) p217
  refine gv_run 4 true hD (pcₚ := 311) (lvₚ := [(5, .inl ((64 * (I 0 6)) + (I99 18 (Int.toNat ((I 0 6)))))), (0, .inr (.inr (some 0))), (1, .inl (I 0 6)), (2, .inl v2_12), (3, .inl v3_25)]) (stₚ := [.inl v3_25, .inl ((64 * (I 0 6)) + (I99 18 (Int.toNat ((I 0 6))))), .inr (.inr (some 37))]) (hₚ := gr_h I216 J100) (C := ((((True ∧ True) ∧ True) ∧ True) ∧ True)) rfl ⟨⟨⟨⟨trivial, trivial⟩, trivial⟩, trivial⟩, trivial⟩ ?_
  refine gv_run 1 true hD (pcₚ := 312) (lvₚ := [(5, .inl ((64 * (I 0 6)) + (I99 18 (Int.toNat ((I 0 6)))))), (0, .inr (.inr (some 0))), (1, .inl (I 0 6)), (2, .inl v2_12), (3, .inl v3_25)]) (stₚ := []) (hₚ := gz_up (gr_h I216 J100) 37 (Int.toNat (((64 * (I 0 6)) + (I99 18 (Int.toNat ((I 0 6))))))) (.inl v3_25)) (C := (True ∧ (0 ≤ (((64 * (I 0 6)) + (I99 18 (Int.toNat ((I 0 6)))))) ∧ (((64 * (I 0 6)) + (I99 18 (Int.toNat ((I 0 6)))))) < ((512 : Nat) : Int)))) rfl ⟨trivial, ⟨by exact gz_m 60 (by omega), by exact gz_m 61 (by omega)⟩⟩ ?_
  refine gr_st hI216 FI216 rfl rfl ⟨⟨by show 0 ≤ _; exact gz_m 62 (by omega), by show _ ≤ 23; exact gz_m 63 (by omega)⟩, trivial⟩ (fun I239 hI239 FI239 q240 p240 => ?_)
  have t241 := p240 0 71 (fun q => absurd q.1 (by first | exact gz_ne rfl | decide))
  have t242 := p240 0 72 (fun q => absurd q.1 (by first | exact gz_ne rfl | decide))
  have t243 := p240 0 73 (fun q => absurd q.1 (by first | exact gz_ne rfl | decide))
  have t244 := p240 0 69 (fun q => absurd q.1 (by first | exact gz_ne rfl | decide))
  have t245 := p240 0 6 (fun q => absurd q.1 (by first | exact gz_ne rfl | decide))
  have t246 := p240 0 59 (fun q => absurd q.1 (by first | exact gz_ne rfl | decide))
  have t247 := p240 0 3 (fun q => absurd q.1 (by first | exact gz_ne rfl | decide))
  have t248 := p240 0 106 (fun q => absurd q.1 (by first | exact gz_ne rfl | decide))
  have t249 := p240 0 101 (fun q => absurd q.1 (by first | exact gz_ne rfl | decide))
  have t250 := p240 18 (Int.toNat ((I 0 6))) (fun q => absurd q.1 (by first | exact gz_ne rfl | decide))
  have t251 := p240 6 (Int.toNat v2_12) (fun q => absurd q.1 (by first | exact gz_ne rfl | decide))
  have f252 := (gr_b_0_71 hI239)
  have f253 := (gr_b_0_72 hI239)
  have f254 := (gr_b_0_73 hI239)
  have f255 := (gr_b_0_69 hI239)
  have f256 := (gr_b_0_6 hI239)
  have f257 := (gr_b_0_59 hI239)
  have f258 := (gr_b_0_3 hI239)
  have f259 := (gr_b_0_106 hI239)
  have f260 := (gr_b_0_101 hI239)
  have KGR_I239 := gr_GR_fr KGR_I216 (fun k => p240 19 k (fun q => absurd q.1 (by first | exact gz_ne rfl | decide))) (fun k => p240 18 k (fun q => absurd q.1 (by first | exact gz_ne rfl | decide))) (fun k => p240 36 k (fun q => absurd q.1 (by first | exact gz_ne rfl | decide))) (fun k => p240 41 k (fun q => absurd q.1 (by first | exact gz_ne rfl | decide))) (fun k => p240 42 k (fun q => absurd q.1 (by first | exact gz_ne rfl | decide))) (fun k => p240 43 k (fun q => absurd q.1 (by first | exact gz_ne rfl | decide))) (fun k => p240 45 k (fun q => absurd q.1 (by first | exact gz_ne rfl | decide))) (fun k => p240 46 k (fun q => absurd q.1 (by first | exact gz_ne rfl | decide))) (fun k => p240 47 k (fun q => absurd q.1 (by first | exact gz_ne rfl | decide))) (fun k => p240 6 k (fun q => absurd q.1 (by first | exact gz_ne rfl | decide))) (fun k => p240 7 k (fun q => absurd q.1 (by first | exact gz_ne rfl | decide))) (fun k => p240 8 k (fun q => absurd q.1 (by first | exact gz_ne rfl | decide))) (p240 0 3 (fun q => absurd q.1 (by first | exact gz_ne rfl | decide)))
  have KST_I239 := gr_ST_fr KST_I216 (fun k => p240 6 k (fun q => absurd q.1 (by first | exact gz_ne rfl | decide))) (fun k => p240 19 k (fun q => absurd q.1 (by first | exact gz_ne rfl | decide))) (fun k => p240 18 k (fun q => absurd q.1 (by first | exact gz_ne rfl | decide))) (fun k => p240 41 k (fun q => absurd q.1 (by first | exact gz_ne rfl | decide))) (fun k => p240 36 k (fun q => absurd q.1 (by first | exact gz_ne rfl | decide))) (p240 0 3 (fun q => absurd q.1 (by first | exact gz_ne rfl | decide)))
  have KLK_I239 := gr_LKs_fr KLK_I216 (fun k => p240 51 k (fun q => absurd q.1 (by first | exact gz_ne rfl | decide))) (p240 0 59 (fun q => absurd q.1 (by first | exact gz_ne rfl | decide)))
  have A261 := gr_ATp_sr A238 p240 rfl
  refine gv_run 2 true hD (pcₚ := 315) (lvₚ := [(6, .inl 0), (5, .inl ((64 * (I 0 6)) + (I99 18 (Int.toNat ((I 0 6)))))), (0, .inr (.inr (some 0))), (1, .inl (I 0 6)), (2, .inl v2_12), (3, .inl v3_25)]) (stₚ := []) (hₚ := gr_h I239 J100) (C := ((True ∧ True) ∧ True)) rfl ⟨⟨trivial, trivial⟩, trivial⟩ ?_
  refine gv_pick [2, 1, 0] rfl ?_
  exact L315 _ I239 J100 (((64 * (I 0 6)) + (I99 18 (Int.toNat ((I 0 6)))))) 0 p_101 (Nat.lt_succ_self _) hI239 FI239 FJ100 KGR_I239 KST_I239 KLK_I239 (by exact gz_m 64 (by omega)) A261 e6_101 (by have v9 : I99 18 (Int.toNat (I 0 6)) = I 18 (Int.toNat (I 0 6)) := (e12_101.1 _); exact ⟨(((p240 18 _ (fun q => absurd q.1 (by first | exact gz_ne rfl | decide))).trans (p217 18 _ (fun q => absurd q.1 (by first | exact gz_ne rfl | decide))))).trans (by rw [show (Int.toNat (I 0 6)) = (Int.toNat ((I 0 6))) from by exact gz_m 65 (by omega), q195]; exact gz_m 66 (by omega)), fun j hj => (((p240 18 j (fun q => absurd q.1 (by first | exact gz_ne rfl | decide))).trans (p217 18 j (fun q => absurd q.1 (by first | exact gz_ne rfl | decide))))).trans ((p195 18 j (fun h => hj (by have h9 := h.2; exact gz_m 67 (by omega)))).trans (e12_101.1 j))⟩) (gs_w9_0 (fun j => ⟨((p195 36 j (fun q => absurd q.1 (by first | exact gz_ne rfl | decide))).trans (e12_101.2.1 j)), ((p195 37 j (fun q => absurd q.1 (by first | exact gz_ne rfl | decide))).trans (e12_101.2.2.1 j)), ((p195 38 j (fun q => absurd q.1 (by first | exact gz_ne rfl | decide))).trans (e12_101.2.2.2.1 j)), ((p195 39 j (fun q => absurd q.1 (by first | exact gz_ne rfl | decide))).trans (e12_101.2.2.2.2.1 j)), ((p195 40 j (fun q => absurd q.1 (by first | exact gz_ne rfl | decide))).trans (e12_101.2.2.2.2.2 j))⟩) rfl p217 (q217.trans e7_101) rfl p240 (q240.trans e8_101)) (gs_w3_kp e9_101 (gr_LKs_fr (gr_LKs_fr (gr_LKs_fr gr_LKs_rf (fun k => p195 51 k (fun q => absurd q.1 (by first | exact gz_ne rfl | decide))) (p195 0 59 (fun q => absurd q.1 (by first | exact gz_ne rfl | decide)))) (fun k => p217 51 k (fun q => absurd q.1 (by first | exact gz_ne rfl | decide))) (p217 0 59 (fun q => absurd q.1 (by first | exact gz_ne rfl | decide)))) (fun k => p240 51 k (fun q => absurd q.1 (by first | exact gz_ne rfl | decide))) (p240 0 59 (fun q => absurd q.1 (by first | exact gz_ne rfl | decide)))) (fun k _ => (((p240 67 k (fun q => absurd q.1 (by first | exact gz_ne rfl | decide))).trans (p217 67 k (fun q => absurd q.1 (by first | exact gz_ne rfl | decide)))).trans (p195 67 k (fun q => absurd q.1 (by first | exact gz_ne rfl | decide)))))) (((((p240 0 106 (fun q => absurd q.1 (by first | exact gz_ne rfl | decide))).trans (p217 0 106 (fun q => absurd q.1 (by first | exact gz_ne rfl | decide)))).trans (p195 0 106 (fun q => absurd q.1 (by first | exact gz_ne rfl | decide))))).trans e10_101) (((((p240 0 101 (fun q => absurd q.1 (by first | exact gz_ne rfl | decide))).trans (p217 0 101 (fun q => absurd q.1 (by first | exact gz_ne rfl | decide)))).trans (p195 0 101 (fun q => absurd q.1 (by first | exact gz_ne rfl | decide))))).trans e11_101) (by have v9 : I99 18 (Int.toNat (I 0 6)) = I 18 (Int.toNat (I 0 6)) := (e12_101.1 _); exact gz_m 68 (by omega)) (by have h8 := e7_101; have h7 := e8_101; have h6 : I99 0 3 = I 0 3 := (FI99 0 3 rfl); unfold gs_wb; exact gz_m 69 (by omega))
set_option maxHeartbeats 32000000 in
set_option maxRecDepth 100000 in
theorem r_wordOf_p_L139_L246 {ws0 : List Cond} {tb : String → gz_T} (hws : ∀ w ∈ gr_ws, w ∈ ws0) (htb : tb RX13 = gr_T) (ext : gz_Sh) (I9 : gr_I) (β : Int → Int) (N9 : Int) (p9 : Int) (I : gr_I) (J : gr_J) (hI : gr_Inv I) (x1 : I 0 72 ≤ I 0 69) (x4 : I 0 72 ≤ I 0 73) (x5 : 0 ≤ I 0 6) (x6 : I 0 59 + I 0 69 - I 0 72 ≤ 1900) (x7 : gr_ATp β N9 p9 I J) (x8 : 0 ≤ p9) (x9 : gr_KW J) (KGR_I : gr_GR I) (KST_I : gr_ST I9 I) (v2_12 : Int) (v3_25 : Int) : ∀ (I73 : gr_I) (J74 : gr_J) (p_75 : Int), gr_Inv I73 → gr_fr [59, 71, 72, 73, 74, 75, 76, 77, 101, 106] [18, 36, 37, 38, 39, 40, 51, 67] I I73 → gr_fj [59, 71, 72, 73, 74, 75, 76, 77, 101, 106] [18, 36, 37, 38, 39, 40, 51, 67] J J74 → gr_GR I73 → gr_ST I9 I73 → gr_LKs I I73 → ((0 ≤ (I 0 6) ∧ (I 0 6) ≤ 7) ∧ (0 ≤ v2_12 ∧ v2_12 ≤ 95) ∧ (0 ≤ v3_25 ∧ v3_25 ≤ 23) ∧ (I73 6 (Int.toNat v2_12) = 0) ∧ (v2_12 < I73 0 3) ∧ (v3_25 < I 17 (Int.toNat (I 0 6))) ∧ (0 ≤ p_75) ∧ (I73 0 72 ≤ I73 0 69) ∧ (I73 0 72 ≤ I73 0 73) ∧ (I73 0 69 = I 0 69) ∧ (I 0 73 ≤ I73 0 73) ∧ (I 0 72 ≤ I73 0 72) ∧ (I73 0 6 = I 0 6) ∧ (I73 0 59 - I73 0 72 ≤ I 0 59 - I 0 72)) → (gr_ATp β N9 p_75 I73 J74) → ((gs_wd β N9 I J (I 0 78) p9) = gs_wd5 β N9 I (I 0 78) p_75) → (v2_12 = gs_lk I J 3 3 (gs_rn β N9 p9)) → (v3_25 = gs_wpt β N9 I J p9) → (gs_w3 β N9 I (gs_X β N9 (gs_X β N9 p9)) I73 (I73 67)) → (I73 0 106 = (gs_wvl β N9 I J (gs_stm β N9 3 (gs_X β N9 (gs_X β N9 p9))))) → (p_75 = (gs_wve β N9 I J (gs_stm β N9 3 (gs_X β N9 (gs_X β N9 p9))))) → ((∀ k, I73 18 k = I 18 k) ∧ (∀ k, I73 36 k = I 36 k) ∧ (∀ k, I73 37 k = I 37 k) ∧ (∀ k, I73 38 k = I 38 k) ∧ (∀ k, I73 39 k = I 39 k) ∧ (∀ k, I73 40 k = I 40 k)) → gv_X (gr_E ws0 tb 11 (yX13_wordOf, cX13_wordOf, 7, (some .boolean)) kX13_wordOf) (gv_Q cX13_wordOf (some .boolean) (gr_sh ++ ext) (fun r hₚ => (∃ (Iₚ : gr_I) (Jₚ : gr_J), hₚ = gr_h Iₚ Jₚ ∧ gr_Inv Iₚ ∧ gr_fr [59, 71, 72, 73, 74, 75, 76, 77, 101, 106] [18, 36, 37, 38, 39, 40, 51, 67] I Iₚ ∧ gr_fj [59, 71, 72, 73, 74, 75, 76, 77, 101, 106] [18, 36, 37, 38, 39, 40, 51, 67] J Jₚ ∧ gr_GR Iₚ ∧ gr_ST I9 Iₚ ∧ (∃ z : Int, r = some (.inl z) ∧ 0 ≤ z ∧ z ≤ 1 ∧ (Iₚ 0 71 = 5 ∨ Iₚ 0 73 ≤ Iₚ 0 69) ∧ (Iₚ 0 72 ≤ Iₚ 0 69) ∧ (Iₚ 0 71 = 0 ∨ (Iₚ 0 72 < Iₚ 0 73 ∧ Iₚ 0 72 < Iₚ 0 69)) ∧ (Iₚ 0 71 = 3 → 2 ≤ Iₚ 0 73 - Iₚ 0 72 ∧ Iₚ 0 73 - Iₚ 0 72 ≤ 14) ∧ (Iₚ 0 72 ≤ Iₚ 0 73) ∧ (Iₚ 0 69 = I 0 69) ∧ (I 0 73 ≤ Iₚ 0 73) ∧ (I 0 72 ≤ Iₚ 0 72) ∧ (Iₚ 0 59 - Iₚ 0 72 ≤ I 0 59 - I 0 72) ∧ (gr_LKs I Iₚ) ∧ (gs_Or z (0 ≤ (gs_wd β N9 I J (I 0 78) p9) ∧ gr_ATp β N9 (gs_wd β N9 I J (I 0 78) p9) Iₚ Jₚ ∧ (Iₚ 18 (Int.toNat (I 0 6)) = I 18 (Int.toNat (I 0 6)) + 1 ∧ ∀ j, ¬ j = (Int.toNat (I 0 6)) → Iₚ 18 j = I 18 j) ∧ gs_Uwd β N9 I J p9 Iₚ) ((gs_wd β N9 I J (I 0 78) p9) < 0 ∧ Iₚ 0 77 = -1 - (gs_wd β N9 I J (I 0 78) p9) ∧ gs_Swd I Iₚ)))))) (246, [(0, .inr (.inr (some 0))), (1, .inl (I 0 6)), (2, .inl v2_12), (3, .inl v3_25)], [], gr_sh ++ ext, gr_h I73 J74) := by
  have FI : gr_fr [59, 71, 72, 73, 74, 75, 76, 77, 101, 106] [18, 36, 37, 38, 39, 40, 51, 67] I I := fun _ _ _ => rfl
  have FJ : gr_fj [59, 71, 72, 73, 74, 75, 76, 77, 101, 106] [18, 36, 37, 38, 39, 40, 51, 67] J J := fun _ _ _ => rfl
  have hD : gv_D (gr_E ws0 tb 11 (yX13_wordOf, cX13_wordOf, 7, (some .boolean)) kX13_wordOf) := gq_of oX13_wordOf
  have tAT := gr_ATp_l x7
  skip
  have KW := x9
  have f1 := (gr_b_0_71 hI)
  have f2 := (gr_b_0_72 hI)
  have f3 := (gr_b_0_73 hI)
  have f4 := (gr_b_0_69 hI)
  have f5 := (gr_b_0_6 hI)
  have f6 := (gr_b_0_59 hI)
  have f7 := (gr_b_0_3 hI)
  have f8 := (gr_b_0_106 hI)
  have f9 := (gr_b_0_101 hI)
  have KLK_I : gr_LKs I I := gr_LKs_rf
  intro I73 J74 p_75 hI73 FI73 FJ74 KGR_I73 KST_I73 KLK_I73 m_75 e4_75 e5_75 e6_75 e7_75 e8_75 e9_75 e10_75 e11_75
  obtain ⟨h_I_0_6__75, hv2_12_75, hv3_25_75, e0_75, e1_75, e2_75, e3_75, e12_75, e13_75, e14_75, e15_75, e16_75, e17_75, e18_75⟩ := m_75
  have f76 := (gr_b_0_71 hI73)
  have f77 := (gr_b_0_72 hI73)
  have f78 := (gr_b_0_73 hI73)
  have f79 := (gr_b_0_69 hI73)
  have f80 := (gr_b_0_6 hI73)
  have f81 := (gr_b_0_59 hI73)
  have f82 := (gr_b_0_3 hI73)
  have f83 := (gr_b_0_106 hI73)
  have f84 := (gr_b_0_101 hI73)
  have t85 := gr_ATp_l e4_75
  have L253 : ∀ (I86 : gr_I) (J87 : gr_J) (p_88 : Int), gr_Inv I86 → gr_fr [59, 71, 72, 73, 74, 75, 76, 77, 101, 106] [18, 36, 37, 38, 39, 40, 51, 67] I I86 → gr_fj [59, 71, 72, 73, 74, 75, 76, 77, 101, 106] [18, 36, 37, 38, 39, 40, 51, 67] J J87 → gr_GR I86 → gr_ST I9 I86 → gr_LKs I I86 → ((0 ≤ (I 0 6) ∧ (I 0 6) ≤ 7) ∧ (0 ≤ v2_12 ∧ v2_12 ≤ 95) ∧ (0 ≤ v3_25 ∧ v3_25 ≤ 23) ∧ (I86 6 (Int.toNat v2_12) = 0) ∧ (v2_12 < I86 0 3) ∧ (v3_25 < I 17 (Int.toNat (I 0 6))) ∧ (0 ≤ p_88) ∧ (I86 0 72 ≤ I86 0 69) ∧ (I86 0 72 ≤ I86 0 73) ∧ (I86 0 69 = I 0 69) ∧ (I 0 73 ≤ I86 0 73) ∧ (I 0 72 ≤ I86 0 72) ∧ (I86 0 6 = I 0 6) ∧ (I86 0 59 - I86 0 72 ≤ I 0 59 - I 0 72)) → (gr_ATp β N9 p_88 I86 J87) → ((gs_wd β N9 I J (I 0 78) p9) = gs_wd6 β N9 I (I 0 78) p_88) → (v2_12 = gs_lk I J 3 3 (gs_rn β N9 p9)) → (v3_25 = gs_wpt β N9 I J p9) → (gs_w3 β N9 I (gs_X β N9 (gs_X β N9 p9)) I86 (I86 67)) → (I86 0 106 = (gs_wvl β N9 I J (gs_stm β N9 3 (gs_X β N9 (gs_X β N9 p9))))) → (I86 0 101 = gs_prc β N9 (gs_wve β N9 I J (gs_stm β N9 3 (gs_X β N9 (gs_X β N9 p9))))) → ((∀ k, I86 18 k = I 18 k) ∧ (∀ k, I86 36 k = I 36 k) ∧ (∀ k, I86 37 k = I 37 k) ∧ (∀ k, I86 38 k = I 38 k) ∧ (∀ k, I86 39 k = I 39 k) ∧ (∀ k, I86 40 k = I 40 k)) → gv_X (gr_E ws0 tb 11 (yX13_wordOf, cX13_wordOf, 7, (some .boolean)) kX13_wordOf) (gv_Q cX13_wordOf (some .boolean) (gr_sh ++ ext) (fun r hₚ => (∃ (Iₚ : gr_I) (Jₚ : gr_J), hₚ = gr_h Iₚ Jₚ ∧ gr_Inv Iₚ ∧ gr_fr [59, 71, 72, 73, 74, 75, 76, 77, 101, 106] [18, 36, 37, 38, 39, 40, 51, 67] I Iₚ ∧ gr_fj [59, 71, 72, 73, 74, 75, 76, 77, 101, 106] [18, 36, 37, 38, 39, 40, 51, 67] J Jₚ ∧ gr_GR Iₚ ∧ gr_ST I9 Iₚ ∧ (∃ z : Int, r = some (.inl z) ∧ 0 ≤ z ∧ z ≤ 1 ∧ (Iₚ 0 71 = 5 ∨ Iₚ 0 73 ≤ Iₚ 0 69) ∧ (Iₚ 0 72 ≤ Iₚ 0 69) ∧ (Iₚ 0 71 = 0 ∨ (Iₚ 0 72 < Iₚ 0 73 ∧ Iₚ 0 72 < Iₚ 0 69)) ∧ (Iₚ 0 71 = 3 → 2 ≤ Iₚ 0 73 - Iₚ 0 72 ∧ Iₚ 0 73 - Iₚ 0 72 ≤ 14) ∧ (Iₚ 0 72 ≤ Iₚ 0 73) ∧ (Iₚ 0 69 = I 0 69) ∧ (I 0 73 ≤ Iₚ 0 73) ∧ (I 0 72 ≤ Iₚ 0 72) ∧ (Iₚ 0 59 - Iₚ 0 72 ≤ I 0 59 - I 0 72) ∧ (gr_LKs I Iₚ) ∧ (gs_Or z (0 ≤ (gs_wd β N9 I J (I 0 78) p9) ∧ gr_ATp β N9 (gs_wd β N9 I J (I 0 78) p9) Iₚ Jₚ ∧ (Iₚ 18 (Int.toNat (I 0 6)) = I 18 (Int.toNat (I 0 6)) + 1 ∧ ∀ j, ¬ j = (Int.toNat (I 0 6)) → Iₚ 18 j = I 18 j) ∧ gs_Uwd β N9 I J p9 Iₚ) ((gs_wd β N9 I J (I 0 78) p9) < 0 ∧ Iₚ 0 77 = -1 - (gs_wd β N9 I J (I 0 78) p9) ∧ gs_Swd I Iₚ)))))) (253, [(0, .inr (.inr (some 0))), (1, .inl (I 0 6)), (2, .inl v2_12), (3, .inl v3_25)], [], gr_sh ++ ext, gr_h I86 J87) := by
    intro I86 J87 p_88 hI86 FI86 FJ87 KGR_I86 KST_I86 KLK_I86 m_88 e4_88 e5_88 e6_88 e7_88 e8_88 e9_88 e10_88 e11_88
    clear h_I_0_6__75 hv2_12_75 hv3_25_75 e0_75 e1_75 e2_75 e3_75 e12_75 e13_75 e14_75 e15_75 e16_75 e17_75 e18_75 f76 f77 f78 f79 f80 f81 f82 f83 f84 t85
    obtain ⟨h_I_0_6__88, hv2_12_88, hv3_25_88, e0_88, e1_88, e2_88, e3_88, e12_88, e13_88, e14_88, e15_88, e16_88, e17_88, e18_88⟩ := m_88
    have f89 := (gr_b_0_71 hI86)
    have f90 := (gr_b_0_72 hI86)
    have f91 := (gr_b_0_73 hI86)
    have f92 := (gr_b_0_69 hI86)
    have f93 := (gr_b_0_6 hI86)
    have f94 := (gr_b_0_59 hI86)
    have f95 := (gr_b_0_3 hI86)
    have f96 := (gr_b_0_106 hI86)
    have f97 := (gr_b_0_101 hI86)
    have t98 := gr_ATp_l e4_88
    have L278 : ∀ (I99 : gr_I) (J100 : gr_J) (p_101 : Int), gr_Inv I99 → gr_fr [59, 71, 72, 73, 74, 75, 76, 77, 101, 106] [18, 36, 37, 38, 39, 40, 51, 67] I I99 → gr_fj [59, 71, 72, 73, 74, 75, 76, 77, 101, 106] [18, 36, 37, 38, 39, 40, 51, 67] J J100 → gr_GR I99 → gr_ST I9 I99 → gr_LKs I I99 → ((0 ≤ (I 0 6) ∧ (I 0 6) ≤ 7) ∧ (0 ≤ v2_12 ∧ v2_12 ≤ 95) ∧ (0 ≤ v3_25 ∧ v3_25 ≤ 23) ∧ (I99 6 (Int.toNat v2_12) = 0) ∧ (v2_12 < I99 0 3) ∧ (I99 18 (Int.toNat (I 0 6)) ≤ 63) ∧ (v3_25 < I 17 (Int.toNat (I 0 6))) ∧ (0 ≤ p_101) ∧ (I99 0 72 ≤ I99 0 69) ∧ (I99 0 72 ≤ I99 0 73) ∧ (I99 0 69 = I 0 69) ∧ (I 0 73 ≤ I99 0 73) ∧ (I 0 72 ≤ I99 0 72) ∧ (I99 0 6 = I 0 6) ∧ (I99 0 59 - I99 0 72 ≤ I 0 59 - I 0 72)) → (gr_ATp β N9 p_101 I99 J100) → ((gs_wd β N9 I J (I 0 78) p9) = p_101) → (v2_12 = gs_lk I J 3 3 (gs_rn β N9 p9)) → (v3_25 = gs_wpt β N9 I J p9) → (gs_w3 β N9 I (gs_X β N9 (gs_X β N9 p9)) I99 (I99 67)) → (I99 0 106 = (gs_wvl β N9 I J (gs_stm β N9 3 (gs_X β N9 (gs_X β N9 p9))))) → (I99 0 101 = gs_prc β N9 (gs_wve β N9 I J (gs_stm β N9 3 (gs_X β N9 (gs_X β N9 p9))))) → ((∀ k, I99 18 k = I 18 k) ∧ (∀ k, I99 36 k = I 36 k) ∧ (∀ k, I99 37 k = I 37 k) ∧ (∀ k, I99 38 k = I 38 k) ∧ (∀ k, I99 39 k = I 39 k) ∧ (∀ k, I99 40 k = I 40 k)) → gv_X (gr_E ws0 tb 11 (yX13_wordOf, cX13_wordOf, 7, (some .boolean)) kX13_wordOf) (gv_Q cX13_wordOf (some .boolean) (gr_sh ++ ext) (fun r hₚ => (∃ (Iₚ : gr_I) (Jₚ : gr_J), hₚ = gr_h Iₚ Jₚ ∧ gr_Inv Iₚ ∧ gr_fr [59, 71, 72, 73, 74, 75, 76, 77, 101, 106] [18, 36, 37, 38, 39, 40, 51, 67] I Iₚ ∧ gr_fj [59, 71, 72, 73, 74, 75, 76, 77, 101, 106] [18, 36, 37, 38, 39, 40, 51, 67] J Jₚ ∧ gr_GR Iₚ ∧ gr_ST I9 Iₚ ∧ (∃ z : Int, r = some (.inl z) ∧ 0 ≤ z ∧ z ≤ 1 ∧ (Iₚ 0 71 = 5 ∨ Iₚ 0 73 ≤ Iₚ 0 69) ∧ (Iₚ 0 72 ≤ Iₚ 0 69) ∧ (Iₚ 0 71 = 0 ∨ (Iₚ 0 72 < Iₚ 0 73 ∧ Iₚ 0 72 < Iₚ 0 69)) ∧ (Iₚ 0 71 = 3 → 2 ≤ Iₚ 0 73 - Iₚ 0 72 ∧ Iₚ 0 73 - Iₚ 0 72 ≤ 14) ∧ (Iₚ 0 72 ≤ Iₚ 0 73) ∧ (Iₚ 0 69 = I 0 69) ∧ (I 0 73 ≤ Iₚ 0 73) ∧ (I 0 72 ≤ Iₚ 0 72) ∧ (Iₚ 0 59 - Iₚ 0 72 ≤ I 0 59 - I 0 72) ∧ (gr_LKs I Iₚ) ∧ (gs_Or z (0 ≤ (gs_wd β N9 I J (I 0 78) p9) ∧ gr_ATp β N9 (gs_wd β N9 I J (I 0 78) p9) Iₚ Jₚ ∧ (Iₚ 18 (Int.toNat (I 0 6)) = I 18 (Int.toNat (I 0 6)) + 1 ∧ ∀ j, ¬ j = (Int.toNat (I 0 6)) → Iₚ 18 j = I 18 j) ∧ gs_Uwd β N9 I J p9 Iₚ) ((gs_wd β N9 I J (I 0 78) p9) < 0 ∧ Iₚ 0 77 = -1 - (gs_wd β N9 I J (I 0 78) p9) ∧ gs_Swd I Iₚ)))))) (278, [(0, .inr (.inr (some 0))), (1, .inl (I 0 6)), (2, .inl v2_12), (3, .inl v3_25)], [], gr_sh ++ ext, gr_h I99 J100) := r_wordOf_p_L139_L246_L278 (ws0 := ws0) (tb := tb) hws htb ext I9 β N9 p9 I J hI x1 x4 x5 x6 x7 x8 x9 KGR_I KST_I v2_12 v3_25
    have f262 := (gr_b_18 hI86 (Int.toNat ((I 0 6))))
    refine gv_run 5 true hD (pcₚ := 260) (lvₚ := [(0, .inr (.inr (some 0))), (1, .inl (I 0 6)), (2, .inl v2_12), (3, .inl v3_25)]) (stₚ := [.inl (I86 18 (Int.toNat ((I 0 6)))), .inr (.inr (some 0))]) (hₚ := gr_h I86 J87) (C := (((((True ∧ True) ∧ True) ∧ True) ∧ True) ∧ (0 ≤ (I 0 6) ∧ (I 0 6) < ((8 : Nat) : Int)))) rfl ⟨⟨⟨⟨⟨trivial, trivial⟩, trivial⟩, trivial⟩, trivial⟩, ⟨by exact gz_m 70 (by omega), by exact gz_m 71 (by omega)⟩⟩ ?_
    refine gv_run 1 true hD (pcₚ := 262) (lvₚ := [(0, .inr (.inr (some 0))), (1, .inl (I 0 6)), (2, .inl v2_12), (3, .inl v3_25)]) (stₚ := [.inl 64, .inl (I86 18 (Int.toNat ((I 0 6)))), .inr (.inr (some 0))]) (hₚ := gr_h I86 J87) (C := (True ∧ True)) rfl ⟨trivial, trivial⟩ ?_
    have t263 := (show I86 18 (Int.toNat (I 0 6)) = I 18 (Int.toNat (I 0 6)) from (e11_88.1 _))
    refine gv_icmp_ge (t := 269) hD rfl rfl ⟨⟨by exact gz_m 72 (by omega), by exact gz_m 73 (by omega)⟩, ⟨by exact gz_m 74 (by omega), by exact gz_m 75 (by omega)⟩⟩ (fun c264 => ?_) (fun c264 => ?_)
    · refine gv_run 1 true hD (pcₚ := 270) (lvₚ := [(0, .inr (.inr (some 0))), (1, .inl (I 0 6)), (2, .inl v2_12), (3, .inl v3_25)]) (stₚ := [.inl 0, .inr (.inr (some 0))]) (hₚ := gr_h I86 J87) (C := (True ∧ True)) rfl ⟨trivial, trivial⟩ ?_
      obtain ⟨r265, h265, E265, P265⟩ := r_done_p (ws0 := ws0) (tb := tb) hws htb ext β N9 p_88 I86 J87 hI86 0 ⟨by exact gz_m 76 (by omega), by exact gz_m 77 (by omega)⟩ (gr_ATp_rr e4_88).1 (gr_ATp_rr e4_88).2.1 (gr_ATp_rr e4_88).2.2.1 (gr_ATp_rr e4_88).2.2.2.1 (gr_ATp_rr e4_88).2.2.2.2 e4_88 (by exact gz_m 78 (by omega))
      obtain ⟨I266, J267, rfl, hI266, g265, k265, ⟨z265, rfl, q265⟩⟩ := P265
      have FI266 := gr_frt FI86 g265 rfl rfl
      have FJ267 := gr_fjt FJ87 k265 rfl rfl
      have t268 := g265 0 69 rfl
      have t269 := g265 0 6 rfl
      have t270 := g265 0 59 rfl
      have t271 := g265 0 3 rfl
      have t272 := g265 0 106 rfl
      have t273 := g265 0 101 rfl
      have t274 := g265 18 (Int.toNat ((I 0 6))) rfl
      have t275 := g265 6 (Int.toNat v2_12) rfl
      have f276 := (gr_b_0_71 hI266)
      have f277 := (gr_b_0_72 hI266)
      have f278 := (gr_b_0_73 hI266)
      have f279 := (gr_b_0_69 hI266)
      have f280 := (gr_b_0_6 hI266)
      have f281 := (gr_b_0_59 hI266)
      have f282 := (gr_b_0_3 hI266)
      have f283 := (gr_b_0_106 hI266)
      have f284 := (gr_b_0_101 hI266)
      have KGR_I266 := gr_GR_fr KGR_I86 (fun k => g265 19 k rfl) (fun k => g265 18 k rfl) (fun k => g265 36 k rfl) (fun k => g265 41 k rfl) (fun k => g265 42 k rfl) (fun k => g265 43 k rfl) (fun k => g265 45 k rfl) (fun k => g265 46 k rfl) (fun k => g265 47 k rfl) (fun k => g265 6 k rfl) (fun k => g265 7 k rfl) (fun k => g265 8 k rfl) (g265 0 3 rfl)
      have KST_I266 := gr_ST_fr KST_I86 (fun k => g265 6 k rfl) (fun k => g265 19 k rfl) (fun k => g265 18 k rfl) (fun k => g265 41 k rfl) (fun k => g265 36 k rfl) (g265 0 3 rfl)
      have KLK_I266 := gr_LKs_fr KLK_I86 (fun k => g265 51 k rfl) (g265 0 59 rfl)
      refine gv_callV hD rfl (As := [.inl 0]) (st := []) rfl (by decide) rfl rfl (gr_lV hws rfl) (Nat.le_of_ble_eq_true rfl) (gz_Ev_mono (d := 11) (by decide) E265) ?_
      show gv_X _ _ (273, [(0, .inr (.inr (some 0))), (1, .inl (I 0 6)), (2, .inl v2_12), (3, .inl v3_25)], [.inl z265], gr_sh ++ ext, gr_h I266 J267)
      refine gv_if_ne (t := 278) hD rfl rfl ⟨by exact gz_m 79 (by omega), by exact gz_m 80 (by omega)⟩ (fun c285 => ?_) (fun c285 => ?_)
      · have Q286 := q265.2.2.2.2.2.2.2.2.2.2.2.2
        rw [FI86 0 78 rfl] at Q286
        obtain ⟨u286, A286⟩ := gs_or1 Q286 (by exact gz_m 81 (by omega))
        have t287 := gr_ATp_l A286
        have t288 := (q265.2.2.2.2.2.2.2.2.2.2.1).resolve_left (by exact gz_m 82 (by omega))
        have t289 := (q265.2.2.2.2.2.2.2.2.2.2.2.1).resolve_left (by exact gz_m 83 (by omega))
        obtain ⟨_, _, -, _, -, -, _, _, _, _, -, -, -⟩ := q265
        have t290 := (gr_ATp_rr e4_88).2.2.1.resolve_left (by exact gz_m 84 (by omega))
        exact L278 I266 J267 ((gs_done β N9 0 (I 0 78) p_88)) hI266 FI266 FJ267 KGR_I266 KST_I266 KLK_I266 (by exact gz_m 85 (by omega)) A286 (by first | (exfalso; exact gz_m 86 (by omega)) | (rw [e5_88]; unfold gs_wd6; (repeat first | rw [if_pos (by exact gz_m 87 (by omega))] | rw [if_neg (by exact gz_m 88 (by omega))]))) e6_88 e7_88 (gs_w3_kp e8_88 (gr_LKs_fr gr_LKs_rf (fun k => g265 51 k rfl) (g265 0 59 rfl)) (fun k _ => (g265 67 k rfl))) (((g265 0 106 rfl)).trans e9_88) (((g265 0 101 rfl)).trans e10_88) ⟨(fun k => ((g265 18 k rfl).trans (e11_88.1 k))), (fun k => ((g265 36 k rfl).trans (e11_88.2.1 k))), (fun k => ((g265 37 k rfl).trans (e11_88.2.2.1 k))), (fun k => ((g265 38 k rfl).trans (e11_88.2.2.2.1 k))), (fun k => ((g265 39 k rfl).trans (e11_88.2.2.2.2.1 k))), (fun k => ((g265 40 k rfl).trans (e11_88.2.2.2.2.2 k)))⟩
      · have Q291 := q265.2.2.2.2.2.2.2.2.2.2.2.2
        rw [FI86 0 78 rfl] at Q291
        obtain ⟨u291, u291_⟩ := gs_or0 Q291 (by exact gz_m 89 (by omega))
        refine gv_run 1 true hD (pcₚ := 277) (lvₚ := [(0, .inr (.inr (some 0))), (1, .inl (I 0 6)), (2, .inl v2_12), (3, .inl v3_25)]) (stₚ := [.inl 0]) (hₚ := gr_h I266 J267) (C := (True ∧ True)) rfl ⟨trivial, trivial⟩ ?_
        have b292 : (I266 0 71 = 5 ∨ I266 0 73 ≤ I266 0 69) ∧ (I266 0 72 ≤ I266 0 69) ∧ (I266 0 71 = 0 ∨ (I266 0 72 < I266 0 73 ∧ I266 0 72 < I266 0 69)) ∧ (I266 0 71 = 3 → 2 ≤ I266 0 73 - I266 0 72 ∧ I266 0 73 - I266 0 72 ≤ 14) ∧ (I266 0 72 ≤ I266 0 73) ∧ (I266 0 69 = I 0 69) ∧ (I 0 73 ≤ I266 0 73) ∧ (I 0 72 ≤ I266 0 72) ∧ (I266 0 59 - I266 0 72 ≤ I 0 59 - I 0 72) := by exact gz_m 90 (by omega)
        exact gv_zret hD rfl (by exact gz_m 91 (by omega)) ⟨I266, J267, rfl, hI266, FI266, FJ267, KGR_I266, KST_I266, ⟨_, rfl, by exact gz_m 92 (by omega), by exact gz_m 93 (by omega), b292.1, b292.2.1, b292.2.2.1, b292.2.2.2.1, b292.2.2.2.2.1, b292.2.2.2.2.2.1, b292.2.2.2.2.2.2.1, b292.2.2.2.2.2.2.2.1, b292.2.2.2.2.2.2.2.2, KLK_I266, (Or.inr ⟨by exact gz_m 94 (by omega), by first | (exfalso; exact gz_m 95 (by omega)) | (rw [e5_88]; unfold gs_wd6; (repeat first | rw [if_pos (by exact gz_m 96 (by omega))] | rw [if_neg (by exact gz_m 97 (by omega))]); exact ⟨by exact gz_m 98 (by omega), by exact gz_m 99 (by omega), (fun j => ⟨((g265 18 j rfl).trans (e11_88.1 j)), ((g265 36 j rfl).trans (e11_88.2.1 j)), ((g265 37 j rfl).trans (e11_88.2.2.1 j)), ((g265 38 j rfl).trans (e11_88.2.2.2.1 j)), ((g265 39 j rfl).trans (e11_88.2.2.2.2.1 j)), ((g265 40 j rfl).trans (e11_88.2.2.2.2.2 j))⟩)⟩)⟩)⟩⟩
    · refine gv_run 2 true hD (pcₚ := 270) (lvₚ := [(0, .inr (.inr (some 0))), (1, .inl (I 0 6)), (2, .inl v2_12), (3, .inl v3_25)]) (stₚ := [.inl 1, .inr (.inr (some 0))]) (hₚ := gr_h I86 J87) (C := ((True ∧ True) ∧ True)) rfl ⟨⟨trivial, trivial⟩, trivial⟩ ?_
      obtain ⟨r293, h293, E293, P293⟩ := r_done_p (ws0 := ws0) (tb := tb) hws htb ext β N9 p_88 I86 J87 hI86 1 ⟨by exact gz_m 100 (by omega), by exact gz_m 101 (by omega)⟩ (gr_ATp_rr e4_88).1 (gr_ATp_rr e4_88).2.1 (gr_ATp_rr e4_88).2.2.1 (gr_ATp_rr e4_88).2.2.2.1 (gr_ATp_rr e4_88).2.2.2.2 e4_88 (by exact gz_m 102 (by omega))
      obtain ⟨I294, J295, rfl, hI294, g293, k293, ⟨z293, rfl, q293⟩⟩ := P293
      have FI294 := gr_frt FI86 g293 rfl rfl
      have FJ295 := gr_fjt FJ87 k293 rfl rfl
      have t296 := g293 0 69 rfl
      have t297 := g293 0 6 rfl
      have t298 := g293 0 59 rfl
      have t299 := g293 0 3 rfl
      have t300 := g293 0 106 rfl
      have t301 := g293 0 101 rfl
      have t302 := g293 18 (Int.toNat ((I 0 6))) rfl
      have t303 := g293 6 (Int.toNat v2_12) rfl
      have f304 := (gr_b_0_71 hI294)
      have f305 := (gr_b_0_72 hI294)
      have f306 := (gr_b_0_73 hI294)
      have f307 := (gr_b_0_69 hI294)
      have f308 := (gr_b_0_6 hI294)
      have f309 := (gr_b_0_59 hI294)
      have f310 := (gr_b_0_3 hI294)
      have f311 := (gr_b_0_106 hI294)
      have f312 := (gr_b_0_101 hI294)
      have KGR_I294 := gr_GR_fr KGR_I86 (fun k => g293 19 k rfl) (fun k => g293 18 k rfl) (fun k => g293 36 k rfl) (fun k => g293 41 k rfl) (fun k => g293 42 k rfl) (fun k => g293 43 k rfl) (fun k => g293 45 k rfl) (fun k => g293 46 k rfl) (fun k => g293 47 k rfl) (fun k => g293 6 k rfl) (fun k => g293 7 k rfl) (fun k => g293 8 k rfl) (g293 0 3 rfl)
      have KST_I294 := gr_ST_fr KST_I86 (fun k => g293 6 k rfl) (fun k => g293 19 k rfl) (fun k => g293 18 k rfl) (fun k => g293 41 k rfl) (fun k => g293 36 k rfl) (g293 0 3 rfl)
      have KLK_I294 := gr_LKs_fr KLK_I86 (fun k => g293 51 k rfl) (g293 0 59 rfl)
      refine gv_callV hD rfl (As := [.inl 1]) (st := []) rfl (by decide) rfl rfl (gr_lV hws rfl) (Nat.le_of_ble_eq_true rfl) (gz_Ev_mono (d := 11) (by decide) E293) ?_
      show gv_X _ _ (273, [(0, .inr (.inr (some 0))), (1, .inl (I 0 6)), (2, .inl v2_12), (3, .inl v3_25)], [.inl z293], gr_sh ++ ext, gr_h I294 J295)
      refine gv_if_ne (t := 278) hD rfl rfl ⟨by exact gz_m 103 (by omega), by exact gz_m 104 (by omega)⟩ (fun c313 => ?_) (fun c313 => ?_)
      · have Q314 := q293.2.2.2.2.2.2.2.2.2.2.2.2
        rw [FI86 0 78 rfl] at Q314
        obtain ⟨u314, A314⟩ := gs_or1 Q314 (by exact gz_m 105 (by omega))
        have t315 := gr_ATp_l A314
        have t316 := (q293.2.2.2.2.2.2.2.2.2.2.1).resolve_left (by exact gz_m 106 (by omega))
        have t317 := (q293.2.2.2.2.2.2.2.2.2.2.2.1).resolve_left (by exact gz_m 107 (by omega))
        obtain ⟨_, _, -, _, -, -, _, _, _, _, -, -, -⟩ := q293
        have t318 := (gr_ATp_rr e4_88).2.2.1.resolve_left (by exact gz_m 108 (by omega))
        exact L278 I294 J295 ((gs_done β N9 1 (I 0 78) p_88)) hI294 FI294 FJ295 KGR_I294 KST_I294 KLK_I294 (by exact gz_m 109 (by omega)) A314 (by first | (exfalso; exact gz_m 110 (by omega)) | (rw [e5_88]; unfold gs_wd6; (repeat first | rw [if_pos (by exact gz_m 111 (by omega))] | rw [if_neg (by exact gz_m 112 (by omega))]))) e6_88 e7_88 (gs_w3_kp e8_88 (gr_LKs_fr gr_LKs_rf (fun k => g293 51 k rfl) (g293 0 59 rfl)) (fun k _ => (g293 67 k rfl))) (((g293 0 106 rfl)).trans e9_88) (((g293 0 101 rfl)).trans e10_88) ⟨(fun k => ((g293 18 k rfl).trans (e11_88.1 k))), (fun k => ((g293 36 k rfl).trans (e11_88.2.1 k))), (fun k => ((g293 37 k rfl).trans (e11_88.2.2.1 k))), (fun k => ((g293 38 k rfl).trans (e11_88.2.2.2.1 k))), (fun k => ((g293 39 k rfl).trans (e11_88.2.2.2.2.1 k))), (fun k => ((g293 40 k rfl).trans (e11_88.2.2.2.2.2 k)))⟩
      · have Q319 := q293.2.2.2.2.2.2.2.2.2.2.2.2
        rw [FI86 0 78 rfl] at Q319
        obtain ⟨u319, u319_⟩ := gs_or0 Q319 (by exact gz_m 113 (by omega))
        refine gv_run 1 true hD (pcₚ := 277) (lvₚ := [(0, .inr (.inr (some 0))), (1, .inl (I 0 6)), (2, .inl v2_12), (3, .inl v3_25)]) (stₚ := [.inl 0]) (hₚ := gr_h I294 J295) (C := (True ∧ True)) rfl ⟨trivial, trivial⟩ ?_
        have b320 : (I294 0 71 = 5 ∨ I294 0 73 ≤ I294 0 69) ∧ (I294 0 72 ≤ I294 0 69) ∧ (I294 0 71 = 0 ∨ (I294 0 72 < I294 0 73 ∧ I294 0 72 < I294 0 69)) ∧ (I294 0 71 = 3 → 2 ≤ I294 0 73 - I294 0 72 ∧ I294 0 73 - I294 0 72 ≤ 14) ∧ (I294 0 72 ≤ I294 0 73) ∧ (I294 0 69 = I 0 69) ∧ (I 0 73 ≤ I294 0 73) ∧ (I 0 72 ≤ I294 0 72) ∧ (I294 0 59 - I294 0 72 ≤ I 0 59 - I 0 72) := by exact gz_m 114 (by omega)
        exact gv_zret hD rfl (by exact gz_m 115 (by omega)) ⟨I294, J295, rfl, hI294, FI294, FJ295, KGR_I294, KST_I294, ⟨_, rfl, by exact gz_m 116 (by omega), by exact gz_m 117 (by omega), b320.1, b320.2.1, b320.2.2.1, b320.2.2.2.1, b320.2.2.2.2.1, b320.2.2.2.2.2.1, b320.2.2.2.2.2.2.1, b320.2.2.2.2.2.2.2.1, b320.2.2.2.2.2.2.2.2, KLK_I294, (Or.inr ⟨by exact gz_m 118 (by omega), by first | (exfalso; exact gz_m 119 (by omega)) | (rw [e5_88]; unfold gs_wd6; (repeat first | rw [if_pos (by exact gz_m 120 (by omega))] | rw [if_neg (by exact gz_m 121 (by omega))]); exact ⟨by exact gz_m 122 (by omega), by exact gz_m 123 (by omega), (fun j => ⟨((g293 18 j rfl).trans (e11_88.1 j)), ((g293 36 j rfl).trans (e11_88.2.1 j)), ((g293 37 j rfl).trans (e11_88.2.2.1 j)), ((g293 38 j rfl).trans (e11_88.2.2.2.1 j)), ((g293 39 j rfl).trans (e11_88.2.2.2.2.1 j)), ((g293 40 j rfl).trans (e11_88.2.2.2.2.2 j))⟩)⟩)⟩)⟩⟩
  refine gv_run 1 true hD (pcₚ := 247) (lvₚ := [(0, .inr (.inr (some 0))), (1, .inl (I 0 6)), (2, .inl v2_12), (3, .inl v3_25)]) (stₚ := [.inr (.inr (some 0))]) (hₚ := gr_h I73 J74) (C := (True ∧ True)) rfl ⟨trivial, trivial⟩ ?_
  obtain ⟨r321, h321, E321, P321⟩ := r_cost_p (ws0 := ws0) (tb := tb) hws htb ext β N9 p_75 I73 J74 hI73   (gr_ATp_rr e4_75).1 (gr_ATp_rr e4_75).2.1 (gr_ATp_rr e4_75).2.2.1 (gr_ATp_rr e4_75).2.2.2.1 (gr_ATp_rr e4_75).2.2.2.2 e4_75 (by exact gz_m 124 (by omega)) (fun k h1 h2 => (FJ74 0 k (gs_kwF h1 h2 rfl)).trans (KW k h1 h2))
  obtain ⟨I322, J323, rfl, hI322, g321, k321, ⟨z321, rfl, q321⟩⟩ := P321
  have FI322 := gr_frt FI73 g321 rfl rfl
  have FJ323 := gr_fjt FJ74 k321 rfl rfl
  have t324 := g321 0 69 rfl
  have t325 := g321 0 6 rfl
  have t326 := g321 0 59 rfl
  have t327 := g321 0 3 rfl
  have t328 := g321 0 106 rfl
  have t329 := g321 18 (Int.toNat ((I 0 6))) rfl
  have t330 := g321 6 (Int.toNat v2_12) rfl
  have f331 := (gr_b_0_71 hI322)
  have f332 := (gr_b_0_72 hI322)
  have f333 := (gr_b_0_73 hI322)
  have f334 := (gr_b_0_69 hI322)
  have f335 := (gr_b_0_6 hI322)
  have f336 := (gr_b_0_59 hI322)
  have f337 := (gr_b_0_3 hI322)
  have f338 := (gr_b_0_106 hI322)
  have f339 := (gr_b_0_101 hI322)
  have KGR_I322 := gr_GR_fr KGR_I73 (fun k => g321 19 k rfl) (fun k => g321 18 k rfl) (fun k => g321 36 k rfl) (fun k => g321 41 k rfl) (fun k => g321 42 k rfl) (fun k => g321 43 k rfl) (fun k => g321 45 k rfl) (fun k => g321 46 k rfl) (fun k => g321 47 k rfl) (fun k => g321 6 k rfl) (fun k => g321 7 k rfl) (fun k => g321 8 k rfl) (g321 0 3 rfl)
  have KST_I322 := gr_ST_fr KST_I73 (fun k => g321 6 k rfl) (fun k => g321 19 k rfl) (fun k => g321 18 k rfl) (fun k => g321 41 k rfl) (fun k => g321 36 k rfl) (g321 0 3 rfl)
  have KLK_I322 := gr_LKs_fr KLK_I73 (fun k => g321 51 k rfl) (g321 0 59 rfl)
  refine gv_callV hD rfl (As := []) (st := []) rfl (by decide) rfl rfl (gr_lV hws rfl) (Nat.le_of_ble_eq_true rfl) (gz_Ev_mono (d := 11) (by decide) E321) ?_
  show gv_X _ _ (250, [(0, .inr (.inr (some 0))), (1, .inl (I 0 6)), (2, .inl v2_12), (3, .inl v3_25)], [.inl z321], gr_sh ++ ext, gr_h I322 J323)
  refine gv_if_eq (t := 276) hD rfl rfl ⟨by exact gz_m 125 (by omega), by exact gz_m 126 (by omega)⟩ (fun c340 => ?_) (fun c340 => ?_)
  · obtain ⟨u341, u341_⟩ := gs_or0 q321.2.2.2.2.2.2.2.2.2.2 (by exact gz_m 127 (by omega))
    refine gv_run 1 true hD (pcₚ := 277) (lvₚ := [(0, .inr (.inr (some 0))), (1, .inl (I 0 6)), (2, .inl v2_12), (3, .inl v3_25)]) (stₚ := [.inl 0]) (hₚ := gr_h I322 J323) (C := (True ∧ True)) rfl ⟨trivial, trivial⟩ ?_
    have b342 : (I322 0 71 = 5 ∨ I322 0 73 ≤ I322 0 69) ∧ (I322 0 72 ≤ I322 0 69) ∧ (I322 0 71 = 0 ∨ (I322 0 72 < I322 0 73 ∧ I322 0 72 < I322 0 69)) ∧ (I322 0 71 = 3 → 2 ≤ I322 0 73 - I322 0 72 ∧ I322 0 73 - I322 0 72 ≤ 14) ∧ (I322 0 72 ≤ I322 0 73) ∧ (I322 0 69 = I 0 69) ∧ (I 0 73 ≤ I322 0 73) ∧ (I 0 72 ≤ I322 0 72) ∧ (I322 0 59 - I322 0 72 ≤ I 0 59 - I 0 72) := by exact gz_m 128 (by omega)
    exact gv_zret hD rfl (by exact gz_m 129 (by omega)) ⟨I322, J323, rfl, hI322, FI322, FJ323, KGR_I322, KST_I322, ⟨_, rfl, by exact gz_m 130 (by omega), by exact gz_m 131 (by omega), b342.1, b342.2.1, b342.2.2.1, b342.2.2.2.1, b342.2.2.2.2.1, b342.2.2.2.2.2.1, b342.2.2.2.2.2.2.1, b342.2.2.2.2.2.2.2.1, b342.2.2.2.2.2.2.2.2, KLK_I322, (Or.inr ⟨by exact gz_m 132 (by omega), by first | (exfalso; exact gz_m 133 (by omega)) | (rw [e5_75]; unfold gs_wd5; (repeat first | rw [if_pos (by exact gz_m 134 (by omega))] | rw [if_neg (by exact gz_m 135 (by omega))]); exact ⟨by exact gz_m 136 (by omega), by exact gz_m 137 (by omega), (fun j => ⟨((g321 18 j rfl).trans (e11_75.1 j)), ((g321 36 j rfl).trans (e11_75.2.1 j)), ((g321 37 j rfl).trans (e11_75.2.2.1 j)), ((g321 38 j rfl).trans (e11_75.2.2.2.1 j)), ((g321 39 j rfl).trans (e11_75.2.2.2.2.1 j)), ((g321 40 j rfl).trans (e11_75.2.2.2.2.2 j))⟩)⟩)⟩)⟩⟩
  · obtain ⟨u343, A343, R343⟩ := gs_or1 q321.2.2.2.2.2.2.2.2.2.2 (by exact gz_m 138 (by omega))
    have t344 := gr_ATp_l A343
    obtain ⟨_, _, -, _, -, -, _, _, _, _, -⟩ := q321
    exact L253 I322 J323 (gs_cost β N9 p_75) hI322 FI322 FJ323 KGR_I322 KST_I322 KLK_I322 (by exact gz_m 139 (by omega)) A343 (by first | (exfalso; exact gz_m 140 (by omega)) | (rw [e5_75]; unfold gs_wd5; (repeat first | rw [if_pos (by exact gz_m 141 (by omega))] | rw [if_neg (by exact gz_m 142 (by omega))]))) e6_75 e7_75 (gs_w3_kp e8_75 (gr_LKs_fr gr_LKs_rf (fun k => g321 51 k rfl) (g321 0 59 rfl)) (fun k _ => (g321 67 k rfl))) (((g321 0 106 rfl)).trans e9_75) (by rw [← e10_75]; exact R343) ⟨(fun k => ((g321 18 k rfl).trans (e11_75.1 k))), (fun k => ((g321 36 k rfl).trans (e11_75.2.1 k))), (fun k => ((g321 37 k rfl).trans (e11_75.2.2.1 k))), (fun k => ((g321 38 k rfl).trans (e11_75.2.2.2.1 k))), (fun k => ((g321 39 k rfl).trans (e11_75.2.2.2.2.1 k))), (fun k => ((g321 40 k rfl).trans (e11_75.2.2.2.2.2 k)))⟩
set_option maxHeartbeats 32000000 in
set_option maxRecDepth 100000 in
theorem r_wordOf_p_L139 {ws0 : List Cond} {tb : String → gz_T} (hws : ∀ w ∈ gr_ws, w ∈ ws0) (htb : tb RX13 = gr_T) (ext : gz_Sh) (I9 : gr_I) (β : Int → Int) (N9 : Int) (p9 : Int) (I : gr_I) (J : gr_J) (hI : gr_Inv I) (x1 : I 0 72 ≤ I 0 69) (x4 : I 0 72 ≤ I 0 73) (x5 : 0 ≤ I 0 6) (x6 : I 0 59 + I 0 69 - I 0 72 ≤ 1900) (x7 : gr_ATp β N9 p9 I J) (x8 : 0 ≤ p9) (x9 : gr_KW J) (KGR_I : gr_GR I) (KST_I : gr_ST I9 I) (v2_12 : Int) (v3_25 : Int) : ∀ (n : Nat) (I49 : gr_I) (J50 : gr_J) (v4_51 : Int) (p_51 : Int), (1001 - I49 0 72).toNat < n → gr_Inv I49 → gr_fr [59, 71, 72, 73, 74, 75, 76, 77, 101, 106] [18, 36, 37, 38, 39, 40, 51, 67] I I49 → gr_fj [59, 71, 72, 73, 74, 75, 76, 77, 101, 106] [18, 36, 37, 38, 39, 40, 51, 67] J J50 → gr_GR I49 → gr_ST I9 I49 → gr_LKs I I49 → ((0 ≤ (I 0 6) ∧ (I 0 6) ≤ 7) ∧ (0 ≤ v2_12 ∧ v2_12 ≤ 95) ∧ (0 ≤ v3_25 ∧ v3_25 ≤ 23) ∧ (0 ≤ v4_51 ∧ v4_51 ≤ 3) ∧ (I49 6 (Int.toNat v2_12) = 0) ∧ (v2_12 < I49 0 3) ∧ (v3_25 < I 17 (Int.toNat (I 0 6))) ∧ (0 ≤ p_51) ∧ (I49 0 72 ≤ I49 0 69) ∧ (I49 0 72 ≤ I49 0 73) ∧ (I49 0 69 = I 0 69) ∧ (I 0 73 ≤ I49 0 73) ∧ (I 0 72 ≤ I49 0 72) ∧ (I49 0 6 = I 0 6) ∧ (I49 0 59 - I49 0 72 ≤ I 0 59 - I 0 72)) → (gr_ATp β N9 p_51 I49 J50) → ((gs_wd β N9 I J (I 0 78) p9) = gs_wd3 β N9 I J (I 0 78) (gs_stm β N9 (Int.toNat (3 - v4_51)) p_51)) → (v2_12 = gs_lk I J 3 3 (gs_rn β N9 p9)) → (v3_25 = gs_wpt β N9 I J p9) → (gs_w2 β N9 I (gs_X β N9 (gs_X β N9 p9)) I49 v4_51 p_51) → ((∀ k, I49 18 k = I 18 k) ∧ (∀ k, I49 36 k = I 36 k) ∧ (∀ k, I49 37 k = I 37 k) ∧ (∀ k, I49 38 k = I 38 k) ∧ (∀ k, I49 39 k = I 39 k) ∧ (∀ k, I49 40 k = I 40 k)) → gv_X (gr_E ws0 tb 11 (yX13_wordOf, cX13_wordOf, 7, (some .boolean)) kX13_wordOf) (gv_Q cX13_wordOf (some .boolean) (gr_sh ++ ext) (fun r hₚ => (∃ (Iₚ : gr_I) (Jₚ : gr_J), hₚ = gr_h Iₚ Jₚ ∧ gr_Inv Iₚ ∧ gr_fr [59, 71, 72, 73, 74, 75, 76, 77, 101, 106] [18, 36, 37, 38, 39, 40, 51, 67] I Iₚ ∧ gr_fj [59, 71, 72, 73, 74, 75, 76, 77, 101, 106] [18, 36, 37, 38, 39, 40, 51, 67] J Jₚ ∧ gr_GR Iₚ ∧ gr_ST I9 Iₚ ∧ (∃ z : Int, r = some (.inl z) ∧ 0 ≤ z ∧ z ≤ 1 ∧ (Iₚ 0 71 = 5 ∨ Iₚ 0 73 ≤ Iₚ 0 69) ∧ (Iₚ 0 72 ≤ Iₚ 0 69) ∧ (Iₚ 0 71 = 0 ∨ (Iₚ 0 72 < Iₚ 0 73 ∧ Iₚ 0 72 < Iₚ 0 69)) ∧ (Iₚ 0 71 = 3 → 2 ≤ Iₚ 0 73 - Iₚ 0 72 ∧ Iₚ 0 73 - Iₚ 0 72 ≤ 14) ∧ (Iₚ 0 72 ≤ Iₚ 0 73) ∧ (Iₚ 0 69 = I 0 69) ∧ (I 0 73 ≤ Iₚ 0 73) ∧ (I 0 72 ≤ Iₚ 0 72) ∧ (Iₚ 0 59 - Iₚ 0 72 ≤ I 0 59 - I 0 72) ∧ (gr_LKs I Iₚ) ∧ (gs_Or z (0 ≤ (gs_wd β N9 I J (I 0 78) p9) ∧ gr_ATp β N9 (gs_wd β N9 I J (I 0 78) p9) Iₚ Jₚ ∧ (Iₚ 18 (Int.toNat (I 0 6)) = I 18 (Int.toNat (I 0 6)) + 1 ∧ ∀ j, ¬ j = (Int.toNat (I 0 6)) → Iₚ 18 j = I 18 j) ∧ gs_Uwd β N9 I J p9 Iₚ) ((gs_wd β N9 I J (I 0 78) p9) < 0 ∧ Iₚ 0 77 = -1 - (gs_wd β N9 I J (I 0 78) p9) ∧ gs_Swd I Iₚ)))))) (139, [(0, .inr (.inr (some 0))), (1, .inl (I 0 6)), (2, .inl v2_12), (3, .inl v3_25), (4, .inl v4_51)], [], gr_sh ++ ext, gr_h I49 J50) := by
  have FI : gr_fr [59, 71, 72, 73, 74, 75, 76, 77, 101, 106] [18, 36, 37, 38, 39, 40, 51, 67] I I := fun _ _ _ => rfl
  have FJ : gr_fj [59, 71, 72, 73, 74, 75, 76, 77, 101, 106] [18, 36, 37, 38, 39, 40, 51, 67] J J := fun _ _ _ => rfl
  have hD : gv_D (gr_E ws0 tb 11 (yX13_wordOf, cX13_wordOf, 7, (some .boolean)) kX13_wordOf) := gq_of oX13_wordOf
  have tAT := gr_ATp_l x7
  skip
  have KW := x9
  have f1 := (gr_b_0_71 hI)
  have f2 := (gr_b_0_72 hI)
  have f3 := (gr_b_0_73 hI)
  have f4 := (gr_b_0_69 hI)
  have f5 := (gr_b_0_6 hI)
  have f6 := (gr_b_0_59 hI)
  have f7 := (gr_b_0_3 hI)
  have f8 := (gr_b_0_106 hI)
  have f9 := (gr_b_0_101 hI)
  have KLK_I : gr_LKs I I := gr_LKs_rf
  intro n
  induction n with
  | zero => intro I49 J50 v4_51 p_51 hn; exact gz_m 1 (by omega)
  | succ n ih139 =>
    intro I49 J50 v4_51 p_51 hn hI49 FI49 FJ50 KGR_I49 KST_I49 KLK_I49 m_51 e4_51 e5_51 e6_51 e7_51 e8_51 e9_51
    obtain ⟨h_I_0_6__51, hv2_12_51, hv3_25_51, hv4_51, e0_51, e1_51, e2_51, e3_51, e10_51, e11_51, e12_51, e13_51, e14_51, e15_51, e16_51⟩ := m_51
    have f52 := (gr_b_0_71 hI49)
    have f53 := (gr_b_0_72 hI49)
    have f54 := (gr_b_0_73 hI49)
    have f55 := (gr_b_0_69 hI49)
    have f56 := (gr_b_0_6 hI49)
    have f57 := (gr_b_0_59 hI49)
    have f58 := (gr_b_0_3 hI49)
    have f59 := (gr_b_0_106 hI49)
    have f60 := (gr_b_0_101 hI49)
    have t61 := gr_ATp_l e4_51
    have L174 : ((0 ≤ (I 0 6) ∧ (I 0 6) ≤ 7) ∧ (0 ≤ v2_12 ∧ v2_12 ≤ 95) ∧ (0 ≤ v3_25 ∧ v3_25 ≤ 23) ∧ (I49 6 (Int.toNat v2_12) = 0) ∧ (v2_12 < I49 0 3) ∧ (v3_25 < I 17 (Int.toNat (I 0 6))) ∧ (0 ≤ p_51) ∧ (I49 0 72 ≤ I49 0 69) ∧ (I49 0 72 ≤ I49 0 73) ∧ (I49 0 69 = I 0 69) ∧ (I 0 73 ≤ I49 0 73) ∧ (I 0 72 ≤ I49 0 72) ∧ (I49 0 6 = I 0 6) ∧ (I49 0 59 - I49 0 72 ≤ I 0 59 - I 0 72)) → (gr_ATp β N9 p_51 I49 J50) → ((gs_wd β N9 I J (I 0 78) p9) = gs_wd3 β N9 I J (I 0 78) p_51) → (v2_12 = gs_lk I J 3 3 (gs_rn β N9 p9)) → (v3_25 = gs_wpt β N9 I J p9) → (gs_w3 β N9 I (gs_X β N9 (gs_X β N9 p9)) I49 (I49 67)) → (p_51 = (gs_stm β N9 3 (gs_X β N9 (gs_X β N9 p9)))) → ((∀ k, I49 18 k = I 18 k) ∧ (∀ k, I49 36 k = I 36 k) ∧ (∀ k, I49 37 k = I 37 k) ∧ (∀ k, I49 38 k = I 38 k) ∧ (∀ k, I49 39 k = I 39 k) ∧ (∀ k, I49 40 k = I 40 k)) → gv_X (gr_E ws0 tb 11 (yX13_wordOf, cX13_wordOf, 7, (some .boolean)) kX13_wordOf) (gv_Q cX13_wordOf (some .boolean) (gr_sh ++ ext) (fun r hₚ => (∃ (Iₚ : gr_I) (Jₚ : gr_J), hₚ = gr_h Iₚ Jₚ ∧ gr_Inv Iₚ ∧ gr_fr [59, 71, 72, 73, 74, 75, 76, 77, 101, 106] [18, 36, 37, 38, 39, 40, 51, 67] I Iₚ ∧ gr_fj [59, 71, 72, 73, 74, 75, 76, 77, 101, 106] [18, 36, 37, 38, 39, 40, 51, 67] J Jₚ ∧ gr_GR Iₚ ∧ gr_ST I9 Iₚ ∧ (∃ z : Int, r = some (.inl z) ∧ 0 ≤ z ∧ z ≤ 1 ∧ (Iₚ 0 71 = 5 ∨ Iₚ 0 73 ≤ Iₚ 0 69) ∧ (Iₚ 0 72 ≤ Iₚ 0 69) ∧ (Iₚ 0 71 = 0 ∨ (Iₚ 0 72 < Iₚ 0 73 ∧ Iₚ 0 72 < Iₚ 0 69)) ∧ (Iₚ 0 71 = 3 → 2 ≤ Iₚ 0 73 - Iₚ 0 72 ∧ Iₚ 0 73 - Iₚ 0 72 ≤ 14) ∧ (Iₚ 0 72 ≤ Iₚ 0 73) ∧ (Iₚ 0 69 = I 0 69) ∧ (I 0 73 ≤ Iₚ 0 73) ∧ (I 0 72 ≤ Iₚ 0 72) ∧ (Iₚ 0 59 - Iₚ 0 72 ≤ I 0 59 - I 0 72) ∧ (gr_LKs I Iₚ) ∧ (gs_Or z (0 ≤ (gs_wd β N9 I J (I 0 78) p9) ∧ gr_ATp β N9 (gs_wd β N9 I J (I 0 78) p9) Iₚ Jₚ ∧ (Iₚ 18 (Int.toNat (I 0 6)) = I 18 (Int.toNat (I 0 6)) + 1 ∧ ∀ j, ¬ j = (Int.toNat (I 0 6)) → Iₚ 18 j = I 18 j) ∧ gs_Uwd β N9 I J p9 Iₚ) ((gs_wd β N9 I J (I 0 78) p9) < 0 ∧ Iₚ 0 77 = -1 - (gs_wd β N9 I J (I 0 78) p9) ∧ gs_Swd I Iₚ)))))) (174, [(0, .inr (.inr (some 0))), (1, .inl (I 0 6)), (2, .inl v2_12), (3, .inl v3_25)], [], gr_sh ++ ext, gr_h I49 J50) := by
      intro m_62 e4_62 e5_62 e6_62 e7_62 e8_62 e9_62 e10_62
      obtain ⟨h_I_0_6__62, hv2_12_62, hv3_25_62, e0_62, e1_62, e2_62, e3_62, e11_62, e12_62, e13_62, e14_62, e15_62, e16_62, e17_62⟩ := m_62
      have f63 := (gr_b_0_71 hI49)
      have f64 := (gr_b_0_72 hI49)
      have f65 := (gr_b_0_73 hI49)
      have f66 := (gr_b_0_69 hI49)
      have f67 := (gr_b_0_6 hI49)
      have f68 := (gr_b_0_59 hI49)
      have f69 := (gr_b_0_3 hI49)
      have f70 := (gr_b_0_106 hI49)
      have f71 := (gr_b_0_101 hI49)
      have t72 := gr_ATp_l e4_51
      have L246 : ∀ (I73 : gr_I) (J74 : gr_J) (p_75 : Int), gr_Inv I73 → gr_fr [59, 71, 72, 73, 74, 75, 76, 77, 101, 106] [18, 36, 37, 38, 39, 40, 51, 67] I I73 → gr_fj [59, 71, 72, 73, 74, 75, 76, 77, 101, 106] [18, 36, 37, 38, 39, 40, 51, 67] J J74 → gr_GR I73 → gr_ST I9 I73 → gr_LKs I I73 → ((0 ≤ (I 0 6) ∧ (I 0 6) ≤ 7) ∧ (0 ≤ v2_12 ∧ v2_12 ≤ 95) ∧ (0 ≤ v3_25 ∧ v3_25 ≤ 23) ∧ (I73 6 (Int.toNat v2_12) = 0) ∧ (v2_12 < I73 0 3) ∧ (v3_25 < I 17 (Int.toNat (I 0 6))) ∧ (0 ≤ p_75) ∧ (I73 0 72 ≤ I73 0 69) ∧ (I73 0 72 ≤ I73 0 73) ∧ (I73 0 69 = I 0 69) ∧ (I 0 73 ≤ I73 0 73) ∧ (I 0 72 ≤ I73 0 72) ∧ (I73 0 6 = I 0 6) ∧ (I73 0 59 - I73 0 72 ≤ I 0 59 - I 0 72)) → (gr_ATp β N9 p_75 I73 J74) → ((gs_wd β N9 I J (I 0 78) p9) = gs_wd5 β N9 I (I 0 78) p_75) → (v2_12 = gs_lk I J 3 3 (gs_rn β N9 p9)) → (v3_25 = gs_wpt β N9 I J p9) → (gs_w3 β N9 I (gs_X β N9 (gs_X β N9 p9)) I73 (I73 67)) → (I73 0 106 = (gs_wvl β N9 I J (gs_stm β N9 3 (gs_X β N9 (gs_X β N9 p9))))) → (p_75 = (gs_wve β N9 I J (gs_stm β N9 3 (gs_X β N9 (gs_X β N9 p9))))) → ((∀ k, I73 18 k = I 18 k) ∧ (∀ k, I73 36 k = I 36 k) ∧ (∀ k, I73 37 k = I 37 k) ∧ (∀ k, I73 38 k = I 38 k) ∧ (∀ k, I73 39 k = I 39 k) ∧ (∀ k, I73 40 k = I 40 k)) → gv_X (gr_E ws0 tb 11 (yX13_wordOf, cX13_wordOf, 7, (some .boolean)) kX13_wordOf) (gv_Q cX13_wordOf (some .boolean) (gr_sh ++ ext) (fun r hₚ => (∃ (Iₚ : gr_I) (Jₚ : gr_J), hₚ = gr_h Iₚ Jₚ ∧ gr_Inv Iₚ ∧ gr_fr [59, 71, 72, 73, 74, 75, 76, 77, 101, 106] [18, 36, 37, 38, 39, 40, 51, 67] I Iₚ ∧ gr_fj [59, 71, 72, 73, 74, 75, 76, 77, 101, 106] [18, 36, 37, 38, 39, 40, 51, 67] J Jₚ ∧ gr_GR Iₚ ∧ gr_ST I9 Iₚ ∧ (∃ z : Int, r = some (.inl z) ∧ 0 ≤ z ∧ z ≤ 1 ∧ (Iₚ 0 71 = 5 ∨ Iₚ 0 73 ≤ Iₚ 0 69) ∧ (Iₚ 0 72 ≤ Iₚ 0 69) ∧ (Iₚ 0 71 = 0 ∨ (Iₚ 0 72 < Iₚ 0 73 ∧ Iₚ 0 72 < Iₚ 0 69)) ∧ (Iₚ 0 71 = 3 → 2 ≤ Iₚ 0 73 - Iₚ 0 72 ∧ Iₚ 0 73 - Iₚ 0 72 ≤ 14) ∧ (Iₚ 0 72 ≤ Iₚ 0 73) ∧ (Iₚ 0 69 = I 0 69) ∧ (I 0 73 ≤ Iₚ 0 73) ∧ (I 0 72 ≤ Iₚ 0 72) ∧ (Iₚ 0 59 - Iₚ 0 72 ≤ I 0 59 - I 0 72) ∧ (gr_LKs I Iₚ) ∧ (gs_Or z (0 ≤ (gs_wd β N9 I J (I 0 78) p9) ∧ gr_ATp β N9 (gs_wd β N9 I J (I 0 78) p9) Iₚ Jₚ ∧ (Iₚ 18 (Int.toNat (I 0 6)) = I 18 (Int.toNat (I 0 6)) + 1 ∧ ∀ j, ¬ j = (Int.toNat (I 0 6)) → Iₚ 18 j = I 18 j) ∧ gs_Uwd β N9 I J p9 Iₚ) ((gs_wd β N9 I J (I 0 78) p9) < 0 ∧ Iₚ 0 77 = -1 - (gs_wd β N9 I J (I 0 78) p9) ∧ gs_Swd I Iₚ)))))) (246, [(0, .inr (.inr (some 0))), (1, .inl (I 0 6)), (2, .inl v2_12), (3, .inl v3_25)], [], gr_sh ++ ext, gr_h I73 J74) := r_wordOf_p_L139_L246 (ws0 := ws0) (tb := tb) hws htb ext I9 β N9 p9 I J hI x1 x4 x5 x6 x7 x8 x9 KGR_I KST_I v2_12 v3_25
      have L190 : ∀ (I345 : gr_I) (J346 : gr_J) (p_347 : Int), gr_Inv I345 → gr_fr [59, 71, 72, 73, 74, 75, 76, 77, 101, 106] [18, 36, 37, 38, 39, 40, 51, 67] I I345 → gr_fj [59, 71, 72, 73, 74, 75, 76, 77, 101, 106] [18, 36, 37, 38, 39, 40, 51, 67] J J346 → gr_GR I345 → gr_ST I9 I345 → gr_LKs I I345 → ((0 ≤ (I 0 6) ∧ (I 0 6) ≤ 7) ∧ (0 ≤ v2_12 ∧ v2_12 ≤ 95) ∧ (0 ≤ v3_25 ∧ v3_25 ≤ 23) ∧ (I345 6 (Int.toNat v2_12) = 0) ∧ (v2_12 < I345 0 3) ∧ (I345 0 106 = 0) ∧ (I345 0 71 = 1) ∧ (v3_25 < I 17 (Int.toNat (I 0 6))) ∧ (0 ≤ p_347) ∧ (I345 0 72 ≤ I345 0 69) ∧ (I345 0 72 ≤ I345 0 73) ∧ (I345 0 69 = I 0 69) ∧ (I 0 73 ≤ I345 0 73) ∧ (I 0 72 ≤ I345 0 72) ∧ (I345 0 6 = I 0 6) ∧ (I345 0 59 - I345 0 72 ≤ I 0 59 - I 0 72)) → (gr_ATp β N9 p_347 I345 J346) → ((gs_wd β N9 I J (I 0 78) p9) = gs_wd4 β N9 I J (I 0 78) (gs_X β N9 p_347)) → (v2_12 = gs_lk I J 3 3 (gs_rn β N9 p9)) → (v3_25 = gs_wpt β N9 I J p9) → (gs_w3 β N9 I (gs_X β N9 (gs_X β N9 p9)) I345 (I345 67)) → (p_347 = (gs_stm β N9 3 (gs_X β N9 (gs_X β N9 p9)))) → (gs_kw β N9 (gs_stm β N9 3 (gs_X β N9 (gs_X β N9 p9))) (gs_W 93) = 1) → ((∀ k, I345 18 k = I 18 k) ∧ (∀ k, I345 36 k = I 36 k) ∧ (∀ k, I345 37 k = I 37 k) ∧ (∀ k, I345 38 k = I 38 k) ∧ (∀ k, I345 39 k = I 39 k) ∧ (∀ k, I345 40 k = I 40 k)) → gv_X (gr_E ws0 tb 11 (yX13_wordOf, cX13_wordOf, 7, (some .boolean)) kX13_wordOf) (gv_Q cX13_wordOf (some .boolean) (gr_sh ++ ext) (fun r hₚ => (∃ (Iₚ : gr_I) (Jₚ : gr_J), hₚ = gr_h Iₚ Jₚ ∧ gr_Inv Iₚ ∧ gr_fr [59, 71, 72, 73, 74, 75, 76, 77, 101, 106] [18, 36, 37, 38, 39, 40, 51, 67] I Iₚ ∧ gr_fj [59, 71, 72, 73, 74, 75, 76, 77, 101, 106] [18, 36, 37, 38, 39, 40, 51, 67] J Jₚ ∧ gr_GR Iₚ ∧ gr_ST I9 Iₚ ∧ (∃ z : Int, r = some (.inl z) ∧ 0 ≤ z ∧ z ≤ 1 ∧ (Iₚ 0 71 = 5 ∨ Iₚ 0 73 ≤ Iₚ 0 69) ∧ (Iₚ 0 72 ≤ Iₚ 0 69) ∧ (Iₚ 0 71 = 0 ∨ (Iₚ 0 72 < Iₚ 0 73 ∧ Iₚ 0 72 < Iₚ 0 69)) ∧ (Iₚ 0 71 = 3 → 2 ≤ Iₚ 0 73 - Iₚ 0 72 ∧ Iₚ 0 73 - Iₚ 0 72 ≤ 14) ∧ (Iₚ 0 72 ≤ Iₚ 0 73) ∧ (Iₚ 0 69 = I 0 69) ∧ (I 0 73 ≤ Iₚ 0 73) ∧ (I 0 72 ≤ Iₚ 0 72) ∧ (Iₚ 0 59 - Iₚ 0 72 ≤ I 0 59 - I 0 72) ∧ (gr_LKs I Iₚ) ∧ (gs_Or z (0 ≤ (gs_wd β N9 I J (I 0 78) p9) ∧ gr_ATp β N9 (gs_wd β N9 I J (I 0 78) p9) Iₚ Jₚ ∧ (Iₚ 18 (Int.toNat (I 0 6)) = I 18 (Int.toNat (I 0 6)) + 1 ∧ ∀ j, ¬ j = (Int.toNat (I 0 6)) → Iₚ 18 j = I 18 j) ∧ gs_Uwd β N9 I J p9 Iₚ) ((gs_wd β N9 I J (I 0 78) p9) < 0 ∧ Iₚ 0 77 = -1 - (gs_wd β N9 I J (I 0 78) p9) ∧ gs_Swd I Iₚ)))))) (190, [(0, .inr (.inr (some 0))), (1, .inl (I 0 6)), (2, .inl v2_12), (3, .inl v3_25)], [], gr_sh ++ ext, gr_h I345 J346) := by
        intro I345 J346 p_347 hI345 FI345 FJ346 KGR_I345 KST_I345 KLK_I345 m_347 e6_347 e7_347 e8_347 e9_347 e10_347 e11_347 e12_347 e13_347
        clear h_I_0_6__62 hv2_12_62 hv3_25_62 e0_62 e1_62 e2_62 e3_62 e11_62 e12_62 e13_62 e14_62 e15_62 e16_62 e17_62 f63 f64 f65 f66 f67 f68 f69 f70 f71 t72 h_I_0_6__51 hv2_12_51 hv3_25_51 hv4_51 e0_51 e1_51 e2_51 e3_51 e10_51 e11_51 e12_51 e13_51 e14_51 e15_51 e16_51 f52 f53 f54 f55 f56 f57 f58 f59 f60 t61
        obtain ⟨h_I_0_6__347, hv2_12_347, hv3_25_347, e0_347, e1_347, e2_347, e3_347, e4_347, e5_347, e14_347, e15_347, e16_347, e17_347, e18_347, e19_347, e20_347⟩ := m_347
        have f348 := (gr_b_0_71 hI345)
        have f349 := (gr_b_0_72 hI345)
        have f350 := (gr_b_0_73 hI345)
        have f351 := (gr_b_0_69 hI345)
        have f352 := (gr_b_0_6 hI345)
        have f353 := (gr_b_0_59 hI345)
        have f354 := (gr_b_0_3 hI345)
        have f355 := (gr_b_0_106 hI345)
        have f356 := (gr_b_0_101 hI345)
        have t357 := gr_ATp_l e6_347
        have L206 : ∀ (n : Nat) (I358 : gr_I) (J359 : gr_J) (v5_360 : Int) (p_360 : Int), (1001 - I358 0 72).toNat < n → gr_Inv I358 → gr_fr [59, 71, 72, 73, 74, 75, 76, 77, 101, 106] [18, 36, 37, 38, 39, 40, 51, 67] I I358 → gr_fj [59, 71, 72, 73, 74, 75, 76, 77, 101, 106] [18, 36, 37, 38, 39, 40, 51, 67] J J359 → gr_GR I358 → gr_ST I9 I358 → gr_LKs I I358 → ((0 ≤ (I 0 6) ∧ (I 0 6) ≤ 7) ∧ (0 ≤ v2_12 ∧ v2_12 ≤ 95) ∧ (0 ≤ v3_25 ∧ v3_25 ≤ 23) ∧ (0 ≤ v5_360 ∧ v5_360 ≤ 1) ∧ (I358 6 (Int.toNat v2_12) = 0) ∧ (v2_12 < I358 0 3) ∧ (v3_25 < I 17 (Int.toNat (I 0 6))) ∧ (0 ≤ p_360) ∧ (I358 0 72 ≤ I358 0 69) ∧ (I358 0 72 ≤ I358 0 73) ∧ (I358 0 69 = I 0 69) ∧ (I 0 73 ≤ I358 0 73) ∧ (I 0 72 ≤ I358 0 72) ∧ (I358 0 6 = I 0 6) ∧ (I358 0 59 - I358 0 72 ≤ I 0 59 - I 0 72)) → (gr_ATp β N9 p_360 I358 J359) → (∃ m : Nat, 1001 - gs_A β N9 p_360 < (m : Int) ∧ (gs_wd β N9 I J (I 0 78) p9) = gs_wd5 β N9 I (I 0 78) (gs_hv β N9 I J m v5_360 (I358 0 106) p_360) ∧ gs_hv β N9 I J 1002 1 0 (gs_X β N9 (gs_stm β N9 3 (gs_X β N9 (gs_X β N9 p9)))) = gs_hv β N9 I J m v5_360 (I358 0 106) p_360 ∧ gs_hvk β N9 I J 1002 1 0 (gs_X β N9 (gs_stm β N9 3 (gs_X β N9 (gs_X β N9 p9)))) = gs_hvk β N9 I J m v5_360 (I358 0 106) p_360) → (v2_12 = gs_lk I J 3 3 (gs_rn β N9 p9)) → (v3_25 = gs_wpt β N9 I J p9) → (gs_w3 β N9 I (gs_X β N9 (gs_X β N9 p9)) I358 (I358 67)) → (gs_kw β N9 (gs_stm β N9 3 (gs_X β N9 (gs_X β N9 p9))) (gs_W 93) = 1) → ((∀ k, I358 18 k = I 18 k) ∧ (∀ k, I358 36 k = I 36 k) ∧ (∀ k, I358 37 k = I 37 k) ∧ (∀ k, I358 38 k = I 38 k) ∧ (∀ k, I358 39 k = I 39 k) ∧ (∀ k, I358 40 k = I 40 k)) → gv_X (gr_E ws0 tb 11 (yX13_wordOf, cX13_wordOf, 7, (some .boolean)) kX13_wordOf) (gv_Q cX13_wordOf (some .boolean) (gr_sh ++ ext) (fun r hₚ => (∃ (Iₚ : gr_I) (Jₚ : gr_J), hₚ = gr_h Iₚ Jₚ ∧ gr_Inv Iₚ ∧ gr_fr [59, 71, 72, 73, 74, 75, 76, 77, 101, 106] [18, 36, 37, 38, 39, 40, 51, 67] I Iₚ ∧ gr_fj [59, 71, 72, 73, 74, 75, 76, 77, 101, 106] [18, 36, 37, 38, 39, 40, 51, 67] J Jₚ ∧ gr_GR Iₚ ∧ gr_ST I9 Iₚ ∧ (∃ z : Int, r = some (.inl z) ∧ 0 ≤ z ∧ z ≤ 1 ∧ (Iₚ 0 71 = 5 ∨ Iₚ 0 73 ≤ Iₚ 0 69) ∧ (Iₚ 0 72 ≤ Iₚ 0 69) ∧ (Iₚ 0 71 = 0 ∨ (Iₚ 0 72 < Iₚ 0 73 ∧ Iₚ 0 72 < Iₚ 0 69)) ∧ (Iₚ 0 71 = 3 → 2 ≤ Iₚ 0 73 - Iₚ 0 72 ∧ Iₚ 0 73 - Iₚ 0 72 ≤ 14) ∧ (Iₚ 0 72 ≤ Iₚ 0 73) ∧ (Iₚ 0 69 = I 0 69) ∧ (I 0 73 ≤ Iₚ 0 73) ∧ (I 0 72 ≤ Iₚ 0 72) ∧ (Iₚ 0 59 - Iₚ 0 72 ≤ I 0 59 - I 0 72) ∧ (gr_LKs I Iₚ) ∧ (gs_Or z (0 ≤ (gs_wd β N9 I J (I 0 78) p9) ∧ gr_ATp β N9 (gs_wd β N9 I J (I 0 78) p9) Iₚ Jₚ ∧ (Iₚ 18 (Int.toNat (I 0 6)) = I 18 (Int.toNat (I 0 6)) + 1 ∧ ∀ j, ¬ j = (Int.toNat (I 0 6)) → Iₚ 18 j = I 18 j) ∧ gs_Uwd β N9 I J p9 Iₚ) ((gs_wd β N9 I J (I 0 78) p9) < 0 ∧ Iₚ 0 77 = -1 - (gs_wd β N9 I J (I 0 78) p9) ∧ gs_Swd I Iₚ)))))) (206, [(0, .inr (.inr (some 0))), (1, .inl (I 0 6)), (2, .inl v2_12), (3, .inl v3_25), (5, .inl v5_360)], [], gr_sh ++ ext, gr_h I358 J359) := by
          intro n
          induction n with
          | zero => intro I358 J359 v5_360 p_360 hn; exact gz_m 143 (by omega)
          | succ n ih206 =>
            intro I358 J359 v5_360 p_360 hn hI358 FI358 FJ359 KGR_I358 KST_I358 KLK_I358 m_360 e4_360 e5_360 e6_360 e7_360 e8_360 e9_360 e10_360
            clear h_I_0_6__347 hv2_12_347 hv3_25_347 e0_347 e1_347 e2_347 e3_347 e4_347 e5_347 e14_347 e15_347 e16_347 e17_347 e18_347 e19_347 e20_347 f348 f349 f350 f351 f352 f353 f354 f355 f356 t357
            obtain ⟨h_I_0_6__360, hv2_12_360, hv3_25_360, hv5_360, e0_360, e1_360, e2_360, e3_360, e11_360, e12_360, e13_360, e14_360, e15_360, e16_360, e17_360⟩ := m_360
            have f361 := (gr_b_0_71 hI358)
            have f362 := (gr_b_0_72 hI358)
            have f363 := (gr_b_0_73 hI358)
            have f364 := (gr_b_0_69 hI358)
            have f365 := (gr_b_0_6 hI358)
            have f366 := (gr_b_0_59 hI358)
            have f367 := (gr_b_0_3 hI358)
            have f368 := (gr_b_0_106 hI358)
            have f369 := (gr_b_0_101 hI358)
            have t370 := gr_ATp_l e4_360
            have f371 := (gr_b_0_71 hI358)
            refine gv_run 3 true hD (pcₚ := 211) (lvₚ := [(0, .inr (.inr (some 0))), (1, .inl (I 0 6)), (2, .inl v2_12), (3, .inl v3_25), (5, .inl v5_360)]) (stₚ := [.inl 1, .inl (I358 0 71)]) (hₚ := gr_h I358 J359) (C := (((True ∧ True) ∧ True) ∧ True)) rfl ⟨⟨⟨trivial, trivial⟩, trivial⟩, trivial⟩ ?_
            refine gv_icmp_ne (t := 246) hD rfl rfl ⟨⟨by exact gz_m 144 (by omega), by exact gz_m 145 (by omega)⟩, ⟨by exact gz_m 146 (by omega), by exact gz_m 147 (by omega)⟩⟩ (fun c372 => ?_) (fun c372 => ?_)
            · have t373 := gr_ATp_ne e4_360 (c := 1) (by exact gz_m 148 (by omega)) (by exact gz_m 149 (by omega))
              refine gv_pick [0, 1, 2, 3] rfl ?_
              exact L246 I358 J359 p_360 hI358 FI358 FJ359 KGR_I358 KST_I358 KLK_I358 (by exact gz_m 150 (by omega)) e4_360 (by obtain ⟨m, hm, em, eh, ek⟩ := e5_360; exact em.trans (by rw [gs_hv_e (Or.inl (by exact gz_m 151 (by omega)))])) e6_360 e7_360 e8_360 (by obtain ⟨m, hm, em, eh, ek⟩ := e5_360; unfold gs_wvl; rw [if_pos e9_360, ek, gs_hvk_e (Or.inl (by exact gz_m 152 (by omega)))]) (by obtain ⟨m, hm, em, eh, ek⟩ := e5_360; unfold gs_wve; rw [if_pos e9_360, eh, gs_hv_e (Or.inl (by exact gz_m 153 (by omega)))]) ⟨(fun k => (e10_360.1 k)), (fun k => (e10_360.2.1 k)), (fun k => (e10_360.2.2.1 k)), (fun k => (e10_360.2.2.2.1 k)), (fun k => (e10_360.2.2.2.2.1 k)), (fun k => (e10_360.2.2.2.2.2 k))⟩
            · have t374 := (gr_ATp_k e4_360 (c := 1) (by exact gz_m 154 (by omega))).mp (by exact gz_m 155 (by omega))
              have t375 := (gr_ATp_rr e4_360).2.2.1.resolve_left (by exact gz_m 156 (by omega))
              refine gv_run 1 true hD (pcₚ := 216) (lvₚ := [(0, .inr (.inr (some 0))), (1, .inl (I 0 6)), (2, .inl v2_12), (3, .inl v3_25), (5, .inl v5_360)]) (stₚ := [.inl v5_360]) (hₚ := gr_h I358 J359) (C := (True ∧ True)) rfl ⟨trivial, trivial⟩ ?_
              refine gv_if_ne (t := 231) hD rfl rfl ⟨by exact gz_m 157 (by omega), by exact gz_m 158 (by omega)⟩ (fun c376 => ?_) (fun c376 => ?_)
              · refine gv_run 1 true hD (pcₚ := 232) (lvₚ := [(0, .inr (.inr (some 0))), (1, .inl (I 0 6)), (2, .inl v2_12), (3, .inl v3_25), (5, .inl v5_360)]) (stₚ := [.inr (.inr (some 0))]) (hₚ := gr_h I358 J359) (C := (True ∧ True)) rfl ⟨trivial, trivial⟩ ?_
                obtain ⟨r377, h377, E377, P377⟩ := r_oneValue_p (ws0 := ws0) (tb := tb) hws htb ext β N9 p_360 I358 J359 hI358   (gr_ATp_rr e4_360).1 (gr_ATp_rr e4_360).2.1 (gr_ATp_rr e4_360).2.2.1 (gr_ATp_rr e4_360).2.2.2.1 (gr_ATp_rr e4_360).2.2.2.2 (by exact gz_m 159 (by omega)) (by exact gz_m 160 (by omega)) e4_360 (by exact gz_m 161 (by omega))
                obtain ⟨I378, J379, rfl, hI378, g377, k377, ⟨z377, rfl, q377⟩⟩ := P377
                have FI378 := gr_frt FI358 g377 rfl rfl
                have FJ379 := gr_fjt FJ359 k377 rfl rfl
                have t380 := g377 0 69 rfl
                have t381 := g377 0 6 rfl
                have t382 := g377 0 59 rfl
                have t383 := g377 0 3 rfl
                have t384 := g377 0 101 rfl
                have t385 := g377 18 (Int.toNat ((I 0 6))) rfl
                have t386 := g377 6 (Int.toNat v2_12) rfl
                have f387 := (gr_b_0_71 hI378)
                have f388 := (gr_b_0_72 hI378)
                have f389 := (gr_b_0_73 hI378)
                have f390 := (gr_b_0_69 hI378)
                have f391 := (gr_b_0_6 hI378)
                have f392 := (gr_b_0_59 hI378)
                have f393 := (gr_b_0_3 hI378)
                have f394 := (gr_b_0_106 hI378)
                have f395 := (gr_b_0_101 hI378)
                have KGR_I378 := gr_GR_fr KGR_I358 (fun k => g377 19 k rfl) (fun k => g377 18 k rfl) (fun k => g377 36 k rfl) (fun k => g377 41 k rfl) (fun k => g377 42 k rfl) (fun k => g377 43 k rfl) (fun k => g377 45 k rfl) (fun k => g377 46 k rfl) (fun k => g377 47 k rfl) (fun k => g377 6 k rfl) (fun k => g377 7 k rfl) (fun k => g377 8 k rfl) (g377 0 3 rfl)
                have KST_I378 := gr_ST_fr KST_I358 (fun k => g377 6 k rfl) (fun k => g377 19 k rfl) (fun k => g377 18 k rfl) (fun k => g377 41 k rfl) (fun k => g377 36 k rfl) (g377 0 3 rfl)
                have KLK_I378 := gr_LKs_fr KLK_I358 (fun k => g377 51 k rfl) (g377 0 59 rfl)
                refine gv_callV hD rfl (As := []) (st := []) rfl (by decide) rfl rfl (gr_lV hws rfl) (Nat.le_of_ble_eq_true rfl) (gz_Ev_mono (d := 11) (by decide) E377) ?_
                show gv_X _ _ (235, [(0, .inr (.inr (some 0))), (1, .inl (I 0 6)), (2, .inl v2_12), (3, .inl v3_25), (5, .inl v5_360)], [.inl z377], gr_sh ++ ext, gr_h I378 J379)
                refine gv_if_ne (t := 240) hD rfl rfl ⟨by exact gz_m 162 (by omega), by exact gz_m 163 (by omega)⟩ (fun c396 => ?_) (fun c396 => ?_)
                · have Q397 := q377.2.2.2.2.2.2.2.2.2.2.2
                  rw [(gs_ov_eq (FI358 0 6 rfl) (fun k => (FI358 14 k rfl)) (fun k => (FI358 24 k rfl)) (fun k => (FI358 25 k rfl)) (fun k => (FJ359 21 k rfl))).1, (gs_ov_eq (FI358 0 6 rfl) (fun k => (FI358 14 k rfl)) (fun k => (FI358 24 k rfl)) (fun k => (FI358 25 k rfl)) (fun k => (FJ359 21 k rfl))).2] at Q397
                  obtain ⟨u397, A397, U397⟩ := gs_or1 Q397 (by exact gz_m 164 (by omega))
                  have t398 := gr_ATp_l A397
                  have t399 := (q377.2.2.2.2.2.2.2.2.2.2.1).resolve_left (by exact gz_m 165 (by omega))
                  obtain ⟨_, _, -, _, -, -, _, _, _, _, -, -⟩ := q377
                  refine gv_run 3 true hD (pcₚ := 206) (lvₚ := [(5, .inl 0), (0, .inr (.inr (some 0))), (1, .inl (I 0 6)), (2, .inl v2_12), (3, .inl v3_25)]) (stₚ := []) (hₚ := gr_h I378 J379) (C := (((True ∧ True) ∧ True) ∧ True)) rfl ⟨⟨⟨trivial, trivial⟩, trivial⟩, trivial⟩ ?_
                  refine gv_pick [1, 2, 3, 4, 0] rfl ?_
                  exact ih206 I378 J379 0 ((gs_ov β N9 I J (I358 0 106) p_360)) (by exact gz_m 166 (by omega)) hI378 FI378 FJ379 KGR_I378 KST_I378 KLK_I378 (by exact gz_m 167 (by omega)) A397 (by obtain ⟨m, hm, em, eh, ek⟩ := e5_360; obtain ⟨m, rfl⟩ : ∃ n, m = n + 1 := ⟨m - 1, by exact gz_m 168 (by omega)⟩; exact ⟨m, by exact gz_m 169 (by omega), em.trans (by rw [gs_hv_s (by exact gz_m 170 (by omega)) (Or.inl (by exact gz_m 171 (by omega))) (by exact gz_m 172 (by omega)), U397]), eh.trans (by rw [gs_hv_s (by exact gz_m 173 (by omega)) (Or.inl (by exact gz_m 174 (by omega))) (by exact gz_m 175 (by omega)), U397]), ek.trans (by rw [gs_hvk_s (by exact gz_m 176 (by omega)) (Or.inl (by exact gz_m 177 (by omega))) (by exact gz_m 178 (by omega)), U397])⟩) e6_360 e7_360 (gs_w3_kp e8_360 (gr_LKs_fr gr_LKs_rf (fun k => g377 51 k rfl) (g377 0 59 rfl)) (fun k _ => (g377 67 k rfl))) e9_360 ⟨(fun k => ((g377 18 k rfl).trans (e10_360.1 k))), (fun k => ((g377 36 k rfl).trans (e10_360.2.1 k))), (fun k => ((g377 37 k rfl).trans (e10_360.2.2.1 k))), (fun k => ((g377 38 k rfl).trans (e10_360.2.2.2.1 k))), (fun k => ((g377 39 k rfl).trans (e10_360.2.2.2.2.1 k))), (fun k => ((g377 40 k rfl).trans (e10_360.2.2.2.2.2 k)))⟩
                · have Q400 := q377.2.2.2.2.2.2.2.2.2.2.2
                  rw [(gs_ov_eq (FI358 0 6 rfl) (fun k => (FI358 14 k rfl)) (fun k => (FI358 24 k rfl)) (fun k => (FI358 25 k rfl)) (fun k => (FJ359 21 k rfl))).1, (gs_ov_eq (FI358 0 6 rfl) (fun k => (FI358 14 k rfl)) (fun k => (FI358 24 k rfl)) (fun k => (FI358 25 k rfl)) (fun k => (FJ359 21 k rfl))).2] at Q400
                  obtain ⟨u400, u400_⟩ := gs_or0 Q400 (by exact gz_m 179 (by omega))
                  refine gv_run 1 true hD (pcₚ := 239) (lvₚ := [(0, .inr (.inr (some 0))), (1, .inl (I 0 6)), (2, .inl v2_12), (3, .inl v3_25), (5, .inl v5_360)]) (stₚ := [.inl 0]) (hₚ := gr_h I378 J379) (C := (True ∧ True)) rfl ⟨trivial, trivial⟩ ?_
                  have b401 : (I378 0 71 = 5 ∨ I378 0 73 ≤ I378 0 69) ∧ (I378 0 72 ≤ I378 0 69) ∧ (I378 0 71 = 0 ∨ (I378 0 72 < I378 0 73 ∧ I378 0 72 < I378 0 69)) ∧ (I378 0 71 = 3 → 2 ≤ I378 0 73 - I378 0 72 ∧ I378 0 73 - I378 0 72 ≤ 14) ∧ (I378 0 72 ≤ I378 0 73) ∧ (I378 0 69 = I 0 69) ∧ (I 0 73 ≤ I378 0 73) ∧ (I 0 72 ≤ I378 0 72) ∧ (I378 0 59 - I378 0 72 ≤ I 0 59 - I 0 72) := by exact gz_m 180 (by omega)
                  exact gv_zret hD rfl (by exact gz_m 181 (by omega)) ⟨I378, J379, rfl, hI378, FI378, FJ379, KGR_I378, KST_I378, ⟨_, rfl, by exact gz_m 182 (by omega), by exact gz_m 183 (by omega), b401.1, b401.2.1, b401.2.2.1, b401.2.2.2.1, b401.2.2.2.2.1, b401.2.2.2.2.2.1, b401.2.2.2.2.2.2.1, b401.2.2.2.2.2.2.2.1, b401.2.2.2.2.2.2.2.2, KLK_I378, (Or.inr ⟨by exact gz_m 184 (by omega), by obtain ⟨m, hm, em, eh, ek⟩ := e5_360; obtain ⟨m, rfl⟩ : ∃ n, m = n + 1 := ⟨m - 1, by exact gz_m 185 (by omega)⟩; rw [em, gs_hv_x (by exact gz_m 186 (by omega)) (Or.inl (by exact gz_m 187 (by omega))) (by exact gz_m 188 (by omega))]; unfold gs_wd5; (repeat first | rw [if_pos (by exact gz_m 189 (by omega))] | rw [if_neg (by exact gz_m 190 (by omega))]); exact ⟨by exact gz_m 191 (by omega), by exact gz_m 192 (by omega), (fun j => ⟨((g377 18 j rfl).trans (e10_360.1 j)), ((g377 36 j rfl).trans (e10_360.2.1 j)), ((g377 37 j rfl).trans (e10_360.2.2.1 j)), ((g377 38 j rfl).trans (e10_360.2.2.2.1 j)), ((g377 39 j rfl).trans (e10_360.2.2.2.2.1 j)), ((g377 40 j rfl).trans (e10_360.2.2.2.2.2 j))⟩)⟩⟩)⟩⟩
              · have f402 := gw_cmp ((J359 0 75)) ((J359 0 92))
                refine gv_run 5 true hD (pcₚ := 228) (lvₚ := [(0, .inr (.inr (some 0))), (1, .inl (I 0 6)), (2, .inl v2_12), (3, .inl v3_25), (5, .inl v5_360)]) (stₚ := [.inl ((lg_cmp ((J359 0 75)) ((J359 0 92))).toInt)]) (hₚ := gr_h I358 J359) (C := (((((True ∧ True) ∧ True) ∧ True) ∧ True) ∧ True)) rfl ⟨⟨⟨⟨⟨trivial, trivial⟩, trivial⟩, trivial⟩, trivial⟩, trivial⟩ ?_
                refine gv_if_eq (t := 246) hD rfl rfl ⟨by exact gz_m 193 (by omega), by exact gz_m 194 (by omega)⟩ (fun c403 => ?_) (fun c403 => ?_)
                · have j403 := gs_cmp0 (a := (J359 0 75)) (b := (J359 0 92)) (by exact gz_m 195 (by omega))
                  refine gv_pick [0, 1, 2, 3] rfl ?_
                  exact L246 I358 J359 p_360 hI358 FI358 FJ359 KGR_I358 KST_I358 KLK_I358 (by exact gz_m 196 (by omega)) e4_360 (by obtain ⟨m, hm, em, eh, ek⟩ := e5_360; exact em.trans (by rw [gs_hv_e (Or.inr ⟨by exact gz_m 197 (by omega), (gr_ATp_w e4_360).symm.trans (j403.trans ((fun k h1 h2 => (FJ359 0 k (gs_kwF h1 h2 rfl)).trans (KW k h1 h2)) 92 (by decide) (by decide)))⟩)])) e6_360 e7_360 e8_360 (by obtain ⟨m, hm, em, eh, ek⟩ := e5_360; unfold gs_wvl; rw [if_pos e9_360, ek, gs_hvk_e (Or.inr ⟨by exact gz_m 198 (by omega), (gr_ATp_w e4_360).symm.trans (j403.trans ((fun k h1 h2 => (FJ359 0 k (gs_kwF h1 h2 rfl)).trans (KW k h1 h2)) 92 (by decide) (by decide)))⟩)]) (by obtain ⟨m, hm, em, eh, ek⟩ := e5_360; unfold gs_wve; rw [if_pos e9_360, eh, gs_hv_e (Or.inr ⟨by exact gz_m 199 (by omega), (gr_ATp_w e4_360).symm.trans (j403.trans ((fun k h1 h2 => (FJ359 0 k (gs_kwF h1 h2 rfl)).trans (KW k h1 h2)) 92 (by decide) (by decide)))⟩)]) ⟨(fun k => (e10_360.1 k)), (fun k => (e10_360.2.1 k)), (fun k => (e10_360.2.2.1 k)), (fun k => (e10_360.2.2.2.1 k)), (fun k => (e10_360.2.2.2.2.1 k)), (fun k => (e10_360.2.2.2.2.2 k))⟩
                · have j403 := gs_cmpn (a := (J359 0 75)) (b := (J359 0 92)) (by exact gz_m 200 (by omega))
                  refine gv_run 1 true hD (pcₚ := 232) (lvₚ := [(0, .inr (.inr (some 0))), (1, .inl (I 0 6)), (2, .inl v2_12), (3, .inl v3_25), (5, .inl v5_360)]) (stₚ := [.inr (.inr (some 0))]) (hₚ := gr_h I358 J359) (C := (True ∧ True)) rfl ⟨trivial, trivial⟩ ?_
                  obtain ⟨r404, h404, E404, P404⟩ := r_oneValue_p (ws0 := ws0) (tb := tb) hws htb ext β N9 p_360 I358 J359 hI358   (gr_ATp_rr e4_360).1 (gr_ATp_rr e4_360).2.1 (gr_ATp_rr e4_360).2.2.1 (gr_ATp_rr e4_360).2.2.2.1 (gr_ATp_rr e4_360).2.2.2.2 (by exact gz_m 201 (by omega)) (by exact gz_m 202 (by omega)) e4_360 (by exact gz_m 203 (by omega))
                  obtain ⟨I405, J406, rfl, hI405, g404, k404, ⟨z404, rfl, q404⟩⟩ := P404
                  have FI405 := gr_frt FI358 g404 rfl rfl
                  have FJ406 := gr_fjt FJ359 k404 rfl rfl
                  have t407 := g404 0 69 rfl
                  have t408 := g404 0 6 rfl
                  have t409 := g404 0 59 rfl
                  have t410 := g404 0 3 rfl
                  have t411 := g404 0 101 rfl
                  have t412 := g404 18 (Int.toNat ((I 0 6))) rfl
                  have t413 := g404 6 (Int.toNat v2_12) rfl
                  have f414 := (gr_b_0_71 hI405)
                  have f415 := (gr_b_0_72 hI405)
                  have f416 := (gr_b_0_73 hI405)
                  have f417 := (gr_b_0_69 hI405)
                  have f418 := (gr_b_0_6 hI405)
                  have f419 := (gr_b_0_59 hI405)
                  have f420 := (gr_b_0_3 hI405)
                  have f421 := (gr_b_0_106 hI405)
                  have f422 := (gr_b_0_101 hI405)
                  have KGR_I405 := gr_GR_fr KGR_I358 (fun k => g404 19 k rfl) (fun k => g404 18 k rfl) (fun k => g404 36 k rfl) (fun k => g404 41 k rfl) (fun k => g404 42 k rfl) (fun k => g404 43 k rfl) (fun k => g404 45 k rfl) (fun k => g404 46 k rfl) (fun k => g404 47 k rfl) (fun k => g404 6 k rfl) (fun k => g404 7 k rfl) (fun k => g404 8 k rfl) (g404 0 3 rfl)
                  have KST_I405 := gr_ST_fr KST_I358 (fun k => g404 6 k rfl) (fun k => g404 19 k rfl) (fun k => g404 18 k rfl) (fun k => g404 41 k rfl) (fun k => g404 36 k rfl) (g404 0 3 rfl)
                  have KLK_I405 := gr_LKs_fr KLK_I358 (fun k => g404 51 k rfl) (g404 0 59 rfl)
                  refine gv_callV hD rfl (As := []) (st := []) rfl (by decide) rfl rfl (gr_lV hws rfl) (Nat.le_of_ble_eq_true rfl) (gz_Ev_mono (d := 11) (by decide) E404) ?_
                  show gv_X _ _ (235, [(0, .inr (.inr (some 0))), (1, .inl (I 0 6)), (2, .inl v2_12), (3, .inl v3_25), (5, .inl v5_360)], [.inl z404], gr_sh ++ ext, gr_h I405 J406)
                  refine gv_if_ne (t := 240) hD rfl rfl ⟨by exact gz_m 204 (by omega), by exact gz_m 205 (by omega)⟩ (fun c423 => ?_) (fun c423 => ?_)
                  · have Q424 := q404.2.2.2.2.2.2.2.2.2.2.2
                    rw [(gs_ov_eq (FI358 0 6 rfl) (fun k => (FI358 14 k rfl)) (fun k => (FI358 24 k rfl)) (fun k => (FI358 25 k rfl)) (fun k => (FJ359 21 k rfl))).1, (gs_ov_eq (FI358 0 6 rfl) (fun k => (FI358 14 k rfl)) (fun k => (FI358 24 k rfl)) (fun k => (FI358 25 k rfl)) (fun k => (FJ359 21 k rfl))).2] at Q424
                    obtain ⟨u424, A424, U424⟩ := gs_or1 Q424 (by exact gz_m 206 (by omega))
                    have t425 := gr_ATp_l A424
                    have t426 := (q404.2.2.2.2.2.2.2.2.2.2.1).resolve_left (by exact gz_m 207 (by omega))
                    obtain ⟨_, _, -, _, -, -, _, _, _, _, -, -⟩ := q404
                    refine gv_run 3 true hD (pcₚ := 206) (lvₚ := [(5, .inl 0), (0, .inr (.inr (some 0))), (1, .inl (I 0 6)), (2, .inl v2_12), (3, .inl v3_25)]) (stₚ := []) (hₚ := gr_h I405 J406) (C := (((True ∧ True) ∧ True) ∧ True)) rfl ⟨⟨⟨trivial, trivial⟩, trivial⟩, trivial⟩ ?_
                    refine gv_pick [1, 2, 3, 4, 0] rfl ?_
                    exact ih206 I405 J406 0 ((gs_ov β N9 I J (I358 0 106) p_360)) (by exact gz_m 208 (by omega)) hI405 FI405 FJ406 KGR_I405 KST_I405 KLK_I405 (by exact gz_m 209 (by omega)) A424 (by obtain ⟨m, hm, em, eh, ek⟩ := e5_360; obtain ⟨m, rfl⟩ : ∃ n, m = n + 1 := ⟨m - 1, by exact gz_m 210 (by omega)⟩; exact ⟨m, by exact gz_m 211 (by omega), em.trans (by rw [gs_hv_s (by exact gz_m 212 (by omega)) (Or.inr (fun h => j403 ((gr_ATp_w e4_360).trans (h.trans ((fun k h1 h2 => (FJ359 0 k (gs_kwF h1 h2 rfl)).trans (KW k h1 h2)) 92 (by decide) (by decide)).symm)))) (by exact gz_m 213 (by omega)), U424]), eh.trans (by rw [gs_hv_s (by exact gz_m 214 (by omega)) (Or.inr (fun h => j403 ((gr_ATp_w e4_360).trans (h.trans ((fun k h1 h2 => (FJ359 0 k (gs_kwF h1 h2 rfl)).trans (KW k h1 h2)) 92 (by decide) (by decide)).symm)))) (by exact gz_m 215 (by omega)), U424]), ek.trans (by rw [gs_hvk_s (by exact gz_m 216 (by omega)) (Or.inr (fun h => j403 ((gr_ATp_w e4_360).trans (h.trans ((fun k h1 h2 => (FJ359 0 k (gs_kwF h1 h2 rfl)).trans (KW k h1 h2)) 92 (by decide) (by decide)).symm)))) (by exact gz_m 217 (by omega)), U424])⟩) e6_360 e7_360 (gs_w3_kp e8_360 (gr_LKs_fr gr_LKs_rf (fun k => g404 51 k rfl) (g404 0 59 rfl)) (fun k _ => (g404 67 k rfl))) e9_360 ⟨(fun k => ((g404 18 k rfl).trans (e10_360.1 k))), (fun k => ((g404 36 k rfl).trans (e10_360.2.1 k))), (fun k => ((g404 37 k rfl).trans (e10_360.2.2.1 k))), (fun k => ((g404 38 k rfl).trans (e10_360.2.2.2.1 k))), (fun k => ((g404 39 k rfl).trans (e10_360.2.2.2.2.1 k))), (fun k => ((g404 40 k rfl).trans (e10_360.2.2.2.2.2 k)))⟩
                  · have Q427 := q404.2.2.2.2.2.2.2.2.2.2.2
                    rw [(gs_ov_eq (FI358 0 6 rfl) (fun k => (FI358 14 k rfl)) (fun k => (FI358 24 k rfl)) (fun k => (FI358 25 k rfl)) (fun k => (FJ359 21 k rfl))).1, (gs_ov_eq (FI358 0 6 rfl) (fun k => (FI358 14 k rfl)) (fun k => (FI358 24 k rfl)) (fun k => (FI358 25 k rfl)) (fun k => (FJ359 21 k rfl))).2] at Q427
                    obtain ⟨u427, u427_⟩ := gs_or0 Q427 (by exact gz_m 218 (by omega))
                    refine gv_run 1 true hD (pcₚ := 239) (lvₚ := [(0, .inr (.inr (some 0))), (1, .inl (I 0 6)), (2, .inl v2_12), (3, .inl v3_25), (5, .inl v5_360)]) (stₚ := [.inl 0]) (hₚ := gr_h I405 J406) (C := (True ∧ True)) rfl ⟨trivial, trivial⟩ ?_
                    have b428 : (I405 0 71 = 5 ∨ I405 0 73 ≤ I405 0 69) ∧ (I405 0 72 ≤ I405 0 69) ∧ (I405 0 71 = 0 ∨ (I405 0 72 < I405 0 73 ∧ I405 0 72 < I405 0 69)) ∧ (I405 0 71 = 3 → 2 ≤ I405 0 73 - I405 0 72 ∧ I405 0 73 - I405 0 72 ≤ 14) ∧ (I405 0 72 ≤ I405 0 73) ∧ (I405 0 69 = I 0 69) ∧ (I 0 73 ≤ I405 0 73) ∧ (I 0 72 ≤ I405 0 72) ∧ (I405 0 59 - I405 0 72 ≤ I 0 59 - I 0 72) := by exact gz_m 219 (by omega)
                    exact gv_zret hD rfl (by exact gz_m 220 (by omega)) ⟨I405, J406, rfl, hI405, FI405, FJ406, KGR_I405, KST_I405, ⟨_, rfl, by exact gz_m 221 (by omega), by exact gz_m 222 (by omega), b428.1, b428.2.1, b428.2.2.1, b428.2.2.2.1, b428.2.2.2.2.1, b428.2.2.2.2.2.1, b428.2.2.2.2.2.2.1, b428.2.2.2.2.2.2.2.1, b428.2.2.2.2.2.2.2.2, KLK_I405, (Or.inr ⟨by exact gz_m 223 (by omega), by obtain ⟨m, hm, em, eh, ek⟩ := e5_360; obtain ⟨m, rfl⟩ : ∃ n, m = n + 1 := ⟨m - 1, by exact gz_m 224 (by omega)⟩; rw [em, gs_hv_x (by exact gz_m 225 (by omega)) (Or.inr (fun h => j403 ((gr_ATp_w e4_360).trans (h.trans ((fun k h1 h2 => (FJ359 0 k (gs_kwF h1 h2 rfl)).trans (KW k h1 h2)) 92 (by decide) (by decide)).symm)))) (by exact gz_m 226 (by omega))]; unfold gs_wd5; (repeat first | rw [if_pos (by exact gz_m 227 (by omega))] | rw [if_neg (by exact gz_m 228 (by omega))]); exact ⟨by exact gz_m 229 (by omega), by exact gz_m 230 (by omega), (fun j => ⟨((g404 18 j rfl).trans (e10_360.1 j)), ((g404 36 j rfl).trans (e10_360.2.1 j)), ((g404 37 j rfl).trans (e10_360.2.2.1 j)), ((g404 38 j rfl).trans (e10_360.2.2.2.1 j)), ((g404 39 j rfl).trans (e10_360.2.2.2.2.1 j)), ((g404 40 j rfl).trans (e10_360.2.2.2.2.2 j))⟩)⟩⟩)⟩⟩
        refine gv_run 1 true hD (pcₚ := 191) (lvₚ := [(0, .inr (.inr (some 0))), (1, .inl (I 0 6)), (2, .inl v2_12), (3, .inl v3_25)]) (stₚ := [.inr (.inr (some 0))]) (hₚ := gr_h I345 J346) (C := (True ∧ True)) rfl ⟨trivial, trivial⟩ ?_
        obtain ⟨r429, h429, E429, P429⟩ := r_next_p (ws0 := ws0) (tb := tb) hws htb ext β N9 I345 J346 hI345   ((gr_ATp_rr e6_347).1.resolve_left (by exact gz_m 231 (by omega))) e6_347.1.1 e6_347.1.2
        obtain ⟨I430, J431, rfl, hI430, g429, k429, ⟨rfl, q429⟩⟩ := P429
        have FI430 := gr_frt FI345 g429 rfl rfl
        have FJ431 := gr_fjt FJ346 k429 rfl rfl
        have t432 := g429 0 69 rfl
        have t433 := g429 0 6 rfl
        have t434 := g429 0 59 rfl
        have t435 := g429 0 3 rfl
        have t436 := g429 0 106 rfl
        have t437 := g429 0 101 rfl
        have t438 := g429 18 (Int.toNat ((I 0 6))) rfl
        have t439 := g429 6 (Int.toNat v2_12) rfl
        have f440 := (gr_b_0_71 hI430)
        have f441 := (gr_b_0_72 hI430)
        have f442 := (gr_b_0_73 hI430)
        have f443 := (gr_b_0_69 hI430)
        have f444 := (gr_b_0_6 hI430)
        have f445 := (gr_b_0_59 hI430)
        have f446 := (gr_b_0_3 hI430)
        have f447 := (gr_b_0_106 hI430)
        have f448 := (gr_b_0_101 hI430)
        have KGR_I430 := gr_GR_fr KGR_I345 (fun k => g429 19 k rfl) (fun k => g429 18 k rfl) (fun k => g429 36 k rfl) (fun k => g429 41 k rfl) (fun k => g429 42 k rfl) (fun k => g429 43 k rfl) (fun k => g429 45 k rfl) (fun k => g429 46 k rfl) (fun k => g429 47 k rfl) (fun k => g429 6 k rfl) (fun k => g429 7 k rfl) (fun k => g429 8 k rfl) (g429 0 3 rfl)
        have KST_I430 := gr_ST_fr KST_I345 (fun k => g429 6 k rfl) (fun k => g429 19 k rfl) (fun k => g429 18 k rfl) (fun k => g429 41 k rfl) (fun k => g429 36 k rfl) (g429 0 3 rfl)
        have KLK_I430 := gr_LKs_fr KLK_I345 (fun k => g429 51 k rfl) (g429 0 59 rfl)
        have t449 := (gr_ATp_rr e6_347).2.2.1.resolve_left (by exact gz_m 232 (by omega))
        have A450 := gr_ATp_nx e6_347 q429.2.2.2.2.2
        have t451 := gr_ATp_l A450
        obtain ⟨_, _, -, -, -, -⟩ := q429
        refine gv_callV hD rfl (As := []) (st := []) rfl (by decide) rfl rfl (gr_lV hws rfl) (Nat.le_of_ble_eq_true rfl) (gz_Ev_mono (d := 10) (by decide) E429) ?_
        show gv_X _ _ (194, [(0, .inr (.inr (some 0))), (1, .inl (I 0 6)), (2, .inl v2_12), (3, .inl v3_25)], [], gr_sh ++ ext, gr_h I430 J431)
        refine gv_run 1 true hD (pcₚ := 195) (lvₚ := [(0, .inr (.inr (some 0))), (1, .inl (I 0 6)), (2, .inl v2_12), (3, .inl v3_25)]) (stₚ := [.inr (.inr (some 0))]) (hₚ := gr_h I430 J431) (C := (True ∧ True)) rfl ⟨trivial, trivial⟩ ?_
        obtain ⟨r452, h452, E452, P452⟩ := r_name_p (ws0 := ws0) (tb := tb) hws htb ext β N9 (gs_X β N9 p_347) I430 J431 hI430   A450 (by exact gz_m 233 (by omega))
        obtain ⟨I453, J454, rfl, hI453, g452, k452, ⟨z452, rfl, q452⟩⟩ := P452
        have FI453 := gr_frt FI430 g452 rfl rfl
        have FJ454 := gr_fjt FJ431 k452 rfl rfl
        have t455 := g452 0 71 rfl
        have t456 := g452 0 72 rfl
        have t457 := g452 0 73 rfl
        have t458 := g452 0 69 rfl
        have t459 := g452 0 6 rfl
        have t460 := g452 0 59 rfl
        have t461 := g452 0 3 rfl
        have t462 := g452 0 106 rfl
        have t463 := g452 0 101 rfl
        have t464 := g452 18 (Int.toNat ((I 0 6))) rfl
        have t465 := g452 6 (Int.toNat v2_12) rfl
        have f466 := (gr_b_0_71 hI453)
        have f467 := (gr_b_0_72 hI453)
        have f468 := (gr_b_0_73 hI453)
        have f469 := (gr_b_0_69 hI453)
        have f470 := (gr_b_0_6 hI453)
        have f471 := (gr_b_0_59 hI453)
        have f472 := (gr_b_0_3 hI453)
        have f473 := (gr_b_0_106 hI453)
        have f474 := (gr_b_0_101 hI453)
        have KGR_I453 := gr_GR_fr KGR_I430 (fun k => g452 19 k rfl) (fun k => g452 18 k rfl) (fun k => g452 36 k rfl) (fun k => g452 41 k rfl) (fun k => g452 42 k rfl) (fun k => g452 43 k rfl) (fun k => g452 45 k rfl) (fun k => g452 46 k rfl) (fun k => g452 47 k rfl) (fun k => g452 6 k rfl) (fun k => g452 7 k rfl) (fun k => g452 8 k rfl) (g452 0 3 rfl)
        have KST_I453 := gr_ST_fr KST_I430 (fun k => g452 6 k rfl) (fun k => g452 19 k rfl) (fun k => g452 18 k rfl) (fun k => g452 41 k rfl) (fun k => g452 36 k rfl) (g452 0 3 rfl)
        have KLK_I453 := gr_LKs_fr KLK_I430 (fun k => g452 51 k rfl) (g452 0 59 rfl)
        have V452 := gs_or_mk q452.2.2.2
        have A475 := gr_ATp_F A450 g452 k452 rfl
        have t476 := gr_ATp_l A475
        obtain ⟨_, _, o452, -⟩ := q452
        refine gv_callV hD rfl (As := []) (st := []) rfl (by decide) rfl rfl (gr_lV hws rfl) (Nat.le_of_ble_eq_true rfl) (gz_Ev_mono (d := 3) (by decide) E452) ?_
        show gv_X _ _ (198, [(0, .inr (.inr (some 0))), (1, .inl (I 0 6)), (2, .inl v2_12), (3, .inl v3_25)], [.inl z452], gr_sh ++ ext, gr_h I453 J454)
        refine gv_if_ne (t := 203) hD rfl rfl ⟨by exact gz_m 234 (by omega), by exact gz_m 235 (by omega)⟩ (fun c477 => ?_) (fun c477 => ?_)
        · have u478 := gs_or1 V452 (by exact gz_m 236 (by omega))
          have t479 := o452.resolve_left (by exact gz_m 237 (by omega))
          have t480 := (gr_ATp_rr A475).2.2.1.resolve_left (by exact gz_m 238 (by omega))
          clear o452 V452
          refine gv_run 2 true hD (pcₚ := 206) (lvₚ := [(5, .inl 1), (0, .inr (.inr (some 0))), (1, .inl (I 0 6)), (2, .inl v2_12), (3, .inl v3_25)]) (stₚ := []) (hₚ := gr_h I453 J454) (C := ((True ∧ True) ∧ True)) rfl ⟨⟨trivial, trivial⟩, trivial⟩ ?_
          refine gv_pick [1, 2, 3, 4, 0] rfl ?_
          exact L206 _ I453 J454 1 (gs_X β N9 p_347) (Nat.lt_succ_self _) hI453 FI453 FJ454 KGR_I453 KST_I453 KLK_I453 (by exact gz_m 239 (by omega)) A475 ⟨1002, by exact gz_m 240 (by omega), (e7_347.trans (by unfold gs_wd4; (repeat first | rw [if_pos (by exact gz_m 241 (by omega))] | rw [if_neg (by exact gz_m 242 (by omega))]); rw [show I453 0 106 = 0 from by exact gz_m 243 (by omega)])), (by rw [e11_347, show I453 0 106 = 0 from by exact gz_m 244 (by omega)]), (by rw [e11_347, show I453 0 106 = 0 from by exact gz_m 245 (by omega)])⟩ e8_347 e9_347 (gs_w3_kp e10_347 (gr_LKs_fr (gr_LKs_fr gr_LKs_rf (fun k => g429 51 k rfl) (g429 0 59 rfl)) (fun k => g452 51 k rfl) (g452 0 59 rfl)) (fun k _ => ((g452 67 k rfl).trans (g429 67 k rfl)))) e12_347 ⟨(fun k => (((g452 18 k rfl).trans (g429 18 k rfl)).trans (e13_347.1 k))), (fun k => (((g452 36 k rfl).trans (g429 36 k rfl)).trans (e13_347.2.1 k))), (fun k => (((g452 37 k rfl).trans (g429 37 k rfl)).trans (e13_347.2.2.1 k))), (fun k => (((g452 38 k rfl).trans (g429 38 k rfl)).trans (e13_347.2.2.2.1 k))), (fun k => (((g452 39 k rfl).trans (g429 39 k rfl)).trans (e13_347.2.2.2.2.1 k))), (fun k => (((g452 40 k rfl).trans (g429 40 k rfl)).trans (e13_347.2.2.2.2.2 k)))⟩
        · have u481 := gs_or0 V452 (by exact gz_m 246 (by omega))
          clear o452 V452
          refine gv_run 1 true hD (pcₚ := 202) (lvₚ := [(0, .inr (.inr (some 0))), (1, .inl (I 0 6)), (2, .inl v2_12), (3, .inl v3_25)]) (stₚ := [.inl 0]) (hₚ := gr_h I453 J454) (C := (True ∧ True)) rfl ⟨trivial, trivial⟩ ?_
          have b482 : (I453 0 69 = I 0 69) ∧ (I 0 73 ≤ I453 0 73) ∧ (I 0 72 ≤ I453 0 72) ∧ (I453 0 59 - I453 0 72 ≤ I 0 59 - I 0 72) := by exact gz_m 247 (by omega)
          exact gv_zret hD rfl (by exact gz_m 248 (by omega)) ⟨I453, J454, rfl, hI453, FI453, FJ454, KGR_I453, KST_I453, ⟨_, rfl, by exact gz_m 249 (by omega), by exact gz_m 250 (by omega), (gr_ATp_rr A475).1, (gr_ATp_rr A475).2.1, (gr_ATp_rr A475).2.2.1, (gr_ATp_rr A475).2.2.2.1, (gr_ATp_rr A475).2.2.2.2, b482.1, b482.2.1, b482.2.2.1, b482.2.2.2, KLK_I453, (Or.inr ⟨by exact gz_m 251 (by omega), by first | (exfalso; exact gz_m 252 (by omega)) | (rw [e7_347]; unfold gs_wd4; (repeat first | rw [if_pos (by exact gz_m 253 (by omega))] | rw [if_neg (by exact gz_m 254 (by omega))]); exact ⟨by exact gz_m 255 (by omega), by exact gz_m 256 (by omega), (fun j => ⟨(((g452 18 j rfl).trans (g429 18 j rfl)).trans (e13_347.1 j)), (((g452 36 j rfl).trans (g429 36 j rfl)).trans (e13_347.2.1 j)), (((g452 37 j rfl).trans (g429 37 j rfl)).trans (e13_347.2.2.1 j)), (((g452 38 j rfl).trans (g429 38 j rfl)).trans (e13_347.2.2.2.1 j)), (((g452 39 j rfl).trans (g429 39 j rfl)).trans (e13_347.2.2.2.2.1 j)), (((g452 40 j rfl).trans (g429 40 j rfl)).trans (e13_347.2.2.2.2.2 j))⟩)⟩)⟩)⟩⟩
      refine gv_run 3 true hD (pcₚ := 179) (lvₚ := [(0, .inr (.inr (some 0))), (1, .inl (I 0 6)), (2, .inl v2_12), (3, .inl v3_25)]) (stₚ := []) (hₚ := gz_up (gr_h I49 J50) 0 106 (.inl 0)) (C := (((True ∧ True) ∧ True) ∧ True)) rfl ⟨⟨⟨trivial, trivial⟩, trivial⟩, trivial⟩ ?_
      refine gr_st hI49 FI49 rfl rfl ⟨⟨by show 0 ≤ _; exact gz_m 257 (by omega), by show _ ≤ 16777215; exact gz_m 258 (by omega)⟩, trivial⟩ (fun I483 hI483 FI483 q484 p484 => ?_)
      have t485 := p484 0 71 (by decide)
      have t486 := p484 0 72 (by decide)
      have t487 := p484 0 73 (by decide)
      have t488 := p484 0 69 (by decide)
      have t489 := p484 0 6 (by decide)
      have t490 := p484 0 59 (by decide)
      have t491 := p484 0 3 (by decide)
      have t492 := p484 0 101 (by decide)
      have t493 := p484 18 (Int.toNat ((I 0 6))) (fun q => absurd q.1 (by first | exact gz_ne rfl | decide))
      have t494 := p484 6 (Int.toNat v2_12) (fun q => absurd q.1 (by first | exact gz_ne rfl | decide))
      have f495 := (gr_b_0_71 hI483)
      have f496 := (gr_b_0_72 hI483)
      have f497 := (gr_b_0_73 hI483)
      have f498 := (gr_b_0_69 hI483)
      have f499 := (gr_b_0_6 hI483)
      have f500 := (gr_b_0_59 hI483)
      have f501 := (gr_b_0_3 hI483)
      have f502 := (gr_b_0_106 hI483)
      have f503 := (gr_b_0_101 hI483)
      have KGR_I483 := gr_GR_fr KGR_I49 (fun k => p484 19 k (fun q => absurd q.1 (by first | exact gz_ne rfl | decide))) (fun k => p484 18 k (fun q => absurd q.1 (by first | exact gz_ne rfl | decide))) (fun k => p484 36 k (fun q => absurd q.1 (by first | exact gz_ne rfl | decide))) (fun k => p484 41 k (fun q => absurd q.1 (by first | exact gz_ne rfl | decide))) (fun k => p484 42 k (fun q => absurd q.1 (by first | exact gz_ne rfl | decide))) (fun k => p484 43 k (fun q => absurd q.1 (by first | exact gz_ne rfl | decide))) (fun k => p484 45 k (fun q => absurd q.1 (by first | exact gz_ne rfl | decide))) (fun k => p484 46 k (fun q => absurd q.1 (by first | exact gz_ne rfl | decide))) (fun k => p484 47 k (fun q => absurd q.1 (by first | exact gz_ne rfl | decide))) (fun k => p484 6 k (fun q => absurd q.1 (by first | exact gz_ne rfl | decide))) (fun k => p484 7 k (fun q => absurd q.1 (by first | exact gz_ne rfl | decide))) (fun k => p484 8 k (fun q => absurd q.1 (by first | exact gz_ne rfl | decide))) (p484 0 3 (by decide))
      have KST_I483 := gr_ST_fr KST_I49 (fun k => p484 6 k (fun q => absurd q.1 (by first | exact gz_ne rfl | decide))) (fun k => p484 19 k (fun q => absurd q.1 (by first | exact gz_ne rfl | decide))) (fun k => p484 18 k (fun q => absurd q.1 (by first | exact gz_ne rfl | decide))) (fun k => p484 41 k (fun q => absurd q.1 (by first | exact gz_ne rfl | decide))) (fun k => p484 36 k (fun q => absurd q.1 (by first | exact gz_ne rfl | decide))) (p484 0 3 (by decide))
      have KLK_I483 := gr_LKs_fr KLK_I49 (fun k => p484 51 k (fun q => absurd q.1 (by first | exact gz_ne rfl | decide))) (p484 0 59 (by decide))
      have A504 := gr_ATp_sf e4_51 p484 rfl
      refine gv_run 3 true hD (pcₚ := 184) (lvₚ := [(0, .inr (.inr (some 0))), (1, .inl (I 0 6)), (2, .inl v2_12), (3, .inl v3_25)]) (stₚ := [.inr (.inl (J50 0 93)), .inr (.inr (some 0))]) (hₚ := gr_h I483 J50) (C := (((True ∧ True) ∧ True) ∧ True)) rfl ⟨⟨⟨trivial, trivial⟩, trivial⟩, trivial⟩ ?_
      obtain ⟨r505, h505, E505, P505⟩ := r_is_p (ws0 := ws0) (tb := tb) hws htb ext β N9 p_51 I483 J50 hI483 (J50 0 93)  A504 (by exact gz_m 259 (by omega))
      obtain ⟨rfl, ⟨z505, rfl, q505⟩⟩ := P505
      have t506 := (show gs_kw β N9 p_51 (J50 0 93) = gs_kw β N9 p_51 (gs_W 93) from by rw [show J50 0 93 = gs_W 93 from (fun k h1 h2 => (FJ50 0 k (gs_kwF h1 h2 rfl)).trans (KW k h1 h2)) 93 (by decide) (by decide)])
      obtain ⟨_, _, o505, _⟩ := q505
      refine gv_callV hD rfl (As := [.inr (.inl (J50 0 93))]) (st := []) rfl (by decide) rfl rfl (gr_lV hws rfl) (Nat.le_of_ble_eq_true rfl) (gz_Ev_mono (d := 1) (by decide) E505) ?_
      show gv_X _ _ (187, [(0, .inr (.inr (some 0))), (1, .inl (I 0 6)), (2, .inl v2_12), (3, .inl v3_25)], [.inl z505], gr_sh ++ ext, gr_h I483 J50)
      refine gv_if_eq (t := 246) hD rfl rfl ⟨by exact gz_m 260 (by omega), by exact gz_m 261 (by omega)⟩ (fun c507 => ?_) (fun c507 => ?_)
      · clear o505
        exact L246 I483 J50 p_51 hI483 FI483 FJ50 KGR_I483 KST_I483 KLK_I483 (by exact gz_m 262 (by omega)) A504 (e5_62.trans (by unfold gs_wd3; (repeat first | rw [if_pos (by exact gz_m 263 (by omega))] | rw [if_neg (by exact gz_m 264 (by omega))]))) e6_62 e7_62 (gs_w3_kp e8_62 (gr_LKs_fr gr_LKs_rf (fun k => p484 51 k (fun q => absurd q.1 (by first | exact gz_ne rfl | decide))) (p484 0 59 (by decide))) (fun k _ => (p484 67 k (fun q => absurd q.1 (by first | exact gz_ne rfl | decide))))) (by unfold gs_wvl; rw [if_neg (by rw [← e9_62]; exact gz_m 265 (by omega))]; exact gz_m 266 (by omega)) (by unfold gs_wve; rw [if_neg (by rw [← e9_62]; exact gz_m 267 (by omega))]; exact e9_62) ⟨(fun k => ((p484 18 k (fun q => absurd q.1 (by first | exact gz_ne rfl | decide))).trans (e10_62.1 k))), (fun k => ((p484 36 k (fun q => absurd q.1 (by first | exact gz_ne rfl | decide))).trans (e10_62.2.1 k))), (fun k => ((p484 37 k (fun q => absurd q.1 (by first | exact gz_ne rfl | decide))).trans (e10_62.2.2.1 k))), (fun k => ((p484 38 k (fun q => absurd q.1 (by first | exact gz_ne rfl | decide))).trans (e10_62.2.2.2.1 k))), (fun k => ((p484 39 k (fun q => absurd q.1 (by first | exact gz_ne rfl | decide))).trans (e10_62.2.2.2.2.1 k))), (fun k => ((p484 40 k (fun q => absurd q.1 (by first | exact gz_ne rfl | decide))).trans (e10_62.2.2.2.2.2 k)))⟩
      · have t508 := o505.resolve_left (by exact gz_m 268 (by omega))
        have t509 := (gr_ATp_rr A504).2.2.1.resolve_left (by exact gz_m 269 (by omega))
        clear o505
        exact L190 I483 J50 p_51 hI483 FI483 FJ50 KGR_I483 KST_I483 KLK_I483 (by exact gz_m 270 (by omega)) A504 (by rw [e5_62]; unfold gs_wd3; (repeat first | rw [if_pos (by exact gz_m 271 (by omega))] | rw [if_neg (by exact gz_m 272 (by omega))])) e6_62 e7_62 (gs_w3_kp e8_62 (gr_LKs_fr gr_LKs_rf (fun k => p484 51 k (fun q => absurd q.1 (by first | exact gz_ne rfl | decide))) (p484 0 59 (by decide))) (fun k _ => (p484 67 k (fun q => absurd q.1 (by first | exact gz_ne rfl | decide))))) e9_62 (by rw [← e9_62]; exact gz_m 273 (by omega)) ⟨(fun k => ((p484 18 k (fun q => absurd q.1 (by first | exact gz_ne rfl | decide))).trans (e10_62.1 k))), (fun k => ((p484 36 k (fun q => absurd q.1 (by first | exact gz_ne rfl | decide))).trans (e10_62.2.1 k))), (fun k => ((p484 37 k (fun q => absurd q.1 (by first | exact gz_ne rfl | decide))).trans (e10_62.2.2.1 k))), (fun k => ((p484 38 k (fun q => absurd q.1 (by first | exact gz_ne rfl | decide))).trans (e10_62.2.2.2.1 k))), (fun k => ((p484 39 k (fun q => absurd q.1 (by first | exact gz_ne rfl | decide))).trans (e10_62.2.2.2.2.1 k))), (fun k => ((p484 40 k (fun q => absurd q.1 (by first | exact gz_ne rfl | decide))).trans (e10_62.2.2.2.2.2 k)))⟩
    have f510 := (gr_b_0_71 hI49)
    refine gv_run 3 true hD (pcₚ := 144) (lvₚ := [(0, .inr (.inr (some 0))), (1, .inl (I 0 6)), (2, .inl v2_12), (3, .inl v3_25), (4, .inl v4_51)]) (stₚ := [.inl 3, .inl (I49 0 71)]) (hₚ := gr_h I49 J50) (C := (((True ∧ True) ∧ True) ∧ True)) rfl ⟨⟨⟨trivial, trivial⟩, trivial⟩, trivial⟩ ?_
    refine gv_icmp_ne (t := 174) hD rfl rfl ⟨⟨by exact gz_m 274 (by omega), by exact gz_m 275 (by omega)⟩, ⟨by exact gz_m 276 (by omega), by exact gz_m 277 (by omega)⟩⟩ (fun c511 => ?_) (fun c511 => ?_)
    · have t512 := gr_ATp_ne e4_51 (c := 3) (by exact gz_m 278 (by omega)) (by exact gz_m 279 (by omega))
      refine gv_pick [0, 1, 2, 3] rfl ?_
      exact L174 (by exact gz_m 280 (by omega)) e4_51 (e5_51.trans (by rw [gs_stm_e (by exact gz_m 281 (by omega))])) e6_51 e7_51 (gs_w3_mk e8_51 (by exact gz_m 282 (by omega)) (by exact gz_m 283 (by omega))).1 (gs_w3_mk e8_51 (by exact gz_m 284 (by omega)) (by exact gz_m 285 (by omega))).2 ⟨(fun k => (e9_51.1 k)), (fun k => (e9_51.2.1 k)), (fun k => (e9_51.2.2.1 k)), (fun k => (e9_51.2.2.2.1 k)), (fun k => (e9_51.2.2.2.2.1 k)), (fun k => (e9_51.2.2.2.2.2 k))⟩
    · have t513 := (gr_ATp_k e4_51 (c := 3) (by exact gz_m 286 (by omega))).mp (by exact gz_m 287 (by omega))
      have t514 := (gr_ATp_rr e4_51).2.2.1.resolve_left (by exact gz_m 288 (by omega))
      have t515 := (gr_ATp_rr e4_51).2.2.2.1 (by exact gz_m 289 (by omega))
      refine gv_run 2 true hD (pcₚ := 150) (lvₚ := [(0, .inr (.inr (some 0))), (1, .inl (I 0 6)), (2, .inl v2_12), (3, .inl v3_25), (4, .inl v4_51)]) (stₚ := [.inl 3, .inl v4_51]) (hₚ := gr_h I49 J50) (C := ((True ∧ True) ∧ True)) rfl ⟨⟨trivial, trivial⟩, trivial⟩ ?_
      refine gv_icmp_ge (t := 174) hD rfl rfl ⟨⟨by exact gz_m 290 (by omega), by exact gz_m 291 (by omega)⟩, ⟨by exact gz_m 292 (by omega), by exact gz_m 293 (by omega)⟩⟩ (fun c516 => ?_) (fun c516 => ?_)
      · refine gv_pick [0, 1, 2, 3] rfl ?_
        exact L174 (by exact gz_m 294 (by omega)) e4_51 (e5_51.trans (by rw [gs_stm_e (by exact gz_m 295 (by omega))])) e6_51 e7_51 (gs_w3_mk e8_51 (by exact gz_m 296 (by omega)) (by exact gz_m 297 (by omega))).1 (gs_w3_mk e8_51 (by exact gz_m 298 (by omega)) (by exact gz_m 299 (by omega))).2 ⟨(fun k => (e9_51.1 k)), (fun k => (e9_51.2.1 k)), (fun k => (e9_51.2.2.1 k)), (fun k => (e9_51.2.2.2.1 k)), (fun k => (e9_51.2.2.2.2.1 k)), (fun k => (e9_51.2.2.2.2.2 k))⟩
      · refine gv_run 5 true hD (pcₚ := 163) (lvₚ := [(4, .inl (v4_51 + 1)), (0, .inr (.inr (some 0))), (1, .inl (I 0 6)), (2, .inl v2_12), (3, .inl v3_25)]) (stₚ := [.inr (.inr (some 0)), .inl v4_51, .inr (.inr (some 67))]) (hₚ := gr_h I49 J50) (C := (((((True ∧ True) ∧ True) ∧ True) ∧ True) ∧ True)) rfl ⟨⟨⟨⟨⟨trivial, trivial⟩, trivial⟩, trivial⟩, trivial⟩, trivial⟩ ?_
        obtain ⟨r517, h517, E517, P517⟩ := r_keeps_p (ws0 := ws0) (tb := tb) hws htb ext I49 J50 hI49   (by exact gz_m 300 (by omega)) ((gr_ATp_rr e4_51).2.2.2.1 (by exact gz_m 301 (by omega))).2 ((gr_ATp_rr e4_51).2.2.2.1 (by exact gz_m 302 (by omega))).1 (by have h9 := (gr_ATp_rr e4_51).1.resolve_left (by exact gz_m 303 (by omega)); exact gz_m 304 (by omega))
        obtain ⟨I518, J519, rfl, hI518, g517, k517, ⟨z517, rfl, q517⟩⟩ := P517
        have FI518 := gr_frt FI49 g517 rfl rfl
        have FJ519 := gr_fjt FJ50 k517 rfl rfl
        have t520 := g517 0 71 rfl
        have t521 := g517 0 72 rfl
        have t522 := g517 0 73 rfl
        have t523 := g517 0 69 rfl
        have t524 := g517 0 6 rfl
        have t525 := g517 0 3 rfl
        have t526 := g517 0 106 rfl
        have t527 := g517 0 101 rfl
        have t528 := g517 18 (Int.toNat ((I 0 6))) rfl
        have t529 := g517 6 (Int.toNat v2_12) rfl
        have f530 := (gr_b_0_71 hI518)
        have f531 := (gr_b_0_72 hI518)
        have f532 := (gr_b_0_73 hI518)
        have f533 := (gr_b_0_69 hI518)
        have f534 := (gr_b_0_6 hI518)
        have f535 := (gr_b_0_59 hI518)
        have f536 := (gr_b_0_3 hI518)
        have f537 := (gr_b_0_106 hI518)
        have f538 := (gr_b_0_101 hI518)
        have KGR_I518 := gr_GR_fr KGR_I49 (fun k => g517 19 k rfl) (fun k => g517 18 k rfl) (fun k => g517 36 k rfl) (fun k => g517 41 k rfl) (fun k => g517 42 k rfl) (fun k => g517 43 k rfl) (fun k => g517 45 k rfl) (fun k => g517 46 k rfl) (fun k => g517 47 k rfl) (fun k => g517 6 k rfl) (fun k => g517 7 k rfl) (fun k => g517 8 k rfl) (g517 0 3 rfl)
        have KST_I518 := gr_ST_fr KST_I49 (fun k => g517 6 k rfl) (fun k => g517 19 k rfl) (fun k => g517 18 k rfl) (fun k => g517 41 k rfl) (fun k => g517 36 k rfl) (g517 0 3 rfl)
        have l517 := q517.2.2.2.2.1
        have KLK_I518 := gr_LKs_tr KLK_I49 l517
        have A539 := gr_ATp_F e4_51 g517 k517 rfl
        have t540 := gr_ATp_l A539
        have G517 := q517.2.2.2.2.2.2
        refine gv_callV hD rfl (As := []) (st := [.inl v4_51, .inr (.inr (some 67))]) rfl (by decide) rfl rfl (gr_lV hws rfl) (Nat.le_of_ble_eq_true rfl) (gz_Ev_mono (d := 2) (by decide) E517) ?_
        show gv_X _ _ (166, [(4, .inl (v4_51 + 1)), (0, .inr (.inr (some 0))), (1, .inl (I 0 6)), (2, .inl v2_12), (3, .inl v3_25)], [.inl z517, .inl v4_51, .inr (.inr (some 67))], gr_sh ++ ext, gr_h I518 J519)
        refine gv_run 1 true hD (pcₚ := 167) (lvₚ := [(4, .inl (v4_51 + 1)), (0, .inr (.inr (some 0))), (1, .inl (I 0 6)), (2, .inl v2_12), (3, .inl v3_25)]) (stₚ := []) (hₚ := gz_up (gr_h I518 J519) 67 (Int.toNat v4_51) (.inl z517)) (C := (True ∧ (0 ≤ v4_51 ∧ v4_51 < ((3 : Nat) : Int)))) rfl ⟨trivial, ⟨by exact gz_m 305 (by omega), by exact gz_m 306 (by omega)⟩⟩ ?_
        refine gr_st hI518 FI518 rfl rfl ⟨⟨by show (-1) ≤ _; exact gz_m 307 (by omega), by show _ ≤ 32015; exact gz_m 308 (by omega)⟩, trivial⟩ (fun I541 hI541 FI541 q542 p542 => ?_)
        have t543 := p542 0 71 (fun q => absurd q.1 (by first | exact gz_ne rfl | decide))
        have t544 := p542 0 72 (fun q => absurd q.1 (by first | exact gz_ne rfl | decide))
        have t545 := p542 0 73 (fun q => absurd q.1 (by first | exact gz_ne rfl | decide))
        have t546 := p542 0 69 (fun q => absurd q.1 (by first | exact gz_ne rfl | decide))
        have t547 := p542 0 6 (fun q => absurd q.1 (by first | exact gz_ne rfl | decide))
        have t548 := p542 0 59 (fun q => absurd q.1 (by first | exact gz_ne rfl | decide))
        have t549 := p542 0 3 (fun q => absurd q.1 (by first | exact gz_ne rfl | decide))
        have t550 := p542 0 106 (fun q => absurd q.1 (by first | exact gz_ne rfl | decide))
        have t551 := p542 0 101 (fun q => absurd q.1 (by first | exact gz_ne rfl | decide))
        have t552 := p542 18 (Int.toNat ((I 0 6))) (fun q => absurd q.1 (by first | exact gz_ne rfl | decide))
        have t553 := p542 6 (Int.toNat v2_12) (fun q => absurd q.1 (by first | exact gz_ne rfl | decide))
        have f554 := (gr_b_0_71 hI541)
        have f555 := (gr_b_0_72 hI541)
        have f556 := (gr_b_0_73 hI541)
        have f557 := (gr_b_0_69 hI541)
        have f558 := (gr_b_0_6 hI541)
        have f559 := (gr_b_0_59 hI541)
        have f560 := (gr_b_0_3 hI541)
        have f561 := (gr_b_0_106 hI541)
        have f562 := (gr_b_0_101 hI541)
        have KGR_I541 := gr_GR_fr KGR_I518 (fun k => p542 19 k (fun q => absurd q.1 (by first | exact gz_ne rfl | decide))) (fun k => p542 18 k (fun q => absurd q.1 (by first | exact gz_ne rfl | decide))) (fun k => p542 36 k (fun q => absurd q.1 (by first | exact gz_ne rfl | decide))) (fun k => p542 41 k (fun q => absurd q.1 (by first | exact gz_ne rfl | decide))) (fun k => p542 42 k (fun q => absurd q.1 (by first | exact gz_ne rfl | decide))) (fun k => p542 43 k (fun q => absurd q.1 (by first | exact gz_ne rfl | decide))) (fun k => p542 45 k (fun q => absurd q.1 (by first | exact gz_ne rfl | decide))) (fun k => p542 46 k (fun q => absurd q.1 (by first | exact gz_ne rfl | decide))) (fun k => p542 47 k (fun q => absurd q.1 (by first | exact gz_ne rfl | decide))) (fun k => p542 6 k (fun q => absurd q.1 (by first | exact gz_ne rfl | decide))) (fun k => p542 7 k (fun q => absurd q.1 (by first | exact gz_ne rfl | decide))) (fun k => p542 8 k (fun q => absurd q.1 (by first | exact gz_ne rfl | decide))) (p542 0 3 (fun q => absurd q.1 (by first | exact gz_ne rfl | decide)))
        have KST_I541 := gr_ST_fr KST_I518 (fun k => p542 6 k (fun q => absurd q.1 (by first | exact gz_ne rfl | decide))) (fun k => p542 19 k (fun q => absurd q.1 (by first | exact gz_ne rfl | decide))) (fun k => p542 18 k (fun q => absurd q.1 (by first | exact gz_ne rfl | decide))) (fun k => p542 41 k (fun q => absurd q.1 (by first | exact gz_ne rfl | decide))) (fun k => p542 36 k (fun q => absurd q.1 (by first | exact gz_ne rfl | decide))) (p542 0 3 (fun q => absurd q.1 (by first | exact gz_ne rfl | decide)))
        have KLK_I541 := gr_LKs_fr KLK_I518 (fun k => p542 51 k (fun q => absurd q.1 (by first | exact gz_ne rfl | decide))) (p542 0 59 (fun q => absurd q.1 (by first | exact gz_ne rfl | decide)))
        have A563 := gr_ATp_sr A539 p542 rfl
        refine gv_run 1 true hD (pcₚ := 168) (lvₚ := [(4, .inl (v4_51 + 1)), (0, .inr (.inr (some 0))), (1, .inl (I 0 6)), (2, .inl v2_12), (3, .inl v3_25)]) (stₚ := [.inr (.inr (some 0))]) (hₚ := gr_h I541 J519) (C := (True ∧ True)) rfl ⟨trivial, trivial⟩ ?_
        obtain ⟨r564, h564, E564, P564⟩ := r_next_p (ws0 := ws0) (tb := tb) hws htb ext β N9 I541 J519 hI541   ((gr_ATp_rr A563).1.resolve_left (by exact gz_m 309 (by omega))) A563.1.1 A563.1.2
        obtain ⟨I565, J566, rfl, hI565, g564, k564, ⟨rfl, q564⟩⟩ := P564
        have FI565 := gr_frt FI541 g564 rfl rfl
        have FJ566 := gr_fjt FJ519 k564 rfl rfl
        have t567 := g564 0 69 rfl
        have t568 := g564 0 6 rfl
        have t569 := g564 0 59 rfl
        have t570 := g564 0 3 rfl
        have t571 := g564 0 106 rfl
        have t572 := g564 0 101 rfl
        have t573 := g564 18 (Int.toNat ((I 0 6))) rfl
        have t574 := g564 6 (Int.toNat v2_12) rfl
        have f575 := (gr_b_0_71 hI565)
        have f576 := (gr_b_0_72 hI565)
        have f577 := (gr_b_0_73 hI565)
        have f578 := (gr_b_0_69 hI565)
        have f579 := (gr_b_0_6 hI565)
        have f580 := (gr_b_0_59 hI565)
        have f581 := (gr_b_0_3 hI565)
        have f582 := (gr_b_0_106 hI565)
        have f583 := (gr_b_0_101 hI565)
        have KGR_I565 := gr_GR_fr KGR_I541 (fun k => g564 19 k rfl) (fun k => g564 18 k rfl) (fun k => g564 36 k rfl) (fun k => g564 41 k rfl) (fun k => g564 42 k rfl) (fun k => g564 43 k rfl) (fun k => g564 45 k rfl) (fun k => g564 46 k rfl) (fun k => g564 47 k rfl) (fun k => g564 6 k rfl) (fun k => g564 7 k rfl) (fun k => g564 8 k rfl) (g564 0 3 rfl)
        have KST_I565 := gr_ST_fr KST_I541 (fun k => g564 6 k rfl) (fun k => g564 19 k rfl) (fun k => g564 18 k rfl) (fun k => g564 41 k rfl) (fun k => g564 36 k rfl) (g564 0 3 rfl)
        have KLK_I565 := gr_LKs_fr KLK_I541 (fun k => g564 51 k rfl) (g564 0 59 rfl)
        have t584 := (gr_ATp_rr A563).2.2.1.resolve_left (by exact gz_m 310 (by omega))
        have A585 := gr_ATp_nx A563 q564.2.2.2.2.2
        have t586 := gr_ATp_l A585
        obtain ⟨_, _, -, -, -, -⟩ := q564
        refine gv_callV hD rfl (As := []) (st := []) rfl (by decide) rfl rfl (gr_lV hws rfl) (Nat.le_of_ble_eq_true rfl) (gz_Ev_mono (d := 10) (by decide) E564) ?_
        show gv_X _ _ (171, [(4, .inl (v4_51 + 1)), (0, .inr (.inr (some 0))), (1, .inl (I 0 6)), (2, .inl v2_12), (3, .inl v3_25)], [], gr_sh ++ ext, gr_h I565 J566)
        refine gv_run 1 true hD (pcₚ := 139) (lvₚ := [(4, .inl (v4_51 + 1)), (0, .inr (.inr (some 0))), (1, .inl (I 0 6)), (2, .inl v2_12), (3, .inl v3_25)]) (stₚ := []) (hₚ := gr_h I565 J566) (C := (True ∧ True)) rfl ⟨trivial, trivial⟩ ?_
        refine gv_pick [1, 2, 3, 4, 0] rfl ?_
        exact ih139 I565 J566 (v4_51 + 1) (gs_X β N9 p_51) (by exact gz_m 311 (by omega)) hI565 FI565 FJ566 KGR_I565 KST_I565 KLK_I565 (by exact gz_m 312 (by omega)) A585 (e5_51.trans (by rw [gs_stm_s (by exact gz_m 313 (by omega)) (by exact gz_m 314 (by omega))])) e6_51 e7_51 (gs_w2_s e8_51 ⟨by exact gz_m 315 (by omega), by exact gz_m 316 (by omega)⟩ (by exact gz_m 317 (by omega)) l517 (fun j => g517 67 j rfl) (gs_itx_tl e4_51 ((gr_ATp_rr e4_51).1.resolve_left (by exact gz_m 318 (by omega))) ((gr_ATp_rr e4_51).2.2.2.1 (by exact gz_m 319 (by omega))) (by exact gz_m 320 (by omega)) G517 (by exact gz_m 321 (by omega)) (by exact gz_m 322 (by omega)) (by exact gz_m 323 (by omega)) (by exact gz_m 324 (by omega)) (fun j => rfl) rfl) rfl p542 q542 (gr_LKs_fr gr_LKs_rf (fun k => g564 51 k rfl) (g564 0 59 rfl)) (fun j => g564 67 j rfl) rfl) ⟨(fun k => ((((g564 18 k rfl).trans (p542 18 k (fun q => absurd q.1 (by first | exact gz_ne rfl | decide)))).trans (g517 18 k rfl)).trans (e9_51.1 k))), (fun k => ((((g564 36 k rfl).trans (p542 36 k (fun q => absurd q.1 (by first | exact gz_ne rfl | decide)))).trans (g517 36 k rfl)).trans (e9_51.2.1 k))), (fun k => ((((g564 37 k rfl).trans (p542 37 k (fun q => absurd q.1 (by first | exact gz_ne rfl | decide)))).trans (g517 37 k rfl)).trans (e9_51.2.2.1 k))), (fun k => ((((g564 38 k rfl).trans (p542 38 k (fun q => absurd q.1 (by first | exact gz_ne rfl | decide)))).trans (g517 38 k rfl)).trans (e9_51.2.2.2.1 k))), (fun k => ((((g564 39 k rfl).trans (p542 39 k (fun q => absurd q.1 (by first | exact gz_ne rfl | decide)))).trans (g517 39 k rfl)).trans (e9_51.2.2.2.2.1 k))), (fun k => ((((g564 40 k rfl).trans (p542 40 k (fun q => absurd q.1 (by first | exact gz_ne rfl | decide)))).trans (g517 40 k rfl)).trans (e9_51.2.2.2.2.2 k)))⟩
set_option maxHeartbeats 32000000 in
set_option maxRecDepth 100000 in
theorem r_wordOf_p_L95 {ws0 : List Cond} {tb : String → gz_T} (hws : ∀ w ∈ gr_ws, w ∈ ws0) (htb : tb RX13 = gr_T) (ext : gz_Sh) (I9 : gr_I) (β : Int → Int) (N9 : Int) (p9 : Int) (I : gr_I) (J : gr_J) (hI : gr_Inv I) (x1 : I 0 72 ≤ I 0 69) (x4 : I 0 72 ≤ I 0 73) (x5 : 0 ≤ I 0 6) (x6 : I 0 59 + I 0 69 - I 0 72 ≤ 1900) (x7 : gr_ATp β N9 p9 I J) (x8 : 0 ≤ p9) (x9 : gr_KW J) (KGR_I : gr_GR I) (KST_I : gr_ST I9 I) (v2_12 : Int) : ∀ (I23 : gr_I) (J24 : gr_J) (v3_25 : Int) (p_25 : Int), gr_Inv I23 → gr_fr [59, 71, 72, 73, 74, 75, 76, 77, 101, 106] [18, 36, 37, 38, 39, 40, 51, 67] I I23 → gr_fj [59, 71, 72, 73, 74, 75, 76, 77, 101, 106] [18, 36, 37, 38, 39, 40, 51, 67] J J24 → gr_GR I23 → gr_ST I9 I23 → gr_LKs I I23 → ((0 ≤ (I 0 6) ∧ (I 0 6) ≤ 7) ∧ (0 ≤ v2_12 ∧ v2_12 ≤ 95) ∧ (0 ≤ v3_25 ∧ v3_25 ≤ 23) ∧ (I23 6 (Int.toNat v2_12) = 0) ∧ (v2_12 < I23 0 3) ∧ (I23 0 71 = 1) ∧ (v3_25 < I 17 (Int.toNat (I 0 6))) ∧ (0 ≤ p_25) ∧ (I23 0 72 ≤ I23 0 69) ∧ (I23 0 72 ≤ I23 0 73) ∧ (I23 0 69 = I 0 69) ∧ (I 0 73 ≤ I23 0 73) ∧ (I 0 72 ≤ I23 0 72) ∧ (I23 0 6 = I 0 6) ∧ (I23 0 59 - I23 0 72 ≤ I 0 59 - I 0 72)) → (gr_ATp β N9 p_25 I23 J24) → ((gs_wd β N9 I J (I 0 78) p9) = gs_wd2 β N9 I J (I 0 78) (gs_X β N9 p_25)) → (v2_12 = gs_lk I J 3 3 (gs_rn β N9 p9)) → (v3_25 = gs_wpt β N9 I J p9) → (p_25 = gs_X β N9 p9) → ((∀ k, I23 18 k = I 18 k) ∧ (∀ k, I23 36 k = I 36 k) ∧ (∀ k, I23 37 k = I 37 k) ∧ (∀ k, I23 38 k = I 38 k) ∧ (∀ k, I23 39 k = I 39 k) ∧ (∀ k, I23 40 k = I 40 k)) → gv_X (gr_E ws0 tb 11 (yX13_wordOf, cX13_wordOf, 7, (some .boolean)) kX13_wordOf) (gv_Q cX13_wordOf (some .boolean) (gr_sh ++ ext) (fun r hₚ => (∃ (Iₚ : gr_I) (Jₚ : gr_J), hₚ = gr_h Iₚ Jₚ ∧ gr_Inv Iₚ ∧ gr_fr [59, 71, 72, 73, 74, 75, 76, 77, 101, 106] [18, 36, 37, 38, 39, 40, 51, 67] I Iₚ ∧ gr_fj [59, 71, 72, 73, 74, 75, 76, 77, 101, 106] [18, 36, 37, 38, 39, 40, 51, 67] J Jₚ ∧ gr_GR Iₚ ∧ gr_ST I9 Iₚ ∧ (∃ z : Int, r = some (.inl z) ∧ 0 ≤ z ∧ z ≤ 1 ∧ (Iₚ 0 71 = 5 ∨ Iₚ 0 73 ≤ Iₚ 0 69) ∧ (Iₚ 0 72 ≤ Iₚ 0 69) ∧ (Iₚ 0 71 = 0 ∨ (Iₚ 0 72 < Iₚ 0 73 ∧ Iₚ 0 72 < Iₚ 0 69)) ∧ (Iₚ 0 71 = 3 → 2 ≤ Iₚ 0 73 - Iₚ 0 72 ∧ Iₚ 0 73 - Iₚ 0 72 ≤ 14) ∧ (Iₚ 0 72 ≤ Iₚ 0 73) ∧ (Iₚ 0 69 = I 0 69) ∧ (I 0 73 ≤ Iₚ 0 73) ∧ (I 0 72 ≤ Iₚ 0 72) ∧ (Iₚ 0 59 - Iₚ 0 72 ≤ I 0 59 - I 0 72) ∧ (gr_LKs I Iₚ) ∧ (gs_Or z (0 ≤ (gs_wd β N9 I J (I 0 78) p9) ∧ gr_ATp β N9 (gs_wd β N9 I J (I 0 78) p9) Iₚ Jₚ ∧ (Iₚ 18 (Int.toNat (I 0 6)) = I 18 (Int.toNat (I 0 6)) + 1 ∧ ∀ j, ¬ j = (Int.toNat (I 0 6)) → Iₚ 18 j = I 18 j) ∧ gs_Uwd β N9 I J p9 Iₚ) ((gs_wd β N9 I J (I 0 78) p9) < 0 ∧ Iₚ 0 77 = -1 - (gs_wd β N9 I J (I 0 78) p9) ∧ gs_Swd I Iₚ)))))) (95, [(0, .inr (.inr (some 0))), (1, .inl (I 0 6)), (2, .inl v2_12), (3, .inl v3_25)], [], gr_sh ++ ext, gr_h I23 J24) := by
  have FI : gr_fr [59, 71, 72, 73, 74, 75, 76, 77, 101, 106] [18, 36, 37, 38, 39, 40, 51, 67] I I := fun _ _ _ => rfl
  have FJ : gr_fj [59, 71, 72, 73, 74, 75, 76, 77, 101, 106] [18, 36, 37, 38, 39, 40, 51, 67] J J := fun _ _ _ => rfl
  have hD : gv_D (gr_E ws0 tb 11 (yX13_wordOf, cX13_wordOf, 7, (some .boolean)) kX13_wordOf) := gq_of oX13_wordOf
  have tAT := gr_ATp_l x7
  skip
  have KW := x9
  have f1 := (gr_b_0_71 hI)
  have f2 := (gr_b_0_72 hI)
  have f3 := (gr_b_0_73 hI)
  have f4 := (gr_b_0_69 hI)
  have f5 := (gr_b_0_6 hI)
  have f6 := (gr_b_0_59 hI)
  have f7 := (gr_b_0_3 hI)
  have f8 := (gr_b_0_106 hI)
  have f9 := (gr_b_0_101 hI)
  have KLK_I : gr_LKs I I := gr_LKs_rf
  intro I23 J24 v3_25 p_25 hI23 FI23 FJ24 KGR_I23 KST_I23 KLK_I23 m_25 e5_25 e6_25 e7_25 e8_25 e9_25 e10_25
  obtain ⟨h_I_0_6__25, hv2_12_25, hv3_25, e0_25, e1_25, e2_25, e3_25, e4_25, e11_25, e12_25, e13_25, e14_25, e15_25, e16_25, e17_25⟩ := m_25
  have f26 := (gr_b_0_71 hI23)
  have f27 := (gr_b_0_72 hI23)
  have f28 := (gr_b_0_73 hI23)
  have f29 := (gr_b_0_69 hI23)
  have f30 := (gr_b_0_6 hI23)
  have f31 := (gr_b_0_59 hI23)
  have f32 := (gr_b_0_3 hI23)
  have f33 := (gr_b_0_106 hI23)
  have f34 := (gr_b_0_101 hI23)
  have t35 := gr_ATp_l e5_25
  have L119 : ∀ (n : Nat) (I36 : gr_I) (J37 : gr_J) (v4_38 : Int) (v5_38 : Int) (p_38 : Int), (4 - v5_38).toNat < n → gr_Inv I36 → gr_fr [59, 71, 72, 73, 74, 75, 76, 77, 101, 106] [18, 36, 37, 38, 39, 40, 51, 67] I I36 → gr_fj [59, 71, 72, 73, 74, 75, 76, 77, 101, 106] [18, 36, 37, 38, 39, 40, 51, 67] J J37 → gr_GR I36 → gr_ST I9 I36 → gr_LKs I I36 → ((0 ≤ (I 0 6) ∧ (I 0 6) ≤ 7) ∧ (0 ≤ v2_12 ∧ v2_12 ≤ 95) ∧ (0 ≤ v3_25 ∧ v3_25 ≤ 23) ∧ (0 ≤ v4_38 ∧ v4_38 ≤ 0) ∧ (0 ≤ v5_38 ∧ v5_38 ≤ 3) ∧ (I36 6 (Int.toNat v2_12) = 0) ∧ (v2_12 < I36 0 3) ∧ (v4_38 = 0) ∧ (v3_25 < I 17 (Int.toNat (I 0 6))) ∧ (0 ≤ p_38) ∧ (I36 0 72 ≤ I36 0 69) ∧ (I36 0 72 ≤ I36 0 73) ∧ (I36 0 69 = I 0 69) ∧ (I 0 73 ≤ I36 0 73) ∧ (I 0 72 ≤ I36 0 72) ∧ (I36 0 6 = I 0 6) ∧ (I36 0 59 - I36 0 72 ≤ I 0 59 - I 0 72)) → (gr_ATp β N9 p_38 I36 J37) → ((gs_wd β N9 I J (I 0 78) p9) = gs_wd3 β N9 I J (I 0 78) (gs_stm β N9 3 p_38)) → (v2_12 = gs_lk I J 3 3 (gs_rn β N9 p9)) → (v3_25 = gs_wpt β N9 I J p9) → (p_38 = (gs_X β N9 (gs_X β N9 p9))) → (∀ k : Nat, (k : Int) < v5_38 → I36 67 k = -1) → ((∀ k, I36 18 k = I 18 k) ∧ (∀ k, I36 36 k = I 36 k) ∧ (∀ k, I36 37 k = I 37 k) ∧ (∀ k, I36 38 k = I 38 k) ∧ (∀ k, I36 39 k = I 39 k) ∧ (∀ k, I36 40 k = I 40 k)) → gv_X (gr_E ws0 tb 11 (yX13_wordOf, cX13_wordOf, 7, (some .boolean)) kX13_wordOf) (gv_Q cX13_wordOf (some .boolean) (gr_sh ++ ext) (fun r hₚ => (∃ (Iₚ : gr_I) (Jₚ : gr_J), hₚ = gr_h Iₚ Jₚ ∧ gr_Inv Iₚ ∧ gr_fr [59, 71, 72, 73, 74, 75, 76, 77, 101, 106] [18, 36, 37, 38, 39, 40, 51, 67] I Iₚ ∧ gr_fj [59, 71, 72, 73, 74, 75, 76, 77, 101, 106] [18, 36, 37, 38, 39, 40, 51, 67] J Jₚ ∧ gr_GR Iₚ ∧ gr_ST I9 Iₚ ∧ (∃ z : Int, r = some (.inl z) ∧ 0 ≤ z ∧ z ≤ 1 ∧ (Iₚ 0 71 = 5 ∨ Iₚ 0 73 ≤ Iₚ 0 69) ∧ (Iₚ 0 72 ≤ Iₚ 0 69) ∧ (Iₚ 0 71 = 0 ∨ (Iₚ 0 72 < Iₚ 0 73 ∧ Iₚ 0 72 < Iₚ 0 69)) ∧ (Iₚ 0 71 = 3 → 2 ≤ Iₚ 0 73 - Iₚ 0 72 ∧ Iₚ 0 73 - Iₚ 0 72 ≤ 14) ∧ (Iₚ 0 72 ≤ Iₚ 0 73) ∧ (Iₚ 0 69 = I 0 69) ∧ (I 0 73 ≤ Iₚ 0 73) ∧ (I 0 72 ≤ Iₚ 0 72) ∧ (Iₚ 0 59 - Iₚ 0 72 ≤ I 0 59 - I 0 72) ∧ (gr_LKs I Iₚ) ∧ (gs_Or z (0 ≤ (gs_wd β N9 I J (I 0 78) p9) ∧ gr_ATp β N9 (gs_wd β N9 I J (I 0 78) p9) Iₚ Jₚ ∧ (Iₚ 18 (Int.toNat (I 0 6)) = I 18 (Int.toNat (I 0 6)) + 1 ∧ ∀ j, ¬ j = (Int.toNat (I 0 6)) → Iₚ 18 j = I 18 j) ∧ gs_Uwd β N9 I J p9 Iₚ) ((gs_wd β N9 I J (I 0 78) p9) < 0 ∧ Iₚ 0 77 = -1 - (gs_wd β N9 I J (I 0 78) p9) ∧ gs_Swd I Iₚ)))))) (119, [(0, .inr (.inr (some 0))), (1, .inl (I 0 6)), (2, .inl v2_12), (3, .inl v3_25), (4, .inl v4_38), (5, .inl v5_38)], [], gr_sh ++ ext, gr_h I36 J37) := by
    intro n
    induction n with
    | zero => intro I36 J37 v4_38 v5_38 p_38 hn; exact gz_m 0 (by omega)
    | succ n ih119 =>
      intro I36 J37 v4_38 v5_38 p_38 hn hI36 FI36 FJ37 KGR_I36 KST_I36 KLK_I36 m_38 e5_38 e6_38 e7_38 e8_38 e9_38 e10_38 e11_38
      clear h_I_0_6__25 hv2_12_25 hv3_25 e0_25 e1_25 e2_25 e3_25 e4_25 e11_25 e12_25 e13_25 e14_25 e15_25 e16_25 e17_25 f26 f27 f28 f29 f30 f31 f32 f33 f34 t35
      obtain ⟨h_I_0_6__38, hv2_12_38, hv3_25_38, hv4_38, hv5_38, e0_38, e1_38, e2_38, e3_38, e4_38, e12_38, e13_38, e14_38, e15_38, e16_38, e17_38, e18_38⟩ := m_38
      have f39 := (gr_b_0_71 hI36)
      have f40 := (gr_b_0_72 hI36)
      have f41 := (gr_b_0_73 hI36)
      have f42 := (gr_b_0_69 hI36)
      have f43 := (gr_b_0_6 hI36)
      have f44 := (gr_b_0_59 hI36)
      have f45 := (gr_b_0_3 hI36)
      have f46 := (gr_b_0_106 hI36)
      have f47 := (gr_b_0_101 hI36)
      have t48 := gr_ATp_l e5_38
      have L139 : ∀ (n : Nat) (I49 : gr_I) (J50 : gr_J) (v4_51 : Int) (p_51 : Int), (1001 - I49 0 72).toNat < n → gr_Inv I49 → gr_fr [59, 71, 72, 73, 74, 75, 76, 77, 101, 106] [18, 36, 37, 38, 39, 40, 51, 67] I I49 → gr_fj [59, 71, 72, 73, 74, 75, 76, 77, 101, 106] [18, 36, 37, 38, 39, 40, 51, 67] J J50 → gr_GR I49 → gr_ST I9 I49 → gr_LKs I I49 → ((0 ≤ (I 0 6) ∧ (I 0 6) ≤ 7) ∧ (0 ≤ v2_12 ∧ v2_12 ≤ 95) ∧ (0 ≤ v3_25 ∧ v3_25 ≤ 23) ∧ (0 ≤ v4_51 ∧ v4_51 ≤ 3) ∧ (I49 6 (Int.toNat v2_12) = 0) ∧ (v2_12 < I49 0 3) ∧ (v3_25 < I 17 (Int.toNat (I 0 6))) ∧ (0 ≤ p_51) ∧ (I49 0 72 ≤ I49 0 69) ∧ (I49 0 72 ≤ I49 0 73) ∧ (I49 0 69 = I 0 69) ∧ (I 0 73 ≤ I49 0 73) ∧ (I 0 72 ≤ I49 0 72) ∧ (I49 0 6 = I 0 6) ∧ (I49 0 59 - I49 0 72 ≤ I 0 59 - I 0 72)) → (gr_ATp β N9 p_51 I49 J50) → ((gs_wd β N9 I J (I 0 78) p9) = gs_wd3 β N9 I J (I 0 78) (gs_stm β N9 (Int.toNat (3 - v4_51)) p_51)) → (v2_12 = gs_lk I J 3 3 (gs_rn β N9 p9)) → (v3_25 = gs_wpt β N9 I J p9) → (gs_w2 β N9 I (gs_X β N9 (gs_X β N9 p9)) I49 v4_51 p_51) → ((∀ k, I49 18 k = I 18 k) ∧ (∀ k, I49 36 k = I 36 k) ∧ (∀ k, I49 37 k = I 37 k) ∧ (∀ k, I49 38 k = I 38 k) ∧ (∀ k, I49 39 k = I 39 k) ∧ (∀ k, I49 40 k = I 40 k)) → gv_X (gr_E ws0 tb 11 (yX13_wordOf, cX13_wordOf, 7, (some .boolean)) kX13_wordOf) (gv_Q cX13_wordOf (some .boolean) (gr_sh ++ ext) (fun r hₚ => (∃ (Iₚ : gr_I) (Jₚ : gr_J), hₚ = gr_h Iₚ Jₚ ∧ gr_Inv Iₚ ∧ gr_fr [59, 71, 72, 73, 74, 75, 76, 77, 101, 106] [18, 36, 37, 38, 39, 40, 51, 67] I Iₚ ∧ gr_fj [59, 71, 72, 73, 74, 75, 76, 77, 101, 106] [18, 36, 37, 38, 39, 40, 51, 67] J Jₚ ∧ gr_GR Iₚ ∧ gr_ST I9 Iₚ ∧ (∃ z : Int, r = some (.inl z) ∧ 0 ≤ z ∧ z ≤ 1 ∧ (Iₚ 0 71 = 5 ∨ Iₚ 0 73 ≤ Iₚ 0 69) ∧ (Iₚ 0 72 ≤ Iₚ 0 69) ∧ (Iₚ 0 71 = 0 ∨ (Iₚ 0 72 < Iₚ 0 73 ∧ Iₚ 0 72 < Iₚ 0 69)) ∧ (Iₚ 0 71 = 3 → 2 ≤ Iₚ 0 73 - Iₚ 0 72 ∧ Iₚ 0 73 - Iₚ 0 72 ≤ 14) ∧ (Iₚ 0 72 ≤ Iₚ 0 73) ∧ (Iₚ 0 69 = I 0 69) ∧ (I 0 73 ≤ Iₚ 0 73) ∧ (I 0 72 ≤ Iₚ 0 72) ∧ (Iₚ 0 59 - Iₚ 0 72 ≤ I 0 59 - I 0 72) ∧ (gr_LKs I Iₚ) ∧ (gs_Or z (0 ≤ (gs_wd β N9 I J (I 0 78) p9) ∧ gr_ATp β N9 (gs_wd β N9 I J (I 0 78) p9) Iₚ Jₚ ∧ (Iₚ 18 (Int.toNat (I 0 6)) = I 18 (Int.toNat (I 0 6)) + 1 ∧ ∀ j, ¬ j = (Int.toNat (I 0 6)) → Iₚ 18 j = I 18 j) ∧ gs_Uwd β N9 I J p9 Iₚ) ((gs_wd β N9 I J (I 0 78) p9) < 0 ∧ Iₚ 0 77 = -1 - (gs_wd β N9 I J (I 0 78) p9) ∧ gs_Swd I Iₚ)))))) (139, [(0, .inr (.inr (some 0))), (1, .inl (I 0 6)), (2, .inl v2_12), (3, .inl v3_25), (4, .inl v4_51)], [], gr_sh ++ ext, gr_h I49 J50) := r_wordOf_p_L139 (ws0 := ws0) (tb := tb) hws htb ext I9 β N9 p9 I J hI x1 x4 x5 x6 x7 x8 x9 KGR_I KST_I v2_12 v3_25
      refine gv_run 2 true hD (pcₚ := 122) (lvₚ := [(0, .inr (.inr (some 0))), (1, .inl (I 0 6)), (2, .inl v2_12), (3, .inl v3_25), (4, .inl v4_38), (5, .inl v5_38)]) (stₚ := [.inl 3, .inl v5_38]) (hₚ := gr_h I36 J37) (C := ((True ∧ True) ∧ True)) rfl ⟨⟨trivial, trivial⟩, trivial⟩ ?_
      refine gv_icmp_ge (t := 139) hD rfl rfl ⟨⟨by exact gz_m 325 (by omega), by exact gz_m 326 (by omega)⟩, ⟨by exact gz_m 327 (by omega), by exact gz_m 328 (by omega)⟩⟩ (fun c587 => ?_) (fun c587 => ?_)
      · refine gv_pick [0, 1, 2, 3, 4] rfl ?_
        exact L139 _ I36 J37 v4_38 p_38 (Nat.lt_succ_self _) hI36 FI36 FJ37 KGR_I36 KST_I36 KLK_I36 (by exact gz_m 329 (by omega)) e5_38 (e6_38.trans (by rw [show Int.toNat (3 - v4_38) = 3 from by exact gz_m 330 (by omega)])) e7_38 e8_38 (by rw [show v4_38 = 0 from by exact gz_m 331 (by omega)]; exact gs_w2_0 e10_38 (by exact gz_m 332 (by omega)) e9_38) ⟨(fun k => (e11_38.1 k)), (fun k => (e11_38.2.1 k)), (fun k => (e11_38.2.2.1 k)), (fun k => (e11_38.2.2.2.1 k)), (fun k => (e11_38.2.2.2.2.1 k)), (fun k => (e11_38.2.2.2.2.2 k))⟩
      · refine gv_run 4 true hD (pcₚ := 132) (lvₚ := [(0, .inr (.inr (some 0))), (1, .inl (I 0 6)), (2, .inl v2_12), (3, .inl v3_25), (4, .inl v4_38), (5, .inl v5_38)]) (stₚ := [.inl (-1), .inl v5_38, .inr (.inr (some 67))]) (hₚ := gr_h I36 J37) (C := ((((True ∧ True) ∧ True) ∧ True) ∧ True)) rfl ⟨⟨⟨⟨trivial, trivial⟩, trivial⟩, trivial⟩, trivial⟩ ?_
        refine gv_run 1 true hD (pcₚ := 133) (lvₚ := [(0, .inr (.inr (some 0))), (1, .inl (I 0 6)), (2, .inl v2_12), (3, .inl v3_25), (4, .inl v4_38), (5, .inl v5_38)]) (stₚ := []) (hₚ := gz_up (gr_h I36 J37) 67 (Int.toNat v5_38) (.inl (-1))) (C := (True ∧ (0 ≤ v5_38 ∧ v5_38 < ((3 : Nat) : Int)))) rfl ⟨trivial, ⟨by exact gz_m 333 (by omega), by exact gz_m 334 (by omega)⟩⟩ ?_
        refine gr_st hI36 FI36 rfl rfl ⟨⟨by show (-1) ≤ _; exact gz_m 335 (by omega), by show _ ≤ 32015; exact gz_m 336 (by omega)⟩, trivial⟩ (fun I588 hI588 FI588 q589 p589 => ?_)
        have t590 := p589 0 71 (fun q => absurd q.1 (by first | exact gz_ne rfl | decide))
        have t591 := p589 0 72 (fun q => absurd q.1 (by first | exact gz_ne rfl | decide))
        have t592 := p589 0 73 (fun q => absurd q.1 (by first | exact gz_ne rfl | decide))
        have t593 := p589 0 69 (fun q => absurd q.1 (by first | exact gz_ne rfl | decide))
        have t594 := p589 0 6 (fun q => absurd q.1 (by first | exact gz_ne rfl | decide))
        have t595 := p589 0 59 (fun q => absurd q.1 (by first | exact gz_ne rfl | decide))
        have t596 := p589 0 3 (fun q => absurd q.1 (by first | exact gz_ne rfl | decide))
        have t597 := p589 0 106 (fun q => absurd q.1 (by first | exact gz_ne rfl | decide))
        have t598 := p589 0 101 (fun q => absurd q.1 (by first | exact gz_ne rfl | decide))
        have t599 := p589 18 (Int.toNat ((I 0 6))) (fun q => absurd q.1 (by first | exact gz_ne rfl | decide))
        have t600 := p589 6 (Int.toNat v2_12) (fun q => absurd q.1 (by first | exact gz_ne rfl | decide))
        have f601 := (gr_b_0_71 hI588)
        have f602 := (gr_b_0_72 hI588)
        have f603 := (gr_b_0_73 hI588)
        have f604 := (gr_b_0_69 hI588)
        have f605 := (gr_b_0_6 hI588)
        have f606 := (gr_b_0_59 hI588)
        have f607 := (gr_b_0_3 hI588)
        have f608 := (gr_b_0_106 hI588)
        have f609 := (gr_b_0_101 hI588)
        have KGR_I588 := gr_GR_fr KGR_I36 (fun k => p589 19 k (fun q => absurd q.1 (by first | exact gz_ne rfl | decide))) (fun k => p589 18 k (fun q => absurd q.1 (by first | exact gz_ne rfl | decide))) (fun k => p589 36 k (fun q => absurd q.1 (by first | exact gz_ne rfl | decide))) (fun k => p589 41 k (fun q => absurd q.1 (by first | exact gz_ne rfl | decide))) (fun k => p589 42 k (fun q => absurd q.1 (by first | exact gz_ne rfl | decide))) (fun k => p589 43 k (fun q => absurd q.1 (by first | exact gz_ne rfl | decide))) (fun k => p589 45 k (fun q => absurd q.1 (by first | exact gz_ne rfl | decide))) (fun k => p589 46 k (fun q => absurd q.1 (by first | exact gz_ne rfl | decide))) (fun k => p589 47 k (fun q => absurd q.1 (by first | exact gz_ne rfl | decide))) (fun k => p589 6 k (fun q => absurd q.1 (by first | exact gz_ne rfl | decide))) (fun k => p589 7 k (fun q => absurd q.1 (by first | exact gz_ne rfl | decide))) (fun k => p589 8 k (fun q => absurd q.1 (by first | exact gz_ne rfl | decide))) (p589 0 3 (fun q => absurd q.1 (by first | exact gz_ne rfl | decide)))
        have KST_I588 := gr_ST_fr KST_I36 (fun k => p589 6 k (fun q => absurd q.1 (by first | exact gz_ne rfl | decide))) (fun k => p589 19 k (fun q => absurd q.1 (by first | exact gz_ne rfl | decide))) (fun k => p589 18 k (fun q => absurd q.1 (by first | exact gz_ne rfl | decide))) (fun k => p589 41 k (fun q => absurd q.1 (by first | exact gz_ne rfl | decide))) (fun k => p589 36 k (fun q => absurd q.1 (by first | exact gz_ne rfl | decide))) (p589 0 3 (fun q => absurd q.1 (by first | exact gz_ne rfl | decide)))
        have KLK_I588 := gr_LKs_fr KLK_I36 (fun k => p589 51 k (fun q => absurd q.1 (by first | exact gz_ne rfl | decide))) (p589 0 59 (fun q => absurd q.1 (by first | exact gz_ne rfl | decide)))
        have A610 := gr_ATp_sr e5_38 p589 rfl
        refine gv_run 2 true hD (pcₚ := 119) (lvₚ := [(5, .inl (v5_38 + 1)), (0, .inr (.inr (some 0))), (1, .inl (I 0 6)), (2, .inl v2_12), (3, .inl v3_25), (4, .inl v4_38)]) (stₚ := []) (hₚ := gr_h I588 J37) (C := ((True ∧ True) ∧ True)) rfl ⟨⟨trivial, trivial⟩, trivial⟩ ?_
        refine gv_pick [1, 2, 3, 4, 5, 0] rfl ?_
        exact ih119 I588 J37 v4_38 (v5_38 + 1) p_38 (by exact gz_m 337 (by omega)) hI588 FI588 FJ37 KGR_I588 KST_I588 KLK_I588 (by exact gz_m 338 (by omega)) A610 e6_38 e7_38 e8_38 e9_38 (fun k hk => if e9 : k = (Int.toNat v5_38) then (by rw [e9]; exact q589) else (p589 67 k (fun q => e9 q.2)).trans (e10_38 k (by exact gz_m 339 (by omega)))) ⟨(fun k => ((p589 18 k (fun q => absurd q.1 (by first | exact gz_ne rfl | decide))).trans (e11_38.1 k))), (fun k => ((p589 36 k (fun q => absurd q.1 (by first | exact gz_ne rfl | decide))).trans (e11_38.2.1 k))), (fun k => ((p589 37 k (fun q => absurd q.1 (by first | exact gz_ne rfl | decide))).trans (e11_38.2.2.1 k))), (fun k => ((p589 38 k (fun q => absurd q.1 (by first | exact gz_ne rfl | decide))).trans (e11_38.2.2.2.1 k))), (fun k => ((p589 39 k (fun q => absurd q.1 (by first | exact gz_ne rfl | decide))).trans (e11_38.2.2.2.2.1 k))), (fun k => ((p589 40 k (fun q => absurd q.1 (by first | exact gz_ne rfl | decide))).trans (e11_38.2.2.2.2.2 k)))⟩
  refine gv_run 1 true hD (pcₚ := 96) (lvₚ := [(0, .inr (.inr (some 0))), (1, .inl (I 0 6)), (2, .inl v2_12), (3, .inl v3_25)]) (stₚ := [.inr (.inr (some 0))]) (hₚ := gr_h I23 J24) (C := (True ∧ True)) rfl ⟨trivial, trivial⟩ ?_
  obtain ⟨r611, h611, E611, P611⟩ := r_next_p (ws0 := ws0) (tb := tb) hws htb ext β N9 I23 J24 hI23   ((gr_ATp_rr e5_25).1.resolve_left (by exact gz_m 340 (by omega))) e5_25.1.1 e5_25.1.2
  obtain ⟨I612, J613, rfl, hI612, g611, k611, ⟨rfl, q611⟩⟩ := P611
  have FI612 := gr_frt FI23 g611 rfl rfl
  have FJ613 := gr_fjt FJ24 k611 rfl rfl
  have t614 := g611 0 69 rfl
  have t615 := g611 0 6 rfl
  have t616 := g611 0 59 rfl
  have t617 := g611 0 3 rfl
  have t618 := g611 0 106 rfl
  have t619 := g611 0 101 rfl
  have t620 := g611 18 (Int.toNat ((I 0 6))) rfl
  have t621 := g611 6 (Int.toNat v2_12) rfl
  have f622 := (gr_b_0_71 hI612)
  have f623 := (gr_b_0_72 hI612)
  have f624 := (gr_b_0_73 hI612)
  have f625 := (gr_b_0_69 hI612)
  have f626 := (gr_b_0_6 hI612)
  have f627 := (gr_b_0_59 hI612)
  have f628 := (gr_b_0_3 hI612)
  have f629 := (gr_b_0_106 hI612)
  have f630 := (gr_b_0_101 hI612)
  have KGR_I612 := gr_GR_fr KGR_I23 (fun k => g611 19 k rfl) (fun k => g611 18 k rfl) (fun k => g611 36 k rfl) (fun k => g611 41 k rfl) (fun k => g611 42 k rfl) (fun k => g611 43 k rfl) (fun k => g611 45 k rfl) (fun k => g611 46 k rfl) (fun k => g611 47 k rfl) (fun k => g611 6 k rfl) (fun k => g611 7 k rfl) (fun k => g611 8 k rfl) (g611 0 3 rfl)
  have KST_I612 := gr_ST_fr KST_I23 (fun k => g611 6 k rfl) (fun k => g611 19 k rfl) (fun k => g611 18 k rfl) (fun k => g611 41 k rfl) (fun k => g611 36 k rfl) (g611 0 3 rfl)
  have KLK_I612 := gr_LKs_fr KLK_I23 (fun k => g611 51 k rfl) (g611 0 59 rfl)
  have t631 := (gr_ATp_rr e5_25).2.2.1.resolve_left (by exact gz_m 341 (by omega))
  have A632 := gr_ATp_nx e5_25 q611.2.2.2.2.2
  have t633 := gr_ATp_l A632
  obtain ⟨_, _, -, -, -, -⟩ := q611
  refine gv_callV hD rfl (As := []) (st := []) rfl (by decide) rfl rfl (gr_lV hws rfl) (Nat.le_of_ble_eq_true rfl) (gz_Ev_mono (d := 10) (by decide) E611) ?_
  show gv_X _ _ (99, [(0, .inr (.inr (some 0))), (1, .inl (I 0 6)), (2, .inl v2_12), (3, .inl v3_25)], [], gr_sh ++ ext, gr_h I612 J613)
  have f634 := (gr_b_0_71 hI612)
  refine gv_run 3 true hD (pcₚ := 104) (lvₚ := [(0, .inr (.inr (some 0))), (1, .inl (I 0 6)), (2, .inl v2_12), (3, .inl v3_25)]) (stₚ := [.inl 3, .inl (I612 0 71)]) (hₚ := gr_h I612 J613) (C := (((True ∧ True) ∧ True) ∧ True)) rfl ⟨⟨⟨trivial, trivial⟩, trivial⟩, trivial⟩ ?_
  refine gv_icmp_eq (t := 113) hD rfl rfl ⟨⟨by exact gz_m 342 (by omega), by exact gz_m 343 (by omega)⟩, ⟨by exact gz_m 344 (by omega), by exact gz_m 345 (by omega)⟩⟩ (fun c635 => ?_) (fun c635 => ?_)
  · have t636 := (gr_ATp_k A632 (c := 3) (by exact gz_m 346 (by omega))).mp (by exact gz_m 347 (by omega))
    have t637 := (gr_ATp_rr A632).2.2.1.resolve_left (by exact gz_m 348 (by omega))
    have t638 := (gr_ATp_rr A632).2.2.2.1 (by exact gz_m 349 (by omega))
    refine gv_run 4 true hD (pcₚ := 119) (lvₚ := [(5, .inl 0), (4, .inl 0), (0, .inr (.inr (some 0))), (1, .inl (I 0 6)), (2, .inl v2_12), (3, .inl v3_25)]) (stₚ := []) (hₚ := gr_h I612 J613) (C := ((((True ∧ True) ∧ True) ∧ True) ∧ True)) rfl ⟨⟨⟨⟨trivial, trivial⟩, trivial⟩, trivial⟩, trivial⟩ ?_
    refine gv_pick [2, 3, 4, 5, 1, 0] rfl ?_
    exact L119 _ I612 J613 0 0 (gs_X β N9 p_25) (Nat.lt_succ_self _) hI612 FI612 FJ613 KGR_I612 KST_I612 KLK_I612 (by exact gz_m 350 (by omega)) A632 (by rw [e6_25]; unfold gs_wd2; (repeat first | rw [if_pos (by exact gz_m 351 (by omega))] | rw [if_neg (by exact gz_m 352 (by omega))])) e7_25 e8_25 (by rw [e9_25]) (fun k hk => absurd hk (by exact gz_m 353 (by omega))) ⟨(fun k => ((g611 18 k rfl).trans (e10_25.1 k))), (fun k => ((g611 36 k rfl).trans (e10_25.2.1 k))), (fun k => ((g611 37 k rfl).trans (e10_25.2.2.1 k))), (fun k => ((g611 38 k rfl).trans (e10_25.2.2.2.1 k))), (fun k => ((g611 39 k rfl).trans (e10_25.2.2.2.2.1 k))), (fun k => ((g611 40 k rfl).trans (e10_25.2.2.2.2.2 k)))⟩
  · have t639 := gr_ATp_ne A632 (c := 3) (by exact gz_m 354 (by omega)) (by exact gz_m 355 (by omega))
    refine gv_run 2 true hD (pcₚ := 109) (lvₚ := [(0, .inr (.inr (some 0))), (1, .inl (I 0 6)), (2, .inl v2_12), (3, .inl v3_25)]) (stₚ := [.inl 1, .inr (.inr (some 0))]) (hₚ := gr_h I612 J613) (C := ((True ∧ True) ∧ True)) rfl ⟨⟨trivial, trivial⟩, trivial⟩ ?_
    obtain ⟨r640, h640, E640, P640⟩ := r_no__p (ws0 := ws0) (tb := tb) hws htb ext β N9 (gs_X β N9 p_25) I612 J613 hI612 1 ⟨by exact gz_m 356 (by omega), by exact gz_m 357 (by omega)⟩ A632 (by exact gz_m 358 (by omega))
    obtain ⟨I641, J642, rfl, hI641, g640, k640, ⟨z640, rfl, q640⟩⟩ := P640
    have FI641 := gr_frt FI612 g640 rfl rfl
    have FJ642 := gr_fjt FJ613 k640 rfl rfl
    have t643 := g640 0 71 rfl
    have t644 := g640 0 72 rfl
    have t645 := g640 0 73 rfl
    have t646 := g640 0 69 rfl
    have t647 := g640 0 6 rfl
    have t648 := g640 0 59 rfl
    have t649 := g640 0 3 rfl
    have t650 := g640 0 106 rfl
    have t651 := g640 0 101 rfl
    have t652 := g640 18 (Int.toNat ((I 0 6))) rfl
    have t653 := g640 6 (Int.toNat v2_12) rfl
    have f654 := (gr_b_0_71 hI641)
    have f655 := (gr_b_0_72 hI641)
    have f656 := (gr_b_0_73 hI641)
    have f657 := (gr_b_0_69 hI641)
    have f658 := (gr_b_0_6 hI641)
    have f659 := (gr_b_0_59 hI641)
    have f660 := (gr_b_0_3 hI641)
    have f661 := (gr_b_0_106 hI641)
    have f662 := (gr_b_0_101 hI641)
    have KGR_I641 := gr_GR_fr KGR_I612 (fun k => g640 19 k rfl) (fun k => g640 18 k rfl) (fun k => g640 36 k rfl) (fun k => g640 41 k rfl) (fun k => g640 42 k rfl) (fun k => g640 43 k rfl) (fun k => g640 45 k rfl) (fun k => g640 46 k rfl) (fun k => g640 47 k rfl) (fun k => g640 6 k rfl) (fun k => g640 7 k rfl) (fun k => g640 8 k rfl) (g640 0 3 rfl)
    have KST_I641 := gr_ST_fr KST_I612 (fun k => g640 6 k rfl) (fun k => g640 19 k rfl) (fun k => g640 18 k rfl) (fun k => g640 41 k rfl) (fun k => g640 36 k rfl) (g640 0 3 rfl)
    have KLK_I641 := gr_LKs_fr KLK_I612 (fun k => g640 51 k rfl) (g640 0 59 rfl)
    have A663 := gr_ATp_F A632 g640 k640 rfl
    have t664 := gr_ATp_l A663
    refine gv_callV hD rfl (As := [.inl 1]) (st := []) rfl (by decide) rfl rfl (gr_lV hws rfl) (Nat.le_of_ble_eq_true rfl) (gz_Ev_mono (d := 2) (by decide) E640) ?_
    show gv_X _ _ (112, [(0, .inr (.inr (some 0))), (1, .inl (I 0 6)), (2, .inl v2_12), (3, .inl v3_25)], [.inl z640], gr_sh ++ ext, gr_h I641 J642)
    have b665 : (I641 0 69 = I 0 69) ∧ (I 0 73 ≤ I641 0 73) ∧ (I 0 72 ≤ I641 0 72) ∧ (I641 0 59 - I641 0 72 ≤ I 0 59 - I 0 72) := by exact gz_m 359 (by omega)
    exact gv_zret hD rfl (by exact gz_m 360 (by omega)) ⟨I641, J642, rfl, hI641, FI641, FJ642, KGR_I641, KST_I641, ⟨_, rfl, by exact gz_m 361 (by omega), by exact gz_m 362 (by omega), (gr_ATp_rr A663).1, (gr_ATp_rr A663).2.1, (gr_ATp_rr A663).2.2.1, (gr_ATp_rr A663).2.2.2.1, (gr_ATp_rr A663).2.2.2.2, b665.1, b665.2.1, b665.2.2.1, b665.2.2.2, KLK_I641, (Or.inr ⟨by exact gz_m 363 (by omega), by first | (exfalso; exact gz_m 364 (by omega)) | (rw [e6_25]; unfold gs_wd2; (repeat first | rw [if_pos (by exact gz_m 365 (by omega))] | rw [if_neg (by exact gz_m 366 (by omega))]); exact ⟨by exact gz_m 367 (by omega), by exact gz_m 368 (by omega), (fun j => ⟨(((g640 18 j rfl).trans (g611 18 j rfl)).trans (e10_25.1 j)), (((g640 36 j rfl).trans (g611 36 j rfl)).trans (e10_25.2.1 j)), (((g640 37 j rfl).trans (g611 37 j rfl)).trans (e10_25.2.2.1 j)), (((g640 38 j rfl).trans (g611 38 j rfl)).trans (e10_25.2.2.2.1 j)), (((g640 39 j rfl).trans (g611 39 j rfl)).trans (e10_25.2.2.2.2.1 j)), (((g640 40 j rfl).trans (g611 40 j rfl)).trans (e10_25.2.2.2.2.2 j))⟩)⟩)⟩)⟩⟩
set_option maxHeartbeats 32000000 in
set_option maxRecDepth 100000 in
theorem r_wordOf_p {ws0 : List Cond} {tb : String → gz_T} (hws : ∀ w ∈ gr_ws, w ∈ ws0) (htb : tb RX13 = gr_T) (ext : gz_Sh) (I9 : gr_I) (β : Int → Int) (N9 : Int) (p9 : Int) (I : gr_I) (J : gr_J) (hI : gr_Inv I)   (x0 : I 0 71 = 5 ∨ I 0 73 ≤ I 0 69) (x1 : I 0 72 ≤ I 0 69) (x2 : I 0 71 = 0 ∨ (I 0 72 < I 0 73 ∧ I 0 72 < I 0 69)) (x3 : I 0 71 = 3 → 2 ≤ I 0 73 - I 0 72 ∧ I 0 73 - I 0 72 ≤ 14) (x4 : I 0 72 ≤ I 0 73) (x5 : 0 ≤ I 0 6) (x6 : I 0 59 + I 0 69 - I 0 72 ≤ 1900) (x7 : gr_ATp β N9 p9 I J) (x8 : 0 ≤ p9) (x9 : gr_KW J) (KGR_I : gr_GR I) (KST_I : gr_ST I9 I) : ∃ r hₚ, gz_Ev ws0 tb 12 (yX13_wordOf, cX13_wordOf, 7, (some .boolean)) [.inr (.inr (some 0))] (gr_sh ++ ext) (gr_h I J) r (gr_sh ++ ext) hₚ 0 0 ∧ (∃ (Iₚ : gr_I) (Jₚ : gr_J), hₚ = gr_h Iₚ Jₚ ∧ gr_Inv Iₚ ∧ gr_fr [59, 71, 72, 73, 74, 75, 76, 77, 101, 106] [18, 36, 37, 38, 39, 40, 51, 67] I Iₚ ∧ gr_fj [59, 71, 72, 73, 74, 75, 76, 77, 101, 106] [18, 36, 37, 38, 39, 40, 51, 67] J Jₚ ∧ gr_GR Iₚ ∧ gr_ST I9 Iₚ ∧ (∃ z : Int, r = some (.inl z) ∧ 0 ≤ z ∧ z ≤ 1 ∧ (Iₚ 0 71 = 5 ∨ Iₚ 0 73 ≤ Iₚ 0 69) ∧ (Iₚ 0 72 ≤ Iₚ 0 69) ∧ (Iₚ 0 71 = 0 ∨ (Iₚ 0 72 < Iₚ 0 73 ∧ Iₚ 0 72 < Iₚ 0 69)) ∧ (Iₚ 0 71 = 3 → 2 ≤ Iₚ 0 73 - Iₚ 0 72 ∧ Iₚ 0 73 - Iₚ 0 72 ≤ 14) ∧ (Iₚ 0 72 ≤ Iₚ 0 73) ∧ (Iₚ 0 69 = I 0 69) ∧ (I 0 73 ≤ Iₚ 0 73) ∧ (I 0 72 ≤ Iₚ 0 72) ∧ (Iₚ 0 59 - Iₚ 0 72 ≤ I 0 59 - I 0 72) ∧ (gr_LKs I Iₚ) ∧ (gs_Or z (0 ≤ (gs_wd β N9 I J (I 0 78) p9) ∧ gr_ATp β N9 (gs_wd β N9 I J (I 0 78) p9) Iₚ Jₚ ∧ (Iₚ 18 (Int.toNat (I 0 6)) = I 18 (Int.toNat (I 0 6)) + 1 ∧ ∀ j, ¬ j = (Int.toNat (I 0 6)) → Iₚ 18 j = I 18 j) ∧ gs_Uwd β N9 I J p9 Iₚ) ((gs_wd β N9 I J (I 0 78) p9) < 0 ∧ Iₚ 0 77 = -1 - (gs_wd β N9 I J (I 0 78) p9) ∧ gs_Swd I Iₚ)))) := by
  have FI : gr_fr [59, 71, 72, 73, 74, 75, 76, 77, 101, 106] [18, 36, 37, 38, 39, 40, 51, 67] I I := fun _ _ _ => rfl
  have FJ : gr_fj [59, 71, 72, 73, 74, 75, 76, 77, 101, 106] [18, 36, 37, 38, 39, 40, 51, 67] J J := fun _ _ _ => rfl
  have hD : gv_D (gr_E ws0 tb 11 (yX13_wordOf, cX13_wordOf, 7, (some .boolean)) kX13_wordOf) := gq_of oX13_wordOf
  refine gr_ev (d := 11) (l := kX13_wordOf) (Po := fun r hₚ => (∃ (Iₚ : gr_I) (Jₚ : gr_J), hₚ = gr_h Iₚ Jₚ ∧ gr_Inv Iₚ ∧ gr_fr [59, 71, 72, 73, 74, 75, 76, 77, 101, 106] [18, 36, 37, 38, 39, 40, 51, 67] I Iₚ ∧ gr_fj [59, 71, 72, 73, 74, 75, 76, 77, 101, 106] [18, 36, 37, 38, 39, 40, 51, 67] J Jₚ ∧ gr_GR Iₚ ∧ gr_ST I9 Iₚ ∧ (∃ z : Int, r = some (.inl z) ∧ 0 ≤ z ∧ z ≤ 1 ∧ (Iₚ 0 71 = 5 ∨ Iₚ 0 73 ≤ Iₚ 0 69) ∧ (Iₚ 0 72 ≤ Iₚ 0 69) ∧ (Iₚ 0 71 = 0 ∨ (Iₚ 0 72 < Iₚ 0 73 ∧ Iₚ 0 72 < Iₚ 0 69)) ∧ (Iₚ 0 71 = 3 → 2 ≤ Iₚ 0 73 - Iₚ 0 72 ∧ Iₚ 0 73 - Iₚ 0 72 ≤ 14) ∧ (Iₚ 0 72 ≤ Iₚ 0 73) ∧ (Iₚ 0 69 = I 0 69) ∧ (I 0 73 ≤ Iₚ 0 73) ∧ (I 0 72 ≤ Iₚ 0 72) ∧ (Iₚ 0 59 - Iₚ 0 72 ≤ I 0 59 - I 0 72) ∧ (gr_LKs I Iₚ) ∧ (gs_Or z (0 ≤ (gs_wd β N9 I J (I 0 78) p9) ∧ gr_ATp β N9 (gs_wd β N9 I J (I 0 78) p9) Iₚ Jₚ ∧ (Iₚ 18 (Int.toNat (I 0 6)) = I 18 (Int.toNat (I 0 6)) + 1 ∧ ∀ j, ¬ j = (Int.toNat (I 0 6)) → Iₚ 18 j = I 18 j) ∧ gs_Uwd β N9 I J p9 Iₚ) ((gs_wd β N9 I J (I 0 78) p9) < 0 ∧ Iₚ 0 77 = -1 - (gs_wd β N9 I J (I 0 78) p9) ∧ gs_Swd I Iₚ))))) htb rfl (Nat.le_of_ble_eq_true rfl) ?_
  have tAT := gr_ATp_l x7
  clear x0 x2 x3
  have KW := x9
  have f1 := (gr_b_0_71 hI)
  have f2 := (gr_b_0_72 hI)
  have f3 := (gr_b_0_73 hI)
  have f4 := (gr_b_0_69 hI)
  have f5 := (gr_b_0_6 hI)
  have f6 := (gr_b_0_59 hI)
  have f7 := (gr_b_0_3 hI)
  have f8 := (gr_b_0_106 hI)
  have f9 := (gr_b_0_101 hI)
  have KLK_I : gr_LKs I I := gr_LKs_rf
  have L50 : ∀ (I10 : gr_I) (J11 : gr_J) (v1_12 : Int) (v2_12 : Int) (p_12 : Int), gr_Inv I10 → gr_fr [59, 71, 72, 73, 74, 75, 76, 77, 101, 106] [18, 36, 37, 38, 39, 40, 51, 67] I I10 → gr_fj [59, 71, 72, 73, 74, 75, 76, 77, 101, 106] [18, 36, 37, 38, 39, 40, 51, 67] J J11 → gr_GR I10 → gr_ST I9 I10 → gr_LKs I I10 → ((0 ≤ v1_12 ∧ v1_12 ≤ 7) ∧ (0 ≤ v2_12 ∧ v2_12 ≤ 95) ∧ (I10 6 (Int.toNat v2_12) = 0) ∧ (v2_12 < I10 0 3) ∧ (I10 0 71 = 1) ∧ (0 ≤ p_12) ∧ (I10 0 72 ≤ I10 0 69) ∧ (I10 0 72 ≤ I10 0 73) ∧ (I10 0 69 = I 0 69) ∧ (I 0 73 ≤ I10 0 73) ∧ (I 0 72 ≤ I10 0 72) ∧ (I10 0 6 = I 0 6) ∧ (I10 0 59 - I10 0 72 ≤ I 0 59 - I 0 72)) → (gr_ATp β N9 p_12 I10 J11) → ((gs_wd β N9 I J (I 0 78) p9) = gs_wd1 β N9 I J (I 0 78) (gs_X β N9 p_12)) → (v1_12 = I 0 6) → (v2_12 = gs_lk I J 3 3 (gs_rn β N9 p9)) → (p_12 = p9) → ((∀ k, I10 18 k = I 18 k) ∧ (∀ k, I10 36 k = I 36 k) ∧ (∀ k, I10 37 k = I 37 k) ∧ (∀ k, I10 38 k = I 38 k) ∧ (∀ k, I10 39 k = I 39 k) ∧ (∀ k, I10 40 k = I 40 k)) → gv_X (gr_E ws0 tb 11 (yX13_wordOf, cX13_wordOf, 7, (some .boolean)) kX13_wordOf) (gv_Q cX13_wordOf (some .boolean) (gr_sh ++ ext) (fun r hₚ => (∃ (Iₚ : gr_I) (Jₚ : gr_J), hₚ = gr_h Iₚ Jₚ ∧ gr_Inv Iₚ ∧ gr_fr [59, 71, 72, 73, 74, 75, 76, 77, 101, 106] [18, 36, 37, 38, 39, 40, 51, 67] I Iₚ ∧ gr_fj [59, 71, 72, 73, 74, 75, 76, 77, 101, 106] [18, 36, 37, 38, 39, 40, 51, 67] J Jₚ ∧ gr_GR Iₚ ∧ gr_ST I9 Iₚ ∧ (∃ z : Int, r = some (.inl z) ∧ 0 ≤ z ∧ z ≤ 1 ∧ (Iₚ 0 71 = 5 ∨ Iₚ 0 73 ≤ Iₚ 0 69) ∧ (Iₚ 0 72 ≤ Iₚ 0 69) ∧ (Iₚ 0 71 = 0 ∨ (Iₚ 0 72 < Iₚ 0 73 ∧ Iₚ 0 72 < Iₚ 0 69)) ∧ (Iₚ 0 71 = 3 → 2 ≤ Iₚ 0 73 - Iₚ 0 72 ∧ Iₚ 0 73 - Iₚ 0 72 ≤ 14) ∧ (Iₚ 0 72 ≤ Iₚ 0 73) ∧ (Iₚ 0 69 = I 0 69) ∧ (I 0 73 ≤ Iₚ 0 73) ∧ (I 0 72 ≤ Iₚ 0 72) ∧ (Iₚ 0 59 - Iₚ 0 72 ≤ I 0 59 - I 0 72) ∧ (gr_LKs I Iₚ) ∧ (gs_Or z (0 ≤ (gs_wd β N9 I J (I 0 78) p9) ∧ gr_ATp β N9 (gs_wd β N9 I J (I 0 78) p9) Iₚ Jₚ ∧ (Iₚ 18 (Int.toNat (I 0 6)) = I 18 (Int.toNat (I 0 6)) + 1 ∧ ∀ j, ¬ j = (Int.toNat (I 0 6)) → Iₚ 18 j = I 18 j) ∧ gs_Uwd β N9 I J p9 Iₚ) ((gs_wd β N9 I J (I 0 78) p9) < 0 ∧ Iₚ 0 77 = -1 - (gs_wd β N9 I J (I 0 78) p9) ∧ gs_Swd I Iₚ)))))) (50, [(0, .inr (.inr (some 0))), (1, .inl v1_12), (2, .inl v2_12)], [], gr_sh ++ ext, gr_h I10 J11) := by
    intro I10 J11 v1_12 v2_12 p_12 hI10 FI10 FJ11 KGR_I10 KST_I10 KLK_I10 m_12 e4_12 e5_12 e6_12 e7_12 e8_12 e9_12
    obtain ⟨hv1_12, hv2_12, e0_12, e1_12, e2_12, e3_12, e10_12, e11_12, e12_12, e13_12, e14_12, e15_12, e16_12⟩ := m_12
    have q9_12 := e6_12
    subst q9_12
    have f13 := (gr_b_0_71 hI10)
    have f14 := (gr_b_0_72 hI10)
    have f15 := (gr_b_0_73 hI10)
    have f16 := (gr_b_0_69 hI10)
    have f17 := (gr_b_0_6 hI10)
    have f18 := (gr_b_0_59 hI10)
    have f19 := (gr_b_0_3 hI10)
    have f20 := (gr_b_0_106 hI10)
    have f21 := (gr_b_0_101 hI10)
    have t22 := gr_ATp_l e4_12
    have L95 : ∀ (I23 : gr_I) (J24 : gr_J) (v3_25 : Int) (p_25 : Int), gr_Inv I23 → gr_fr [59, 71, 72, 73, 74, 75, 76, 77, 101, 106] [18, 36, 37, 38, 39, 40, 51, 67] I I23 → gr_fj [59, 71, 72, 73, 74, 75, 76, 77, 101, 106] [18, 36, 37, 38, 39, 40, 51, 67] J J24 → gr_GR I23 → gr_ST I9 I23 → gr_LKs I I23 → ((0 ≤ (I 0 6) ∧ (I 0 6) ≤ 7) ∧ (0 ≤ v2_12 ∧ v2_12 ≤ 95) ∧ (0 ≤ v3_25 ∧ v3_25 ≤ 23) ∧ (I23 6 (Int.toNat v2_12) = 0) ∧ (v2_12 < I23 0 3) ∧ (I23 0 71 = 1) ∧ (v3_25 < I 17 (Int.toNat (I 0 6))) ∧ (0 ≤ p_25) ∧ (I23 0 72 ≤ I23 0 69) ∧ (I23 0 72 ≤ I23 0 73) ∧ (I23 0 69 = I 0 69) ∧ (I 0 73 ≤ I23 0 73) ∧ (I 0 72 ≤ I23 0 72) ∧ (I23 0 6 = I 0 6) ∧ (I23 0 59 - I23 0 72 ≤ I 0 59 - I 0 72)) → (gr_ATp β N9 p_25 I23 J24) → ((gs_wd β N9 I J (I 0 78) p9) = gs_wd2 β N9 I J (I 0 78) (gs_X β N9 p_25)) → (v2_12 = gs_lk I J 3 3 (gs_rn β N9 p9)) → (v3_25 = gs_wpt β N9 I J p9) → (p_25 = gs_X β N9 p9) → ((∀ k, I23 18 k = I 18 k) ∧ (∀ k, I23 36 k = I 36 k) ∧ (∀ k, I23 37 k = I 37 k) ∧ (∀ k, I23 38 k = I 38 k) ∧ (∀ k, I23 39 k = I 39 k) ∧ (∀ k, I23 40 k = I 40 k)) → gv_X (gr_E ws0 tb 11 (yX13_wordOf, cX13_wordOf, 7, (some .boolean)) kX13_wordOf) (gv_Q cX13_wordOf (some .boolean) (gr_sh ++ ext) (fun r hₚ => (∃ (Iₚ : gr_I) (Jₚ : gr_J), hₚ = gr_h Iₚ Jₚ ∧ gr_Inv Iₚ ∧ gr_fr [59, 71, 72, 73, 74, 75, 76, 77, 101, 106] [18, 36, 37, 38, 39, 40, 51, 67] I Iₚ ∧ gr_fj [59, 71, 72, 73, 74, 75, 76, 77, 101, 106] [18, 36, 37, 38, 39, 40, 51, 67] J Jₚ ∧ gr_GR Iₚ ∧ gr_ST I9 Iₚ ∧ (∃ z : Int, r = some (.inl z) ∧ 0 ≤ z ∧ z ≤ 1 ∧ (Iₚ 0 71 = 5 ∨ Iₚ 0 73 ≤ Iₚ 0 69) ∧ (Iₚ 0 72 ≤ Iₚ 0 69) ∧ (Iₚ 0 71 = 0 ∨ (Iₚ 0 72 < Iₚ 0 73 ∧ Iₚ 0 72 < Iₚ 0 69)) ∧ (Iₚ 0 71 = 3 → 2 ≤ Iₚ 0 73 - Iₚ 0 72 ∧ Iₚ 0 73 - Iₚ 0 72 ≤ 14) ∧ (Iₚ 0 72 ≤ Iₚ 0 73) ∧ (Iₚ 0 69 = I 0 69) ∧ (I 0 73 ≤ Iₚ 0 73) ∧ (I 0 72 ≤ Iₚ 0 72) ∧ (Iₚ 0 59 - Iₚ 0 72 ≤ I 0 59 - I 0 72) ∧ (gr_LKs I Iₚ) ∧ (gs_Or z (0 ≤ (gs_wd β N9 I J (I 0 78) p9) ∧ gr_ATp β N9 (gs_wd β N9 I J (I 0 78) p9) Iₚ Jₚ ∧ (Iₚ 18 (Int.toNat (I 0 6)) = I 18 (Int.toNat (I 0 6)) + 1 ∧ ∀ j, ¬ j = (Int.toNat (I 0 6)) → Iₚ 18 j = I 18 j) ∧ gs_Uwd β N9 I J p9 Iₚ) ((gs_wd β N9 I J (I 0 78) p9) < 0 ∧ Iₚ 0 77 = -1 - (gs_wd β N9 I J (I 0 78) p9) ∧ gs_Swd I Iₚ)))))) (95, [(0, .inr (.inr (some 0))), (1, .inl (I 0 6)), (2, .inl v2_12), (3, .inl v3_25)], [], gr_sh ++ ext, gr_h I23 J24) := r_wordOf_p_L95 (ws0 := ws0) (tb := tb) hws htb ext I9 β N9 p9 I J hI x1 x4 x5 x6 x7 x8 x9 KGR_I KST_I v2_12
    refine gv_run 1 true hD (pcₚ := 51) (lvₚ := [(0, .inr (.inr (some 0))), (1, .inl (I 0 6)), (2, .inl v2_12)]) (stₚ := [.inr (.inr (some 0))]) (hₚ := gr_h I10 J11) (C := (True ∧ True)) rfl ⟨trivial, trivial⟩ ?_
    obtain ⟨r666, h666, E666, P666⟩ := r_next_p (ws0 := ws0) (tb := tb) hws htb ext β N9 I10 J11 hI10   ((gr_ATp_rr e4_12).1.resolve_left (by exact gz_m 369 (by omega))) e4_12.1.1 e4_12.1.2
    obtain ⟨I667, J668, rfl, hI667, g666, k666, ⟨rfl, q666⟩⟩ := P666
    have FI667 := gr_frt FI10 g666 rfl rfl
    have FJ668 := gr_fjt FJ11 k666 rfl rfl
    have t669 := g666 0 69 rfl
    have t670 := g666 0 6 rfl
    have t671 := g666 0 59 rfl
    have t672 := g666 0 3 rfl
    have t673 := g666 0 106 rfl
    have t674 := g666 0 101 rfl
    have t675 := g666 18 (Int.toNat ((I 0 6))) rfl
    have t676 := g666 6 (Int.toNat v2_12) rfl
    have f677 := (gr_b_0_71 hI667)
    have f678 := (gr_b_0_72 hI667)
    have f679 := (gr_b_0_73 hI667)
    have f680 := (gr_b_0_69 hI667)
    have f681 := (gr_b_0_6 hI667)
    have f682 := (gr_b_0_59 hI667)
    have f683 := (gr_b_0_3 hI667)
    have f684 := (gr_b_0_106 hI667)
    have f685 := (gr_b_0_101 hI667)
    have KGR_I667 := gr_GR_fr KGR_I10 (fun k => g666 19 k rfl) (fun k => g666 18 k rfl) (fun k => g666 36 k rfl) (fun k => g666 41 k rfl) (fun k => g666 42 k rfl) (fun k => g666 43 k rfl) (fun k => g666 45 k rfl) (fun k => g666 46 k rfl) (fun k => g666 47 k rfl) (fun k => g666 6 k rfl) (fun k => g666 7 k rfl) (fun k => g666 8 k rfl) (g666 0 3 rfl)
    have KST_I667 := gr_ST_fr KST_I10 (fun k => g666 6 k rfl) (fun k => g666 19 k rfl) (fun k => g666 18 k rfl) (fun k => g666 41 k rfl) (fun k => g666 36 k rfl) (g666 0 3 rfl)
    have KLK_I667 := gr_LKs_fr KLK_I10 (fun k => g666 51 k rfl) (g666 0 59 rfl)
    have t686 := (gr_ATp_rr e4_12).2.2.1.resolve_left (by exact gz_m 370 (by omega))
    have A687 := gr_ATp_nx e4_12 q666.2.2.2.2.2
    have t688 := gr_ATp_l A687
    obtain ⟨_, _, -, -, -, -⟩ := q666
    refine gv_callV hD rfl (As := []) (st := []) rfl (by decide) rfl rfl (gr_lV hws rfl) (Nat.le_of_ble_eq_true rfl) (gz_Ev_mono (d := 10) (by decide) E666) ?_
    show gv_X _ _ (54, [(0, .inr (.inr (some 0))), (1, .inl (I 0 6)), (2, .inl v2_12)], [], gr_sh ++ ext, gr_h I667 J668)
    refine gv_run 1 true hD (pcₚ := 55) (lvₚ := [(0, .inr (.inr (some 0))), (1, .inl (I 0 6)), (2, .inl v2_12)]) (stₚ := [.inr (.inr (some 0))]) (hₚ := gr_h I667 J668) (C := (True ∧ True)) rfl ⟨trivial, trivial⟩ ?_
    obtain ⟨r689, h689, E689, P689⟩ := r_name_p (ws0 := ws0) (tb := tb) hws htb ext β N9 (gs_X β N9 p_12) I667 J668 hI667   A687 (by exact gz_m 371 (by omega))
    obtain ⟨I690, J691, rfl, hI690, g689, k689, ⟨z689, rfl, q689⟩⟩ := P689
    have FI690 := gr_frt FI667 g689 rfl rfl
    have FJ691 := gr_fjt FJ668 k689 rfl rfl
    have t692 := g689 0 71 rfl
    have t693 := g689 0 72 rfl
    have t694 := g689 0 73 rfl
    have t695 := g689 0 69 rfl
    have t696 := g689 0 6 rfl
    have t697 := g689 0 59 rfl
    have t698 := g689 0 3 rfl
    have t699 := g689 0 106 rfl
    have t700 := g689 0 101 rfl
    have t701 := g689 18 (Int.toNat ((I 0 6))) rfl
    have t702 := g689 6 (Int.toNat v2_12) rfl
    have f703 := (gr_b_0_71 hI690)
    have f704 := (gr_b_0_72 hI690)
    have f705 := (gr_b_0_73 hI690)
    have f706 := (gr_b_0_69 hI690)
    have f707 := (gr_b_0_6 hI690)
    have f708 := (gr_b_0_59 hI690)
    have f709 := (gr_b_0_3 hI690)
    have f710 := (gr_b_0_106 hI690)
    have f711 := (gr_b_0_101 hI690)
    have KGR_I690 := gr_GR_fr KGR_I667 (fun k => g689 19 k rfl) (fun k => g689 18 k rfl) (fun k => g689 36 k rfl) (fun k => g689 41 k rfl) (fun k => g689 42 k rfl) (fun k => g689 43 k rfl) (fun k => g689 45 k rfl) (fun k => g689 46 k rfl) (fun k => g689 47 k rfl) (fun k => g689 6 k rfl) (fun k => g689 7 k rfl) (fun k => g689 8 k rfl) (g689 0 3 rfl)
    have KST_I690 := gr_ST_fr KST_I667 (fun k => g689 6 k rfl) (fun k => g689 19 k rfl) (fun k => g689 18 k rfl) (fun k => g689 41 k rfl) (fun k => g689 36 k rfl) (g689 0 3 rfl)
    have KLK_I690 := gr_LKs_fr KLK_I667 (fun k => g689 51 k rfl) (g689 0 59 rfl)
    have V689 := gs_or_mk q689.2.2.2
    have A712 := gr_ATp_F A687 g689 k689 rfl
    have t713 := gr_ATp_l A712
    obtain ⟨_, _, o689, -⟩ := q689
    refine gv_callV hD rfl (As := []) (st := []) rfl (by decide) rfl rfl (gr_lV hws rfl) (Nat.le_of_ble_eq_true rfl) (gz_Ev_mono (d := 3) (by decide) E689) ?_
    show gv_X _ _ (58, [(0, .inr (.inr (some 0))), (1, .inl (I 0 6)), (2, .inl v2_12)], [.inl z689], gr_sh ++ ext, gr_h I690 J691)
    refine gv_if_ne (t := 63) hD rfl rfl ⟨by exact gz_m 372 (by omega), by exact gz_m 373 (by omega)⟩ (fun c714 => ?_) (fun c714 => ?_)
    · have u715 := gs_or1 V689 (by exact gz_m 374 (by omega))
      have t716 := o689.resolve_left (by exact gz_m 375 (by omega))
      have t717 := (gr_ATp_rr A712).2.2.1.resolve_left (by exact gz_m 376 (by omega))
      clear o689 V689
      refine gv_run 7 true hD (pcₚ := 75) (lvₚ := [(0, .inr (.inr (some 0))), (1, .inl (I 0 6)), (2, .inl v2_12)]) (stₚ := [.inr (.inr (some 17)), .inl (24 * (I 0 6)), .inr (.inr (some 23))]) (hₚ := gr_h I690 J691) (C := (((((((True ∧ True) ∧ True) ∧ True) ∧ True) ∧ True) ∧ True) ∧ True)) rfl ⟨⟨⟨⟨⟨⟨⟨trivial, trivial⟩, trivial⟩, trivial⟩, trivial⟩, trivial⟩, trivial⟩, trivial⟩ ?_
      have f718 := (gr_b_17 hI690 (Int.toNat ((I 0 6))))
      refine gv_run 2 true hD (pcₚ := 77) (lvₚ := [(0, .inr (.inr (some 0))), (1, .inl (I 0 6)), (2, .inl v2_12)]) (stₚ := [.inl (I690 17 (Int.toNat ((I 0 6)))), .inl (24 * (I 0 6)), .inr (.inr (some 23))]) (hₚ := gr_h I690 J691) (C := ((True ∧ True) ∧ (0 ≤ (I 0 6) ∧ (I 0 6) < ((8 : Nat) : Int)))) rfl ⟨⟨trivial, trivial⟩, ⟨by exact gz_m 377 (by omega), by exact gz_m 378 (by omega)⟩⟩ ?_
      refine gv_run 2 true hD (pcₚ := 81) (lvₚ := [(0, .inr (.inr (some 0))), (1, .inl (I 0 6)), (2, .inl v2_12)]) (stₚ := [.inr (.inl (J691 0 75)), .inl (I690 17 (Int.toNat ((I 0 6)))), .inl (24 * (I 0 6)), .inr (.inr (some 23))]) (hₚ := gr_h I690 J691) (C := ((True ∧ True) ∧ True)) rfl ⟨⟨trivial, trivial⟩, trivial⟩ ?_
      obtain ⟨r719, h719, E719, P719⟩ := r_find_23_p (ws0 := ws0) (tb := tb) hws htb ext I690 J691 hI690 ((24 * (I 0 6))) ((I690 17 (Int.toNat ((I 0 6))))) (J691 0 75) ⟨by exact gz_m 379 (by omega), by exact gz_m 380 (by omega)⟩ ⟨by exact gz_m 381 (by omega), by exact gz_m 382 (by omega)⟩ (by exact gz_m 383 (by omega))
      obtain ⟨rfl, ⟨z719, rfl, q719⟩⟩ := P719
      have t720 := q719.2.2.2.trans (gs_lt_eq (J := J) (row := 23) (o := 24 * I 0 6) (n := I 17 (Int.toNat (I 0 6))) (w := gs_rn β N9 (gs_X β N9 p_12)) (fun k => (FJ691 23 k rfl)) (by exact gz_m 384 (by omega)) (by first | exact (FI690 17 _ rfl) | (rw [show ((I 0 6)) = I 0 6 from by exact gz_m 385 (by omega)]; exact (FI690 17 _ rfl))) (gr_ATp_w A712))
      refine gv_callS hD rfl (As := [.inr (.inr (some 23)), .inl (24 * (I 0 6)), .inl (I690 17 (Int.toNat ((I 0 6)))), .inr (.inl (J691 0 75))]) (st := []) rfl (gr_lS hws rfl) (Nat.le_of_ble_eq_true rfl) (gz_Ev_mono (d := 1) (by decide) E719) ?_
      show gv_X _ _ (84, [(0, .inr (.inr (some 0))), (1, .inl (I 0 6)), (2, .inl v2_12)], [.inl z719], gr_sh ++ ext, gr_h I690 J691)
      refine gv_run 2 true hD (pcₚ := 86) (lvₚ := [(3, .inl z719), (0, .inr (.inr (some 0))), (1, .inl (I 0 6)), (2, .inl v2_12)]) (stₚ := [.inl z719]) (hₚ := gr_h I690 J691) (C := ((True ∧ True) ∧ True)) rfl ⟨⟨trivial, trivial⟩, trivial⟩ ?_
      have t721 := (show I690 17 (Int.toNat (I 0 6)) = I 17 (Int.toNat (I 0 6)) from (FI690 17 _ rfl))
      refine gv_if_ge (t := 95) hD rfl rfl ⟨by exact gz_m 386 (by omega), by exact gz_m 387 (by omega)⟩ (fun c722 => ?_) (fun c722 => ?_)
      · refine gv_pick [1, 2, 3, 0] rfl ?_
        exact L95 I690 J691 z719 (gs_X β N9 p_12) hI690 FI690 FJ691 KGR_I690 KST_I690 KLK_I690 (by exact gz_m 388 (by omega)) A712 (by rw [e5_12]; unfold gs_wd1; (repeat first | rw [if_pos (by exact gz_m 389 (by omega))] | rw [if_neg (by exact gz_m 390 (by omega))])) e7_12 (by have h8 := e8_12; unfold gs_wpt; rw [← h8]; exact gz_m 391 (by omega)) (by rw [e8_12]) ⟨(fun k => (((g689 18 k rfl).trans (g666 18 k rfl)).trans (e9_12.1 k))), (fun k => (((g689 36 k rfl).trans (g666 36 k rfl)).trans (e9_12.2.1 k))), (fun k => (((g689 37 k rfl).trans (g666 37 k rfl)).trans (e9_12.2.2.1 k))), (fun k => (((g689 38 k rfl).trans (g666 38 k rfl)).trans (e9_12.2.2.2.1 k))), (fun k => (((g689 39 k rfl).trans (g666 39 k rfl)).trans (e9_12.2.2.2.2.1 k))), (fun k => (((g689 40 k rfl).trans (g666 40 k rfl)).trans (e9_12.2.2.2.2.2 k)))⟩
      · refine gv_run 2 true hD (pcₚ := 91) (lvₚ := [(3, .inl z719), (0, .inr (.inr (some 0))), (1, .inl (I 0 6)), (2, .inl v2_12)]) (stₚ := [.inl 5, .inr (.inr (some 0))]) (hₚ := gr_h I690 J691) (C := ((True ∧ True) ∧ True)) rfl ⟨⟨trivial, trivial⟩, trivial⟩ ?_
        obtain ⟨r723, h723, E723, P723⟩ := r_no__p (ws0 := ws0) (tb := tb) hws htb ext β N9 (gs_X β N9 p_12) I690 J691 hI690 5 ⟨by exact gz_m 392 (by omega), by exact gz_m 393 (by omega)⟩ A712 (by exact gz_m 394 (by omega))
        obtain ⟨I724, J725, rfl, hI724, g723, k723, ⟨z723, rfl, q723⟩⟩ := P723
        have FI724 := gr_frt FI690 g723 rfl rfl
        have FJ725 := gr_fjt FJ691 k723 rfl rfl
        have t726 := g723 0 71 rfl
        have t727 := g723 0 72 rfl
        have t728 := g723 0 73 rfl
        have t729 := g723 0 69 rfl
        have t730 := g723 0 6 rfl
        have t731 := g723 0 59 rfl
        have t732 := g723 0 3 rfl
        have t733 := g723 0 106 rfl
        have t734 := g723 0 101 rfl
        have t735 := g723 18 (Int.toNat ((I 0 6))) rfl
        have t736 := g723 6 (Int.toNat v2_12) rfl
        have f737 := (gr_b_0_71 hI724)
        have f738 := (gr_b_0_72 hI724)
        have f739 := (gr_b_0_73 hI724)
        have f740 := (gr_b_0_69 hI724)
        have f741 := (gr_b_0_6 hI724)
        have f742 := (gr_b_0_59 hI724)
        have f743 := (gr_b_0_3 hI724)
        have f744 := (gr_b_0_106 hI724)
        have f745 := (gr_b_0_101 hI724)
        have KGR_I724 := gr_GR_fr KGR_I690 (fun k => g723 19 k rfl) (fun k => g723 18 k rfl) (fun k => g723 36 k rfl) (fun k => g723 41 k rfl) (fun k => g723 42 k rfl) (fun k => g723 43 k rfl) (fun k => g723 45 k rfl) (fun k => g723 46 k rfl) (fun k => g723 47 k rfl) (fun k => g723 6 k rfl) (fun k => g723 7 k rfl) (fun k => g723 8 k rfl) (g723 0 3 rfl)
        have KST_I724 := gr_ST_fr KST_I690 (fun k => g723 6 k rfl) (fun k => g723 19 k rfl) (fun k => g723 18 k rfl) (fun k => g723 41 k rfl) (fun k => g723 36 k rfl) (g723 0 3 rfl)
        have KLK_I724 := gr_LKs_fr KLK_I690 (fun k => g723 51 k rfl) (g723 0 59 rfl)
        have A746 := gr_ATp_F A712 g723 k723 rfl
        have t747 := gr_ATp_l A746
        refine gv_callV hD rfl (As := [.inl 5]) (st := []) rfl (by decide) rfl rfl (gr_lV hws rfl) (Nat.le_of_ble_eq_true rfl) (gz_Ev_mono (d := 2) (by decide) E723) ?_
        show gv_X _ _ (94, [(3, .inl z719), (0, .inr (.inr (some 0))), (1, .inl (I 0 6)), (2, .inl v2_12)], [.inl z723], gr_sh ++ ext, gr_h I724 J725)
        have b748 : (I724 0 69 = I 0 69) ∧ (I 0 73 ≤ I724 0 73) ∧ (I 0 72 ≤ I724 0 72) ∧ (I724 0 59 - I724 0 72 ≤ I 0 59 - I 0 72) := by exact gz_m 395 (by omega)
        exact gv_zret hD rfl (by exact gz_m 396 (by omega)) ⟨I724, J725, rfl, hI724, FI724, FJ725, KGR_I724, KST_I724, ⟨_, rfl, by exact gz_m 397 (by omega), by exact gz_m 398 (by omega), (gr_ATp_rr A746).1, (gr_ATp_rr A746).2.1, (gr_ATp_rr A746).2.2.1, (gr_ATp_rr A746).2.2.2.1, (gr_ATp_rr A746).2.2.2.2, b748.1, b748.2.1, b748.2.2.1, b748.2.2.2, KLK_I724, (Or.inr ⟨by exact gz_m 399 (by omega), by first | (exfalso; exact gz_m 400 (by omega)) | (rw [e5_12]; unfold gs_wd1; (repeat first | rw [if_pos (by exact gz_m 401 (by omega))] | rw [if_neg (by exact gz_m 402 (by omega))]); exact ⟨by exact gz_m 403 (by omega), by exact gz_m 404 (by omega), (fun j => ⟨((((g723 18 j rfl).trans (g689 18 j rfl)).trans (g666 18 j rfl)).trans (e9_12.1 j)), ((((g723 36 j rfl).trans (g689 36 j rfl)).trans (g666 36 j rfl)).trans (e9_12.2.1 j)), ((((g723 37 j rfl).trans (g689 37 j rfl)).trans (g666 37 j rfl)).trans (e9_12.2.2.1 j)), ((((g723 38 j rfl).trans (g689 38 j rfl)).trans (g666 38 j rfl)).trans (e9_12.2.2.2.1 j)), ((((g723 39 j rfl).trans (g689 39 j rfl)).trans (g666 39 j rfl)).trans (e9_12.2.2.2.2.1 j)), ((((g723 40 j rfl).trans (g689 40 j rfl)).trans (g666 40 j rfl)).trans (e9_12.2.2.2.2.2 j))⟩)⟩)⟩)⟩⟩
    · have u749 := gs_or0 V689 (by exact gz_m 405 (by omega))
      clear o689 V689
      refine gv_run 1 true hD (pcₚ := 62) (lvₚ := [(0, .inr (.inr (some 0))), (1, .inl (I 0 6)), (2, .inl v2_12)]) (stₚ := [.inl 0]) (hₚ := gr_h I690 J691) (C := (True ∧ True)) rfl ⟨trivial, trivial⟩ ?_
      have b750 : (I690 0 69 = I 0 69) ∧ (I 0 73 ≤ I690 0 73) ∧ (I 0 72 ≤ I690 0 72) ∧ (I690 0 59 - I690 0 72 ≤ I 0 59 - I 0 72) := by exact gz_m 406 (by omega)
      exact gv_zret hD rfl (by exact gz_m 407 (by omega)) ⟨I690, J691, rfl, hI690, FI690, FJ691, KGR_I690, KST_I690, ⟨_, rfl, by exact gz_m 408 (by omega), by exact gz_m 409 (by omega), (gr_ATp_rr A712).1, (gr_ATp_rr A712).2.1, (gr_ATp_rr A712).2.2.1, (gr_ATp_rr A712).2.2.2.1, (gr_ATp_rr A712).2.2.2.2, b750.1, b750.2.1, b750.2.2.1, b750.2.2.2, KLK_I690, (Or.inr ⟨by exact gz_m 410 (by omega), by first | (exfalso; exact gz_m 411 (by omega)) | (rw [e5_12]; unfold gs_wd1; (repeat first | rw [if_pos (by exact gz_m 412 (by omega))] | rw [if_neg (by exact gz_m 413 (by omega))]); exact ⟨by exact gz_m 414 (by omega), by exact gz_m 415 (by omega), (fun j => ⟨(((g689 18 j rfl).trans (g666 18 j rfl)).trans (e9_12.1 j)), (((g689 36 j rfl).trans (g666 36 j rfl)).trans (e9_12.2.1 j)), (((g689 37 j rfl).trans (g666 37 j rfl)).trans (e9_12.2.2.1 j)), (((g689 38 j rfl).trans (g666 38 j rfl)).trans (e9_12.2.2.2.1 j)), (((g689 39 j rfl).trans (g666 39 j rfl)).trans (e9_12.2.2.2.2.1 j)), (((g689 40 j rfl).trans (g666 40 j rfl)).trans (e9_12.2.2.2.2.2 j))⟩)⟩)⟩)⟩⟩
  have f751 := (gr_b_0_6 hI)
  refine gv_run 4 true hD (pcₚ := 6) (lvₚ := [(1, .inl (I 0 6)), (0, .inr (.inr (some 0)))]) (stₚ := [.inr (.inr (some 0))]) (hₚ := gr_h I J) (C := ((((True ∧ True) ∧ True) ∧ True) ∧ True)) rfl ⟨⟨⟨⟨trivial, trivial⟩, trivial⟩, trivial⟩, trivial⟩ ?_
  obtain ⟨r752, h752, E752, P752⟩ := r_name_p (ws0 := ws0) (tb := tb) hws htb ext β N9 p9 I J hI   x7 (by exact gz_m 416 (by omega))
  obtain ⟨I753, J754, rfl, hI753, g752, k752, ⟨z752, rfl, q752⟩⟩ := P752
  have FI753 := gr_frt FI g752 rfl rfl
  have FJ754 := gr_fjt FJ k752 rfl rfl
  have t755 := g752 0 71 rfl
  have t756 := g752 0 72 rfl
  have t757 := g752 0 73 rfl
  have t758 := g752 0 69 rfl
  have t759 := g752 0 6 rfl
  have t760 := g752 0 59 rfl
  have t761 := g752 0 3 rfl
  have t762 := g752 0 106 rfl
  have t763 := g752 0 101 rfl
  have t764 := g752 18 (Int.toNat ((I 0 6))) rfl
  have f765 := (gr_b_0_71 hI753)
  have f766 := (gr_b_0_72 hI753)
  have f767 := (gr_b_0_73 hI753)
  have f768 := (gr_b_0_69 hI753)
  have f769 := (gr_b_0_6 hI753)
  have f770 := (gr_b_0_59 hI753)
  have f771 := (gr_b_0_3 hI753)
  have f772 := (gr_b_0_106 hI753)
  have f773 := (gr_b_0_101 hI753)
  have KGR_I753 := gr_GR_fr KGR_I (fun k => g752 19 k rfl) (fun k => g752 18 k rfl) (fun k => g752 36 k rfl) (fun k => g752 41 k rfl) (fun k => g752 42 k rfl) (fun k => g752 43 k rfl) (fun k => g752 45 k rfl) (fun k => g752 46 k rfl) (fun k => g752 47 k rfl) (fun k => g752 6 k rfl) (fun k => g752 7 k rfl) (fun k => g752 8 k rfl) (g752 0 3 rfl)
  have KST_I753 := gr_ST_fr KST_I (fun k => g752 6 k rfl) (fun k => g752 19 k rfl) (fun k => g752 18 k rfl) (fun k => g752 41 k rfl) (fun k => g752 36 k rfl) (g752 0 3 rfl)
  have KLK_I753 := gr_LKs_fr KLK_I (fun k => g752 51 k rfl) (g752 0 59 rfl)
  have V752 := gs_or_mk q752.2.2.2
  have A774 := gr_ATp_F x7 g752 k752 rfl
  have t775 := gr_ATp_l A774
  obtain ⟨_, _, o752, -⟩ := q752
  refine gv_callV hD rfl (As := []) (st := []) rfl (by decide) rfl rfl (gr_lV hws rfl) (Nat.le_of_ble_eq_true rfl) (gz_Ev_mono (d := 3) (by decide) E752) ?_
  show gv_X _ _ (9, [(1, .inl (I 0 6)), (0, .inr (.inr (some 0)))], [.inl z752], gr_sh ++ ext, gr_h I753 J754)
  refine gv_if_ne (t := 14) hD rfl rfl ⟨by exact gz_m 417 (by omega), by exact gz_m 418 (by omega)⟩ (fun c776 => ?_) (fun c776 => ?_)
  · have u777 := gs_or1 V752 (by exact gz_m 419 (by omega))
    have t778 := o752.resolve_left (by exact gz_m 420 (by omega))
    have t779 := (gr_ATp_rr A774).2.2.1.resolve_left (by exact gz_m 421 (by omega))
    clear o752 V752
    have f780 := (gr_b_0_3 hI753)
    refine gv_run 7 true hD (pcₚ := 27) (lvₚ := [(1, .inl (I 0 6)), (0, .inr (.inr (some 0)))]) (stₚ := [.inr (.inl (J754 0 75)), .inl (I753 0 3), .inl 0, .inr (.inr (some 3))]) (hₚ := gr_h I753 J754) (C := (((((((True ∧ True) ∧ True) ∧ True) ∧ True) ∧ True) ∧ True) ∧ True)) rfl ⟨⟨⟨⟨⟨⟨⟨trivial, trivial⟩, trivial⟩, trivial⟩, trivial⟩, trivial⟩, trivial⟩, trivial⟩ ?_
    obtain ⟨r781, h781, E781, P781⟩ := r_find_3_p (ws0 := ws0) (tb := tb) hws htb ext I753 J754 hI753 0 (I753 0 3) (J754 0 75) ⟨by exact gz_m 422 (by omega), by exact gz_m 423 (by omega)⟩ ⟨by exact gz_m 424 (by omega), by exact gz_m 425 (by omega)⟩ (by exact gz_m 426 (by omega))
    obtain ⟨rfl, ⟨z781, rfl, q781⟩⟩ := P781
    have t782 := q781.2.2.2.trans (gs_lk_eq (I := I) (J := J) (w := gs_rn β N9 p9) (fun k => (FJ754 3 k rfl)) (FI753 0 3 rfl) (gr_ATp_w A774))
    refine gv_callS hD rfl (As := [.inr (.inr (some 3)), .inl 0, .inl (I753 0 3), .inr (.inl (J754 0 75))]) (st := []) rfl (gr_lS hws rfl) (Nat.le_of_ble_eq_true rfl) (gz_Ev_mono (d := 1) (by decide) E781) ?_
    show gv_X _ _ (30, [(1, .inl (I 0 6)), (0, .inr (.inr (some 0)))], [.inl z781], gr_sh ++ ext, gr_h I753 J754)
    refine gv_run 2 true hD (pcₚ := 32) (lvₚ := [(2, .inl z781), (1, .inl (I 0 6)), (0, .inr (.inr (some 0)))]) (stₚ := [.inl z781]) (hₚ := gr_h I753 J754) (C := ((True ∧ True) ∧ True)) rfl ⟨⟨trivial, trivial⟩, trivial⟩ ?_
    refine gv_if_lt (t := 44) hD rfl rfl ⟨by exact gz_m 427 (by omega), by exact gz_m 428 (by omega)⟩ (fun c783 => ?_) (fun c783 => ?_)
    · refine gv_run 2 true hD (pcₚ := 46) (lvₚ := [(2, .inl z781), (1, .inl (I 0 6)), (0, .inr (.inr (some 0)))]) (stₚ := [.inl 5, .inr (.inr (some 0))]) (hₚ := gr_h I753 J754) (C := ((True ∧ True) ∧ True)) rfl ⟨⟨trivial, trivial⟩, trivial⟩ ?_
      obtain ⟨r784, h784, E784, P784⟩ := r_no__p (ws0 := ws0) (tb := tb) hws htb ext β N9 p9 I753 J754 hI753 5 ⟨by exact gz_m 429 (by omega), by exact gz_m 430 (by omega)⟩ A774 (by exact gz_m 431 (by omega))
      obtain ⟨I785, J786, rfl, hI785, g784, k784, ⟨z784, rfl, q784⟩⟩ := P784
      have FI785 := gr_frt FI753 g784 rfl rfl
      have FJ786 := gr_fjt FJ754 k784 rfl rfl
      have t787 := g784 0 71 rfl
      have t788 := g784 0 72 rfl
      have t789 := g784 0 73 rfl
      have t790 := g784 0 69 rfl
      have t791 := g784 0 6 rfl
      have t792 := g784 0 59 rfl
      have t793 := g784 0 3 rfl
      have t794 := g784 0 106 rfl
      have t795 := g784 0 101 rfl
      have t796 := g784 18 (Int.toNat ((I 0 6))) rfl
      have t797 := g784 6 (Int.toNat z781) rfl
      have f798 := (gr_b_0_71 hI785)
      have f799 := (gr_b_0_72 hI785)
      have f800 := (gr_b_0_73 hI785)
      have f801 := (gr_b_0_69 hI785)
      have f802 := (gr_b_0_6 hI785)
      have f803 := (gr_b_0_59 hI785)
      have f804 := (gr_b_0_3 hI785)
      have f805 := (gr_b_0_106 hI785)
      have f806 := (gr_b_0_101 hI785)
      have KGR_I785 := gr_GR_fr KGR_I753 (fun k => g784 19 k rfl) (fun k => g784 18 k rfl) (fun k => g784 36 k rfl) (fun k => g784 41 k rfl) (fun k => g784 42 k rfl) (fun k => g784 43 k rfl) (fun k => g784 45 k rfl) (fun k => g784 46 k rfl) (fun k => g784 47 k rfl) (fun k => g784 6 k rfl) (fun k => g784 7 k rfl) (fun k => g784 8 k rfl) (g784 0 3 rfl)
      have KST_I785 := gr_ST_fr KST_I753 (fun k => g784 6 k rfl) (fun k => g784 19 k rfl) (fun k => g784 18 k rfl) (fun k => g784 41 k rfl) (fun k => g784 36 k rfl) (g784 0 3 rfl)
      have KLK_I785 := gr_LKs_fr KLK_I753 (fun k => g784 51 k rfl) (g784 0 59 rfl)
      have A807 := gr_ATp_F A774 g784 k784 rfl
      have t808 := gr_ATp_l A807
      refine gv_callV hD rfl (As := [.inl 5]) (st := []) rfl (by decide) rfl rfl (gr_lV hws rfl) (Nat.le_of_ble_eq_true rfl) (gz_Ev_mono (d := 2) (by decide) E784) ?_
      show gv_X _ _ (49, [(2, .inl z781), (1, .inl (I 0 6)), (0, .inr (.inr (some 0)))], [.inl z784], gr_sh ++ ext, gr_h I785 J786)
      have b809 : (I785 0 69 = I 0 69) ∧ (I 0 73 ≤ I785 0 73) ∧ (I 0 72 ≤ I785 0 72) ∧ (I785 0 59 - I785 0 72 ≤ I 0 59 - I 0 72) := by exact gz_m 432 (by omega)
      exact gv_zret hD rfl (by exact gz_m 433 (by omega)) ⟨I785, J786, rfl, hI785, FI785, FJ786, KGR_I785, KST_I785, ⟨_, rfl, by exact gz_m 434 (by omega), by exact gz_m 435 (by omega), (gr_ATp_rr A807).1, (gr_ATp_rr A807).2.1, (gr_ATp_rr A807).2.2.1, (gr_ATp_rr A807).2.2.2.1, (gr_ATp_rr A807).2.2.2.2, b809.1, b809.2.1, b809.2.2.1, b809.2.2.2, KLK_I785, (Or.inr ⟨by exact gz_m 436 (by omega), by unfold gs_wd gs_wd0; (repeat first | rw [if_pos (by exact gz_m 437 (by omega))] | rw [if_neg (by exact gz_m 438 (by omega))]); exact ⟨by exact gz_m 439 (by omega), by exact gz_m 440 (by omega), (fun j => ⟨((g784 18 j rfl).trans (g752 18 j rfl)), ((g784 36 j rfl).trans (g752 36 j rfl)), ((g784 37 j rfl).trans (g752 37 j rfl)), ((g784 38 j rfl).trans (g752 38 j rfl)), ((g784 39 j rfl).trans (g752 39 j rfl)), ((g784 40 j rfl).trans (g752 40 j rfl))⟩)⟩⟩)⟩⟩
    · have f810 := (gr_b_6 hI753 (Int.toNat z781))
      refine gv_run 4 true hD (pcₚ := 41) (lvₚ := [(2, .inl z781), (1, .inl (I 0 6)), (0, .inr (.inr (some 0)))]) (stₚ := [.inl (I753 6 (Int.toNat z781))]) (hₚ := gr_h I753 J754) (C := ((((True ∧ True) ∧ True) ∧ True) ∧ (0 ≤ z781 ∧ z781 < ((96 : Nat) : Int)))) rfl ⟨⟨⟨⟨trivial, trivial⟩, trivial⟩, trivial⟩, ⟨by exact gz_m 441 (by omega), by exact gz_m 442 (by omega)⟩⟩ ?_
      have t811 := (show I753 6 (Int.toNat z781) = I 6 (Int.toNat (gs_lk I J 3 3 (gs_rn β N9 p9))) from by rw [show z781 = gs_lk I J 3 3 (gs_rn β N9 p9) from by exact gz_m 443 (by omega)]; exact (FI753 6 _ rfl))
      refine gv_if_le (t := 50) hD rfl rfl ⟨by exact gz_m 444 (by omega), by exact gz_m 445 (by omega)⟩ (fun c812 => ?_) (fun c812 => ?_)
      · refine gv_pick [2, 1, 0] rfl ?_
        exact L50 I753 J754 (I 0 6) z781 p9 hI753 FI753 FJ754 KGR_I753 KST_I753 KLK_I753 (by exact gz_m 446 (by omega)) A774 (by unfold gs_wd gs_wd0; (repeat first | rw [if_pos (by exact gz_m 447 (by omega))] | rw [if_neg (by exact gz_m 448 (by omega))])) rfl (by exact gz_m 449 (by omega)) rfl ⟨(fun k => (g752 18 k rfl)), (fun k => (g752 36 k rfl)), (fun k => (g752 37 k rfl)), (fun k => (g752 38 k rfl)), (fun k => (g752 39 k rfl)), (fun k => (g752 40 k rfl))⟩
      · refine gv_run 2 true hD (pcₚ := 46) (lvₚ := [(2, .inl z781), (1, .inl (I 0 6)), (0, .inr (.inr (some 0)))]) (stₚ := [.inl 5, .inr (.inr (some 0))]) (hₚ := gr_h I753 J754) (C := ((True ∧ True) ∧ True)) rfl ⟨⟨trivial, trivial⟩, trivial⟩ ?_
        obtain ⟨r813, h813, E813, P813⟩ := r_no__p (ws0 := ws0) (tb := tb) hws htb ext β N9 p9 I753 J754 hI753 5 ⟨by exact gz_m 450 (by omega), by exact gz_m 451 (by omega)⟩ A774 (by exact gz_m 452 (by omega))
        obtain ⟨I814, J815, rfl, hI814, g813, k813, ⟨z813, rfl, q813⟩⟩ := P813
        have FI814 := gr_frt FI753 g813 rfl rfl
        have FJ815 := gr_fjt FJ754 k813 rfl rfl
        have t816 := g813 0 71 rfl
        have t817 := g813 0 72 rfl
        have t818 := g813 0 73 rfl
        have t819 := g813 0 69 rfl
        have t820 := g813 0 6 rfl
        have t821 := g813 0 59 rfl
        have t822 := g813 0 3 rfl
        have t823 := g813 0 106 rfl
        have t824 := g813 0 101 rfl
        have t825 := g813 18 (Int.toNat ((I 0 6))) rfl
        have t826 := g813 6 (Int.toNat z781) rfl
        have f827 := (gr_b_0_71 hI814)
        have f828 := (gr_b_0_72 hI814)
        have f829 := (gr_b_0_73 hI814)
        have f830 := (gr_b_0_69 hI814)
        have f831 := (gr_b_0_6 hI814)
        have f832 := (gr_b_0_59 hI814)
        have f833 := (gr_b_0_3 hI814)
        have f834 := (gr_b_0_106 hI814)
        have f835 := (gr_b_0_101 hI814)
        have KGR_I814 := gr_GR_fr KGR_I753 (fun k => g813 19 k rfl) (fun k => g813 18 k rfl) (fun k => g813 36 k rfl) (fun k => g813 41 k rfl) (fun k => g813 42 k rfl) (fun k => g813 43 k rfl) (fun k => g813 45 k rfl) (fun k => g813 46 k rfl) (fun k => g813 47 k rfl) (fun k => g813 6 k rfl) (fun k => g813 7 k rfl) (fun k => g813 8 k rfl) (g813 0 3 rfl)
        have KST_I814 := gr_ST_fr KST_I753 (fun k => g813 6 k rfl) (fun k => g813 19 k rfl) (fun k => g813 18 k rfl) (fun k => g813 41 k rfl) (fun k => g813 36 k rfl) (g813 0 3 rfl)
        have KLK_I814 := gr_LKs_fr KLK_I753 (fun k => g813 51 k rfl) (g813 0 59 rfl)
        have A836 := gr_ATp_F A774 g813 k813 rfl
        have t837 := gr_ATp_l A836
        refine gv_callV hD rfl (As := [.inl 5]) (st := []) rfl (by decide) rfl rfl (gr_lV hws rfl) (Nat.le_of_ble_eq_true rfl) (gz_Ev_mono (d := 2) (by decide) E813) ?_
        show gv_X _ _ (49, [(2, .inl z781), (1, .inl (I 0 6)), (0, .inr (.inr (some 0)))], [.inl z813], gr_sh ++ ext, gr_h I814 J815)
        have b838 : (I814 0 69 = I 0 69) ∧ (I 0 73 ≤ I814 0 73) ∧ (I 0 72 ≤ I814 0 72) ∧ (I814 0 59 - I814 0 72 ≤ I 0 59 - I 0 72) := by exact gz_m 453 (by omega)
        exact gv_zret hD rfl (by exact gz_m 454 (by omega)) ⟨I814, J815, rfl, hI814, FI814, FJ815, KGR_I814, KST_I814, ⟨_, rfl, by exact gz_m 455 (by omega), by exact gz_m 456 (by omega), (gr_ATp_rr A836).1, (gr_ATp_rr A836).2.1, (gr_ATp_rr A836).2.2.1, (gr_ATp_rr A836).2.2.2.1, (gr_ATp_rr A836).2.2.2.2, b838.1, b838.2.1, b838.2.2.1, b838.2.2.2, KLK_I814, (Or.inr ⟨by exact gz_m 457 (by omega), by unfold gs_wd gs_wd0; (repeat first | rw [if_pos (by exact gz_m 458 (by omega))] | rw [if_neg (by exact gz_m 459 (by omega))]); exact ⟨by exact gz_m 460 (by omega), by exact gz_m 461 (by omega), (fun j => ⟨((g813 18 j rfl).trans (g752 18 j rfl)), ((g813 36 j rfl).trans (g752 36 j rfl)), ((g813 37 j rfl).trans (g752 37 j rfl)), ((g813 38 j rfl).trans (g752 38 j rfl)), ((g813 39 j rfl).trans (g752 39 j rfl)), ((g813 40 j rfl).trans (g752 40 j rfl))⟩)⟩⟩)⟩⟩
  · have u839 := gs_or0 V752 (by exact gz_m 462 (by omega))
    clear o752 V752
    refine gv_run 1 true hD (pcₚ := 13) (lvₚ := [(1, .inl (I 0 6)), (0, .inr (.inr (some 0)))]) (stₚ := [.inl 0]) (hₚ := gr_h I753 J754) (C := (True ∧ True)) rfl ⟨trivial, trivial⟩ ?_
    have b840 : (I753 0 69 = I 0 69) ∧ (I 0 73 ≤ I753 0 73) ∧ (I 0 72 ≤ I753 0 72) ∧ (I753 0 59 - I753 0 72 ≤ I 0 59 - I 0 72) := by exact gz_m 463 (by omega)
    exact gv_zret hD rfl (by exact gz_m 464 (by omega)) ⟨I753, J754, rfl, hI753, FI753, FJ754, KGR_I753, KST_I753, ⟨_, rfl, by exact gz_m 465 (by omega), by exact gz_m 466 (by omega), (gr_ATp_rr A774).1, (gr_ATp_rr A774).2.1, (gr_ATp_rr A774).2.2.1, (gr_ATp_rr A774).2.2.2.1, (gr_ATp_rr A774).2.2.2.2, b840.1, b840.2.1, b840.2.2.1, b840.2.2.2, KLK_I753, (Or.inr ⟨by exact gz_m 467 (by omega), by unfold gs_wd gs_wd0; (repeat first | rw [if_pos (by exact gz_m 468 (by omega))] | rw [if_neg (by exact gz_m 469 (by omega))]); exact ⟨by exact gz_m 470 (by omega), by exact gz_m 471 (by omega), (fun j => ⟨(g752 18 j rfl), (g752 36 j rfl), (g752 37 j rfl), (g752 38 j rfl), (g752 39 j rfl), (g752 40 j rfl)⟩)⟩⟩)⟩⟩
