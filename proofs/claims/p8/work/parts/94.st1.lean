set_option maxHeartbeats 32000000 in
set_option maxRecDepth 100000 in
theorem r_lin_p_L183_L425 {ws0 : List Cond} {tb : String → gz_T} (hws : ∀ w ∈ gr_ws, w ∈ ws0) (htb : tb RX13 = gr_T) (ext : gz_Sh) (B : Int) (hB : B ≤ 1500) (I9 : gr_I) (β : Int → Int) (N9 : Int) (p9 : Int) (I : gr_I) (J : gr_J) (hI : gr_Inv I) (x1 : I 0 72 ≤ I 0 69) (x4 : I 0 72 ≤ I 0 73) (x5 : 0 ≤ I 0 6) (x6 : I 0 59 + I 0 69 - I 0 72 ≤ 1900) (x7 : gr_ATp β N9 p9 I J) (x8 : 0 ≤ p9) (x9 : gr_KW J) (KLN_I : gr_LN B I) (KGR_I : gr_GR I) (KST_I : gr_ST I9 I) (v2_12 : Int) (v3_12 : Int) : ∀ (n : Nat) (I114 : gr_I) (J115 : gr_J) (v5_116 : Int) (v6_116 : Int) (p_116 : Int), (7 - v6_116).toNat < n → gr_Inv I114 → gr_fr [59, 71, 72, 73, 74, 75, 76, 77, 101, 106, 118, 119, 120] [19, 41, 42, 43, 44, 45, 46, 47, 48, 49, 50, 51, 68, 69, 70, 71, 72, 73, 74] I I114 → gr_fj [59, 71, 72, 73, 74, 75, 76, 77, 101, 106, 118, 119, 120] [19, 41, 42, 43, 44, 45, 46, 47, 48, 49, 50, 51, 68, 69, 70, 71, 72, 73, 74] J J115 → gr_LN B I114 → gr_LKs I I114 → ((0 ≤ v3_12 ∧ v3_12 ≤ 95) ∧ (0 ≤ v5_116 ∧ v5_116 ≤ 3071) ∧ (0 ≤ v6_116 ∧ v6_116 ≤ 6) ∧ (0 ≤ p_116) ∧ (I114 0 72 ≤ I114 0 69) ∧ (I114 0 72 ≤ I114 0 73) ∧ (I114 0 69 = I 0 69) ∧ (I 0 73 ≤ I114 0 73) ∧ (I 0 72 ≤ I114 0 72) ∧ (I114 0 6 = I 0 6) ∧ (I114 0 59 - I114 0 72 ≤ I 0 59 - I 0 72)) → (gr_Q1 I9 v3_12 v5_116 v6_116 I114) → (gr_ATp β N9 p_116 I114 J115) → ((gs_lin β N9 I J (I 0 78) p9) = p_116) → (v3_12 = gs_lk I J 3 3 (gs_rn β N9 p9)) → (gs_Uln v3_12 I I114) → gv_X (gr_E ws0 tb 12 (yX13_lin, cX13_lin, 7, (some .boolean)) kX13_lin) (gv_Q cX13_lin (some .boolean) (gr_sh ++ ext) (fun r hₚ => (∃ (Iₚ : gr_I) (Jₚ : gr_J), hₚ = gr_h Iₚ Jₚ ∧ gr_Inv Iₚ ∧ gr_fr [59, 71, 72, 73, 74, 75, 76, 77, 101, 106, 118, 119, 120] [19, 41, 42, 43, 44, 45, 46, 47, 48, 49, 50, 51, 68, 69, 70, 71, 72, 73, 74] I Iₚ ∧ gr_fj [59, 71, 72, 73, 74, 75, 76, 77, 101, 106, 118, 119, 120] [19, 41, 42, 43, 44, 45, 46, 47, 48, 49, 50, 51, 68, 69, 70, 71, 72, 73, 74] J Jₚ ∧ gr_LN B Iₚ ∧ gr_GR Iₚ ∧ gr_ST I9 Iₚ ∧ (∃ z : Int, r = some (.inl z) ∧ 0 ≤ z ∧ z ≤ 1 ∧ (Iₚ 0 71 = 5 ∨ Iₚ 0 73 ≤ Iₚ 0 69) ∧ (Iₚ 0 72 ≤ Iₚ 0 69) ∧ (Iₚ 0 71 = 0 ∨ (Iₚ 0 72 < Iₚ 0 73 ∧ Iₚ 0 72 < Iₚ 0 69)) ∧ (Iₚ 0 71 = 3 → 2 ≤ Iₚ 0 73 - Iₚ 0 72 ∧ Iₚ 0 73 - Iₚ 0 72 ≤ 14) ∧ (Iₚ 0 72 ≤ Iₚ 0 73) ∧ (Iₚ 0 69 = I 0 69) ∧ (I 0 73 ≤ Iₚ 0 73) ∧ (I 0 72 ≤ Iₚ 0 72) ∧ (Iₚ 0 59 - Iₚ 0 72 ≤ I 0 59 - I 0 72) ∧ (gr_LKs I Iₚ) ∧ (gs_Or z (0 ≤ (gs_lin β N9 I J (I 0 78) p9) ∧ gr_ATp β N9 (gs_lin β N9 I J (I 0 78) p9) Iₚ Jₚ ∧ gs_Uln (gs_lk I J 3 3 (gs_rn β N9 p9)) I Iₚ) ((gs_lin β N9 I J (I 0 78) p9) < 0 ∧ Iₚ 0 77 = -1 - (gs_lin β N9 I J (I 0 78) p9) ∧ gs_Sln I Iₚ)))))) (425, [(0, .inr (.inr (some 0))), (3, .inl v3_12), (5, .inl v5_116), (6, .inl v6_116)], [], gr_sh ++ ext, gr_h I114 J115) := by
  have FI : gr_fr [59, 71, 72, 73, 74, 75, 76, 77, 101, 106, 118, 119, 120] [19, 41, 42, 43, 44, 45, 46, 47, 48, 49, 50, 51, 68, 69, 70, 71, 72, 73, 74] I I := fun _ _ _ => rfl
  have FJ : gr_fj [59, 71, 72, 73, 74, 75, 76, 77, 101, 106, 118, 119, 120] [19, 41, 42, 43, 44, 45, 46, 47, 48, 49, 50, 51, 68, 69, 70, 71, 72, 73, 74] J J := fun _ _ _ => rfl
  have hD : gv_D (gr_E ws0 tb 12 (yX13_lin, cX13_lin, 7, (some .boolean)) kX13_lin) := gq_of oX13_lin
  have tAT := gr_ATp_l x7
  skip
  have KW := x9
  have f1 := (gr_b_0_71 hI)
  have f2 := (gr_b_0_72 hI)
  have f3 := (gr_b_0_73 hI)
  have f4 := (gr_b_0_69 hI)
  have f5 := (gr_b_0_6 hI)
  have f6 := (gr_b_0_59 hI)
  have f7 := (gr_b_0_118 hI)
  have f8 := (gr_b_0_119 hI)
  have f9 := (gr_b_0_3 hI)
  have KLK_I : gr_LKs I I := gr_LKs_rf
  intro n
  induction n with
  | zero => intro I114 J115 v5_116 v6_116 p_116 hn; exact gz_m 13 (by omega)
  | succ n ih425 =>
    intro I114 J115 v5_116 v6_116 p_116 hn hI114 FI114 FJ115 KLN_I114 KLK_I114 m_116 e0_116 e2_116 e3_116 e4_116 e5_116
    obtain ⟨hv3_12_116, hv5_116, hv6_116, e1_116, e6_116, e7_116, e8_116, e9_116, e10_116, e11_116, e12_116⟩ := m_116
    have f117 := (gr_b_0_71 hI114)
    have f118 := (gr_b_0_72 hI114)
    have f119 := (gr_b_0_73 hI114)
    have f120 := (gr_b_0_69 hI114)
    have f121 := (gr_b_0_6 hI114)
    have f122 := (gr_b_0_59 hI114)
    have f123 := (gr_b_0_118 hI114)
    have f124 := (gr_b_0_119 hI114)
    have f125 := (gr_b_0_3 hI114)
    have t126 := gr_ATp_l e2_116
    have L483 : ∀ (n : Nat) (I127 : gr_I) (J128 : gr_J) (v6_129 : Int) (p_129 : Int), (7 - v6_129).toNat < n → gr_Inv I127 → gr_fr [59, 71, 72, 73, 74, 75, 76, 77, 101, 106, 118, 119, 120] [19, 41, 42, 43, 44, 45, 46, 47, 48, 49, 50, 51, 68, 69, 70, 71, 72, 73, 74] I I127 → gr_fj [59, 71, 72, 73, 74, 75, 76, 77, 101, 106, 118, 119, 120] [19, 41, 42, 43, 44, 45, 46, 47, 48, 49, 50, 51, 68, 69, 70, 71, 72, 73, 74] J J128 → gr_LN B I127 → gr_LKs I I127 → ((0 ≤ v3_12 ∧ v3_12 ≤ 95) ∧ (0 ≤ v5_116 ∧ v5_116 ≤ 3071) ∧ (0 ≤ v6_129 ∧ v6_129 ≤ 6) ∧ (0 ≤ p_129) ∧ (I127 0 72 ≤ I127 0 69) ∧ (I127 0 72 ≤ I127 0 73) ∧ (I127 0 69 = I 0 69) ∧ (I 0 73 ≤ I127 0 73) ∧ (I 0 72 ≤ I127 0 72) ∧ (I127 0 6 = I 0 6) ∧ (I127 0 59 - I127 0 72 ≤ I 0 59 - I 0 72)) → (gr_Q2 I9 v3_12 v5_116 v6_129 I127) → (gr_ATp β N9 p_129 I127 J128) → ((gs_lin β N9 I J (I 0 78) p9) = p_129) → (v3_12 = gs_lk I J 3 3 (gs_rn β N9 p9)) → (gs_Uln v3_12 I I127) → gv_X (gr_E ws0 tb 12 (yX13_lin, cX13_lin, 7, (some .boolean)) kX13_lin) (gv_Q cX13_lin (some .boolean) (gr_sh ++ ext) (fun r hₚ => (∃ (Iₚ : gr_I) (Jₚ : gr_J), hₚ = gr_h Iₚ Jₚ ∧ gr_Inv Iₚ ∧ gr_fr [59, 71, 72, 73, 74, 75, 76, 77, 101, 106, 118, 119, 120] [19, 41, 42, 43, 44, 45, 46, 47, 48, 49, 50, 51, 68, 69, 70, 71, 72, 73, 74] I Iₚ ∧ gr_fj [59, 71, 72, 73, 74, 75, 76, 77, 101, 106, 118, 119, 120] [19, 41, 42, 43, 44, 45, 46, 47, 48, 49, 50, 51, 68, 69, 70, 71, 72, 73, 74] J Jₚ ∧ gr_LN B Iₚ ∧ gr_GR Iₚ ∧ gr_ST I9 Iₚ ∧ (∃ z : Int, r = some (.inl z) ∧ 0 ≤ z ∧ z ≤ 1 ∧ (Iₚ 0 71 = 5 ∨ Iₚ 0 73 ≤ Iₚ 0 69) ∧ (Iₚ 0 72 ≤ Iₚ 0 69) ∧ (Iₚ 0 71 = 0 ∨ (Iₚ 0 72 < Iₚ 0 73 ∧ Iₚ 0 72 < Iₚ 0 69)) ∧ (Iₚ 0 71 = 3 → 2 ≤ Iₚ 0 73 - Iₚ 0 72 ∧ Iₚ 0 73 - Iₚ 0 72 ≤ 14) ∧ (Iₚ 0 72 ≤ Iₚ 0 73) ∧ (Iₚ 0 69 = I 0 69) ∧ (I 0 73 ≤ Iₚ 0 73) ∧ (I 0 72 ≤ Iₚ 0 72) ∧ (Iₚ 0 59 - Iₚ 0 72 ≤ I 0 59 - I 0 72) ∧ (gr_LKs I Iₚ) ∧ (gs_Or z (0 ≤ (gs_lin β N9 I J (I 0 78) p9) ∧ gr_ATp β N9 (gs_lin β N9 I J (I 0 78) p9) Iₚ Jₚ ∧ gs_Uln (gs_lk I J 3 3 (gs_rn β N9 p9)) I Iₚ) ((gs_lin β N9 I J (I 0 78) p9) < 0 ∧ Iₚ 0 77 = -1 - (gs_lin β N9 I J (I 0 78) p9) ∧ gs_Sln I Iₚ)))))) (483, [(0, .inr (.inr (some 0))), (3, .inl v3_12), (5, .inl v5_116), (6, .inl v6_129)], [], gr_sh ++ ext, gr_h I127 J128) := by
      intro n
      induction n with
      | zero => intro I127 J128 v6_129 p_129 hn; exact gz_m 14 (by omega)
      | succ n ih483 =>
        intro I127 J128 v6_129 p_129 hn hI127 FI127 FJ128 KLN_I127 KLK_I127 m_129 e0_129 e2_129 e3_129 e4_129 e5_129
        clear hv3_12_116 hv5_116 hv6_116 e1_116 e6_116 e7_116 e8_116 e9_116 e10_116 e11_116 e12_116 f117 f118 f119 f120 f121 f122 f123 f124 f125 t126
        obtain ⟨hv3_12_129, hv5_116_129, hv6_129, e1_129, e6_129, e7_129, e8_129, e9_129, e10_129, e11_129, e12_129⟩ := m_129
        have f130 := (gr_b_0_71 hI127)
        have f131 := (gr_b_0_72 hI127)
        have f132 := (gr_b_0_73 hI127)
        have f133 := (gr_b_0_69 hI127)
        have f134 := (gr_b_0_6 hI127)
        have f135 := (gr_b_0_59 hI127)
        have f136 := (gr_b_0_118 hI127)
        have f137 := (gr_b_0_119 hI127)
        have f138 := (gr_b_0_3 hI127)
        have t139 := gr_ATp_l e2_129
        have f140 := (gr_b_0_119 hI127)
        refine gv_run 3 true hD (pcₚ := 489) (lvₚ := [(0, .inr (.inr (some 0))), (3, .inl v3_12), (5, .inl v5_116), (6, .inl v6_129)]) (stₚ := [.inl (I127 0 119), .inl v6_129]) (hₚ := gr_h I127 J128) (C := (((True ∧ True) ∧ True) ∧ True)) rfl ⟨⟨⟨trivial, trivial⟩, trivial⟩, trivial⟩ ?_
        refine gv_icmp_ge (t := 578) hD rfl rfl ⟨⟨by exact gz_m 15 (by omega), by exact gz_m 16 (by omega)⟩, ⟨by exact gz_m 17 (by omega), by exact gz_m 18 (by omega)⟩⟩ (fun c141 => ?_) (fun c141 => ?_)
        · refine gv_run 1 true hD (pcₚ := 579) (lvₚ := [(0, .inr (.inr (some 0))), (3, .inl v3_12), (5, .inl v5_116), (6, .inl v6_129)]) (stₚ := [.inl 1]) (hₚ := gr_h I127 J128) (C := (True ∧ True)) rfl ⟨trivial, trivial⟩ ?_
          have b142 : (I127 0 69 = I 0 69) ∧ (I 0 73 ≤ I127 0 73) ∧ (I 0 72 ≤ I127 0 72) ∧ (I127 0 59 - I127 0 72 ≤ I 0 59 - I 0 72) := by exact gz_m 19 (by omega)
          exact gv_zret hD rfl (by exact gz_m 20 (by omega)) ⟨I127, J128, rfl, hI127, FI127, FJ128, KLN_I127, (gr_GR_end e0_129 (by exact gz_m 21 (by omega)) hI127), e0_129.1.2.1, ⟨_, rfl, by exact gz_m 22 (by omega), by exact gz_m 23 (by omega), (gr_ATp_rr e2_129).1, (gr_ATp_rr e2_129).2.1, (gr_ATp_rr e2_129).2.2.1, (gr_ATp_rr e2_129).2.2.2.1, (gr_ATp_rr e2_129).2.2.2.2, b142.1, b142.2.1, b142.2.2.1, b142.2.2.2, KLK_I127, (Or.inl ⟨by exact gz_m 24 (by omega), by rw [e3_129]; exact ⟨by exact gz_m 25 (by omega), e2_129, (by rw [← e4_129]; exact gs_Uln_fr e5_129 (fun j => rfl) (fun j => rfl))⟩⟩)⟩⟩
        · refine gv_run 7 true hD (pcₚ := 504) (lvₚ := [(0, .inr (.inr (some 0))), (3, .inl v3_12), (5, .inl v5_116), (6, .inl v6_129)]) (stₚ := [.inl ((6 * v5_116) + v6_129), .inr (.inr (some 46))]) (hₚ := gr_h I127 J128) (C := (((((((True ∧ True) ∧ True) ∧ True) ∧ True) ∧ True) ∧ True) ∧ True)) rfl ⟨⟨⟨⟨⟨⟨⟨trivial, trivial⟩, trivial⟩, trivial⟩, trivial⟩, trivial⟩, trivial⟩, trivial⟩ ?_
          have f143 := (gr_b_70 hI127 (Int.toNat v6_129))
          refine gv_run 4 true hD (pcₚ := 511) (lvₚ := [(0, .inr (.inr (some 0))), (3, .inl v3_12), (5, .inl v5_116), (6, .inl v6_129)]) (stₚ := [.inl (I127 70 (Int.toNat v6_129)), .inl ((6 * v5_116) + v6_129), .inr (.inr (some 46))]) (hₚ := gr_h I127 J128) (C := ((((True ∧ True) ∧ True) ∧ True) ∧ (0 ≤ v6_129 ∧ v6_129 < ((6 : Nat) : Int)))) rfl ⟨⟨⟨⟨trivial, trivial⟩, trivial⟩, trivial⟩, ⟨by exact gz_m 26 (by omega), by exact gz_m 27 (by omega)⟩⟩ ?_
          refine gv_run 1 true hD (pcₚ := 512) (lvₚ := [(0, .inr (.inr (some 0))), (3, .inl v3_12), (5, .inl v5_116), (6, .inl v6_129)]) (stₚ := []) (hₚ := gz_up (gr_h I127 J128) 46 (Int.toNat (((6 * v5_116) + v6_129))) (.inl ((I127 70 (Int.toNat v6_129))))) (C := (True ∧ (0 ≤ (((6 * v5_116) + v6_129)) ∧ (((6 * v5_116) + v6_129)) < ((18432 : Nat) : Int)))) rfl ⟨trivial, ⟨by exact gz_m 28 (by omega), by exact gz_m 29 (by omega)⟩⟩ ?_
          refine gr_st hI127 FI127 rfl rfl ⟨⟨by show 0 ≤ _; exact gz_m 30 (by omega), by show _ ≤ 2; exact gz_m 31 (by omega)⟩, trivial⟩ (fun I144 hI144 FI144 q145 p145 => ?_)
          have t146 := p145 0 71 (fun q => absurd q.1 (by first | exact gz_ne rfl | decide))
          have t147 := p145 0 72 (fun q => absurd q.1 (by first | exact gz_ne rfl | decide))
          have t148 := p145 0 73 (fun q => absurd q.1 (by first | exact gz_ne rfl | decide))
          have t149 := p145 0 69 (fun q => absurd q.1 (by first | exact gz_ne rfl | decide))
          have t150 := p145 0 6 (fun q => absurd q.1 (by first | exact gz_ne rfl | decide))
          have t151 := p145 0 59 (fun q => absurd q.1 (by first | exact gz_ne rfl | decide))
          have t152 := p145 0 118 (fun q => absurd q.1 (by first | exact gz_ne rfl | decide))
          have t153 := p145 0 119 (fun q => absurd q.1 (by first | exact gz_ne rfl | decide))
          have t154 := p145 0 3 (fun q => absurd q.1 (by first | exact gz_ne rfl | decide))
          have f155 := (gr_b_0_71 hI144)
          have f156 := (gr_b_0_72 hI144)
          have f157 := (gr_b_0_73 hI144)
          have f158 := (gr_b_0_69 hI144)
          have f159 := (gr_b_0_6 hI144)
          have f160 := (gr_b_0_59 hI144)
          have f161 := (gr_b_0_118 hI144)
          have f162 := (gr_b_0_119 hI144)
          have f163 := (gr_b_0_3 hI144)
          have KLN_I144 := gr_LN_fr KLN_I127 (fun k => p145 19 k (fun q => absurd q.1 (by first | exact gz_ne rfl | decide))) (by exact gz_m 32 (by omega)) (by exact gz_m 33 (by omega))
          have KLK_I144 := gr_LKs_fr KLK_I127 (fun k => p145 51 k (fun q => absurd q.1 (by first | exact gz_ne rfl | decide))) (p145 0 59 (fun q => absurd q.1 (by first | exact gz_ne rfl | decide)))
          have A164 := gr_ATp_sr e2_129 p145 rfl
          refine gv_run 7 true hD (pcₚ := 524) (lvₚ := [(0, .inr (.inr (some 0))), (3, .inl v3_12), (5, .inl v5_116), (6, .inl v6_129)]) (stₚ := [.inl ((6 * v5_116) + v6_129), .inr (.inr (some 47))]) (hₚ := gr_h I144 J128) (C := (((((((True ∧ True) ∧ True) ∧ True) ∧ True) ∧ True) ∧ True) ∧ True)) rfl ⟨⟨⟨⟨⟨⟨⟨trivial, trivial⟩, trivial⟩, trivial⟩, trivial⟩, trivial⟩, trivial⟩, trivial⟩ ?_
          have f165 := (gr_b_71 hI144 (Int.toNat v6_129))
          refine gv_run 4 true hD (pcₚ := 531) (lvₚ := [(0, .inr (.inr (some 0))), (3, .inl v3_12), (5, .inl v5_116), (6, .inl v6_129)]) (stₚ := [.inl (I144 71 (Int.toNat v6_129)), .inl ((6 * v5_116) + v6_129), .inr (.inr (some 47))]) (hₚ := gr_h I144 J128) (C := ((((True ∧ True) ∧ True) ∧ True) ∧ (0 ≤ v6_129 ∧ v6_129 < ((6 : Nat) : Int)))) rfl ⟨⟨⟨⟨trivial, trivial⟩, trivial⟩, trivial⟩, ⟨by exact gz_m 34 (by omega), by exact gz_m 35 (by omega)⟩⟩ ?_
          refine gv_run 1 true hD (pcₚ := 532) (lvₚ := [(0, .inr (.inr (some 0))), (3, .inl v3_12), (5, .inl v5_116), (6, .inl v6_129)]) (stₚ := []) (hₚ := gz_up (gr_h I144 J128) 47 (Int.toNat (((6 * v5_116) + v6_129))) (.inl ((I144 71 (Int.toNat v6_129))))) (C := (True ∧ (0 ≤ (((6 * v5_116) + v6_129)) ∧ (((6 * v5_116) + v6_129)) < ((18432 : Nat) : Int)))) rfl ⟨trivial, ⟨by exact gz_m 36 (by omega), by exact gz_m 37 (by omega)⟩⟩ ?_
          refine gr_st hI144 FI144 rfl rfl ⟨⟨by show 0 ≤ _; exact gz_m 38 (by omega), by show _ ≤ 6; exact gz_m 39 (by omega)⟩, trivial⟩ (fun I166 hI166 FI166 q167 p167 => ?_)
          have t168 := p167 0 71 (fun q => absurd q.1 (by first | exact gz_ne rfl | decide))
          have t169 := p167 0 72 (fun q => absurd q.1 (by first | exact gz_ne rfl | decide))
          have t170 := p167 0 73 (fun q => absurd q.1 (by first | exact gz_ne rfl | decide))
          have t171 := p167 0 69 (fun q => absurd q.1 (by first | exact gz_ne rfl | decide))
          have t172 := p167 0 6 (fun q => absurd q.1 (by first | exact gz_ne rfl | decide))
          have t173 := p167 0 59 (fun q => absurd q.1 (by first | exact gz_ne rfl | decide))
          have t174 := p167 0 118 (fun q => absurd q.1 (by first | exact gz_ne rfl | decide))
          have t175 := p167 0 119 (fun q => absurd q.1 (by first | exact gz_ne rfl | decide))
          have t176 := p167 0 3 (fun q => absurd q.1 (by first | exact gz_ne rfl | decide))
          have f177 := (gr_b_0_71 hI166)
          have f178 := (gr_b_0_72 hI166)
          have f179 := (gr_b_0_73 hI166)
          have f180 := (gr_b_0_69 hI166)
          have f181 := (gr_b_0_6 hI166)
          have f182 := (gr_b_0_59 hI166)
          have f183 := (gr_b_0_118 hI166)
          have f184 := (gr_b_0_119 hI166)
          have f185 := (gr_b_0_3 hI166)
          have KLN_I166 := gr_LN_fr KLN_I144 (fun k => p167 19 k (fun q => absurd q.1 (by first | exact gz_ne rfl | decide))) (by exact gz_m 40 (by omega)) (by exact gz_m 41 (by omega))
          have KLK_I166 := gr_LKs_fr KLK_I144 (fun k => p167 51 k (fun q => absurd q.1 (by first | exact gz_ne rfl | decide))) (p167 0 59 (fun q => absurd q.1 (by first | exact gz_ne rfl | decide)))
          have A186 := gr_ATp_sr A164 p167 rfl
          refine gv_run 7 true hD (pcₚ := 544) (lvₚ := [(0, .inr (.inr (some 0))), (3, .inl v3_12), (5, .inl v5_116), (6, .inl v6_129)]) (stₚ := [.inl ((6 * v5_116) + v6_129), .inr (.inr (some 48))]) (hₚ := gr_h I166 J128) (C := (((((((True ∧ True) ∧ True) ∧ True) ∧ True) ∧ True) ∧ True) ∧ True)) rfl ⟨⟨⟨⟨⟨⟨⟨trivial, trivial⟩, trivial⟩, trivial⟩, trivial⟩, trivial⟩, trivial⟩, trivial⟩ ?_
          have f187 := (gr_b_72 hI166 (Int.toNat v6_129))
          refine gv_run 4 true hD (pcₚ := 551) (lvₚ := [(0, .inr (.inr (some 0))), (3, .inl v3_12), (5, .inl v5_116), (6, .inl v6_129)]) (stₚ := [.inl (I166 72 (Int.toNat v6_129)), .inl ((6 * v5_116) + v6_129), .inr (.inr (some 48))]) (hₚ := gr_h I166 J128) (C := ((((True ∧ True) ∧ True) ∧ True) ∧ (0 ≤ v6_129 ∧ v6_129 < ((6 : Nat) : Int)))) rfl ⟨⟨⟨⟨trivial, trivial⟩, trivial⟩, trivial⟩, ⟨by exact gz_m 42 (by omega), by exact gz_m 43 (by omega)⟩⟩ ?_
          refine gv_run 1 true hD (pcₚ := 552) (lvₚ := [(0, .inr (.inr (some 0))), (3, .inl v3_12), (5, .inl v5_116), (6, .inl v6_129)]) (stₚ := []) (hₚ := gz_up (gr_h I166 J128) 48 (Int.toNat (((6 * v5_116) + v6_129))) (.inl ((I166 72 (Int.toNat v6_129))))) (C := (True ∧ (0 ≤ (((6 * v5_116) + v6_129)) ∧ (((6 * v5_116) + v6_129)) < ((18432 : Nat) : Int)))) rfl ⟨trivial, ⟨by exact gz_m 44 (by omega), by exact gz_m 45 (by omega)⟩⟩ ?_
          refine gr_st hI166 FI166 rfl rfl ⟨⟨by show 0 ≤ _; exact gz_m 46 (by omega), by show _ ≤ 3; exact gz_m 47 (by omega)⟩, trivial⟩ (fun I188 hI188 FI188 q189 p189 => ?_)
          have t190 := p189 0 71 (fun q => absurd q.1 (by first | exact gz_ne rfl | decide))
          have t191 := p189 0 72 (fun q => absurd q.1 (by first | exact gz_ne rfl | decide))
          have t192 := p189 0 73 (fun q => absurd q.1 (by first | exact gz_ne rfl | decide))
          have t193 := p189 0 69 (fun q => absurd q.1 (by first | exact gz_ne rfl | decide))
          have t194 := p189 0 6 (fun q => absurd q.1 (by first | exact gz_ne rfl | decide))
          have t195 := p189 0 59 (fun q => absurd q.1 (by first | exact gz_ne rfl | decide))
          have t196 := p189 0 118 (fun q => absurd q.1 (by first | exact gz_ne rfl | decide))
          have t197 := p189 0 119 (fun q => absurd q.1 (by first | exact gz_ne rfl | decide))
          have t198 := p189 0 3 (fun q => absurd q.1 (by first | exact gz_ne rfl | decide))
          have f199 := (gr_b_0_71 hI188)
          have f200 := (gr_b_0_72 hI188)
          have f201 := (gr_b_0_73 hI188)
          have f202 := (gr_b_0_69 hI188)
          have f203 := (gr_b_0_6 hI188)
          have f204 := (gr_b_0_59 hI188)
          have f205 := (gr_b_0_118 hI188)
          have f206 := (gr_b_0_119 hI188)
          have f207 := (gr_b_0_3 hI188)
          have KLN_I188 := gr_LN_fr KLN_I166 (fun k => p189 19 k (fun q => absurd q.1 (by first | exact gz_ne rfl | decide))) (by exact gz_m 48 (by omega)) (by exact gz_m 49 (by omega))
          have KLK_I188 := gr_LKs_fr KLK_I166 (fun k => p189 51 k (fun q => absurd q.1 (by first | exact gz_ne rfl | decide))) (p189 0 59 (fun q => absurd q.1 (by first | exact gz_ne rfl | decide)))
          have A208 := gr_ATp_sr A186 p189 rfl
          refine gv_run 7 true hD (pcₚ := 564) (lvₚ := [(0, .inr (.inr (some 0))), (3, .inl v3_12), (5, .inl v5_116), (6, .inl v6_129)]) (stₚ := [.inl ((6 * v5_116) + v6_129), .inr (.inr (some 49))]) (hₚ := gr_h I188 J128) (C := (((((((True ∧ True) ∧ True) ∧ True) ∧ True) ∧ True) ∧ True) ∧ True)) rfl ⟨⟨⟨⟨⟨⟨⟨trivial, trivial⟩, trivial⟩, trivial⟩, trivial⟩, trivial⟩, trivial⟩, trivial⟩ ?_
          have f209 := (gr_b_73 hI188 (Int.toNat v6_129))
          refine gv_run 4 true hD (pcₚ := 571) (lvₚ := [(0, .inr (.inr (some 0))), (3, .inl v3_12), (5, .inl v5_116), (6, .inl v6_129)]) (stₚ := [.inl (I188 73 (Int.toNat v6_129)), .inl ((6 * v5_116) + v6_129), .inr (.inr (some 49))]) (hₚ := gr_h I188 J128) (C := ((((True ∧ True) ∧ True) ∧ True) ∧ (0 ≤ v6_129 ∧ v6_129 < ((6 : Nat) : Int)))) rfl ⟨⟨⟨⟨trivial, trivial⟩, trivial⟩, trivial⟩, ⟨by exact gz_m 50 (by omega), by exact gz_m 51 (by omega)⟩⟩ ?_
          refine gv_run 1 true hD (pcₚ := 572) (lvₚ := [(0, .inr (.inr (some 0))), (3, .inl v3_12), (5, .inl v5_116), (6, .inl v6_129)]) (stₚ := []) (hₚ := gz_up (gr_h I188 J128) 49 (Int.toNat (((6 * v5_116) + v6_129))) (.inl ((I188 73 (Int.toNat v6_129))))) (C := (True ∧ (0 ≤ (((6 * v5_116) + v6_129)) ∧ (((6 * v5_116) + v6_129)) < ((18432 : Nat) : Int)))) rfl ⟨trivial, ⟨by exact gz_m 52 (by omega), by exact gz_m 53 (by omega)⟩⟩ ?_
          refine gr_st hI188 FI188 rfl rfl ⟨⟨by show 0 ≤ _; exact gz_m 54 (by omega), by show _ ≤ 7; exact gz_m 55 (by omega)⟩, trivial⟩ (fun I210 hI210 FI210 q211 p211 => ?_)
          have t212 := p211 0 71 (fun q => absurd q.1 (by first | exact gz_ne rfl | decide))
          have t213 := p211 0 72 (fun q => absurd q.1 (by first | exact gz_ne rfl | decide))
          have t214 := p211 0 73 (fun q => absurd q.1 (by first | exact gz_ne rfl | decide))
          have t215 := p211 0 69 (fun q => absurd q.1 (by first | exact gz_ne rfl | decide))
          have t216 := p211 0 6 (fun q => absurd q.1 (by first | exact gz_ne rfl | decide))
          have t217 := p211 0 59 (fun q => absurd q.1 (by first | exact gz_ne rfl | decide))
          have t218 := p211 0 118 (fun q => absurd q.1 (by first | exact gz_ne rfl | decide))
          have t219 := p211 0 119 (fun q => absurd q.1 (by first | exact gz_ne rfl | decide))
          have t220 := p211 0 3 (fun q => absurd q.1 (by first | exact gz_ne rfl | decide))
          have f221 := (gr_b_0_71 hI210)
          have f222 := (gr_b_0_72 hI210)
          have f223 := (gr_b_0_73 hI210)
          have f224 := (gr_b_0_69 hI210)
          have f225 := (gr_b_0_6 hI210)
          have f226 := (gr_b_0_59 hI210)
          have f227 := (gr_b_0_118 hI210)
          have f228 := (gr_b_0_119 hI210)
          have f229 := (gr_b_0_3 hI210)
          have KLN_I210 := gr_LN_fr KLN_I188 (fun k => p211 19 k (fun q => absurd q.1 (by first | exact gz_ne rfl | decide))) (by exact gz_m 56 (by omega)) (by exact gz_m 57 (by omega))
          have KLK_I210 := gr_LKs_fr KLK_I188 (fun k => p211 51 k (fun q => absurd q.1 (by first | exact gz_ne rfl | decide))) (p211 0 59 (fun q => absurd q.1 (by first | exact gz_ne rfl | decide)))
          have A230 := gr_ATp_sr A208 p211 rfl
          refine gv_run 2 true hD (pcₚ := 483) (lvₚ := [(6, .inl (v6_129 + 1)), (0, .inr (.inr (some 0))), (3, .inl v3_12), (5, .inl v5_116)]) (stₚ := []) (hₚ := gr_h I210 J128) (C := ((True ∧ True) ∧ True)) rfl ⟨⟨trivial, trivial⟩, trivial⟩ ?_
          refine gv_pick [1, 2, 3, 0] rfl ?_
          exact ih483 I210 J128 (v6_129 + 1) p_129 (by exact gz_m 58 (by omega)) hI210 FI210 FJ128 KLN_I210 KLK_I210 (by exact gz_m 59 (by omega)) (gr_Q2_nx e0_129 (by exact gz_m 60 (by omega)) (by exact gz_m 61 (by omega)) p145 q145 (by exact gz_m 62 (by omega)) p167 q167 (by exact gz_m 63 (by omega)) p189 p211) A230 e3_129 e4_129 (gs_Uln_fr e5_129 (fun j => ((((p211 19 j (fun q => absurd q.1 (by first | exact gz_ne rfl | decide))).trans (p189 19 j (fun q => absurd q.1 (by first | exact gz_ne rfl | decide)))).trans (p167 19 j (fun q => absurd q.1 (by first | exact gz_ne rfl | decide)))).trans (p145 19 j (fun q => absurd q.1 (by first | exact gz_ne rfl | decide))))) (fun j => ((((p211 41 j (fun q => absurd q.1 (by first | exact gz_ne rfl | decide))).trans (p189 41 j (fun q => absurd q.1 (by first | exact gz_ne rfl | decide)))).trans (p167 41 j (fun q => absurd q.1 (by first | exact gz_ne rfl | decide)))).trans (p145 41 j (fun q => absurd q.1 (by first | exact gz_ne rfl | decide))))))
    have f231 := (gr_b_0_118 hI114)
    refine gv_run 3 true hD (pcₚ := 431) (lvₚ := [(0, .inr (.inr (some 0))), (3, .inl v3_12), (5, .inl v5_116), (6, .inl v6_116)]) (stₚ := [.inl (I114 0 118), .inl v6_116]) (hₚ := gr_h I114 J115) (C := (((True ∧ True) ∧ True) ∧ True)) rfl ⟨⟨⟨trivial, trivial⟩, trivial⟩, trivial⟩ ?_
    refine gv_icmp_ge (t := 480) hD rfl rfl ⟨⟨by exact gz_m 64 (by omega), by exact gz_m 65 (by omega)⟩, ⟨by exact gz_m 66 (by omega), by exact gz_m 67 (by omega)⟩⟩ (fun c232 => ?_) (fun c232 => ?_)
    · refine gv_run 2 true hD (pcₚ := 483) (lvₚ := [(6, .inl 0), (0, .inr (.inr (some 0))), (3, .inl v3_12), (5, .inl v5_116)]) (stₚ := []) (hₚ := gr_h I114 J115) (C := ((True ∧ True) ∧ True)) rfl ⟨⟨trivial, trivial⟩, trivial⟩ ?_
      refine gv_pick [1, 2, 3, 0] rfl ?_
      exact L483 _ I114 J115 0 p_116 (Nat.lt_succ_self _) hI114 FI114 FJ115 KLN_I114 KLK_I114 (by exact gz_m 68 (by omega)) (gr_Q2_in e0_116 (by exact gz_m 69 (by omega))) e2_116 e3_116 e4_116 (gs_Uln_fr e5_116 (fun j => rfl) (fun j => rfl))
    · refine gv_run 7 true hD (pcₚ := 446) (lvₚ := [(0, .inr (.inr (some 0))), (3, .inl v3_12), (5, .inl v5_116), (6, .inl v6_116)]) (stₚ := [.inl ((6 * v5_116) + v6_116), .inr (.inr (some 43))]) (hₚ := gr_h I114 J115) (C := (((((((True ∧ True) ∧ True) ∧ True) ∧ True) ∧ True) ∧ True) ∧ True)) rfl ⟨⟨⟨⟨⟨⟨⟨trivial, trivial⟩, trivial⟩, trivial⟩, trivial⟩, trivial⟩, trivial⟩, trivial⟩ ?_
      have f233 := (gr_b_68 hI114 (Int.toNat v6_116))
      refine gv_run 4 true hD (pcₚ := 453) (lvₚ := [(0, .inr (.inr (some 0))), (3, .inl v3_12), (5, .inl v5_116), (6, .inl v6_116)]) (stₚ := [.inl (I114 68 (Int.toNat v6_116)), .inl ((6 * v5_116) + v6_116), .inr (.inr (some 43))]) (hₚ := gr_h I114 J115) (C := ((((True ∧ True) ∧ True) ∧ True) ∧ (0 ≤ v6_116 ∧ v6_116 < ((6 : Nat) : Int)))) rfl ⟨⟨⟨⟨trivial, trivial⟩, trivial⟩, trivial⟩, ⟨by exact gz_m 70 (by omega), by exact gz_m 71 (by omega)⟩⟩ ?_
      refine gv_run 1 true hD (pcₚ := 454) (lvₚ := [(0, .inr (.inr (some 0))), (3, .inl v3_12), (5, .inl v5_116), (6, .inl v6_116)]) (stₚ := []) (hₚ := gz_up (gr_h I114 J115) 43 (Int.toNat (((6 * v5_116) + v6_116))) (.inl ((I114 68 (Int.toNat v6_116))))) (C := (True ∧ (0 ≤ (((6 * v5_116) + v6_116)) ∧ (((6 * v5_116) + v6_116)) < ((18432 : Nat) : Int)))) rfl ⟨trivial, ⟨by exact gz_m 72 (by omega), by exact gz_m 73 (by omega)⟩⟩ ?_
      refine gr_st hI114 FI114 rfl rfl ⟨⟨by show (-4) ≤ _; exact gz_m 74 (by omega), by show _ ≤ 32015; exact gz_m 75 (by omega)⟩, trivial⟩ (fun I234 hI234 FI234 q235 p235 => ?_)
      have t236 := p235 0 71 (fun q => absurd q.1 (by first | exact gz_ne rfl | decide))
      have t237 := p235 0 72 (fun q => absurd q.1 (by first | exact gz_ne rfl | decide))
      have t238 := p235 0 73 (fun q => absurd q.1 (by first | exact gz_ne rfl | decide))
      have t239 := p235 0 69 (fun q => absurd q.1 (by first | exact gz_ne rfl | decide))
      have t240 := p235 0 6 (fun q => absurd q.1 (by first | exact gz_ne rfl | decide))
      have t241 := p235 0 59 (fun q => absurd q.1 (by first | exact gz_ne rfl | decide))
      have t242 := p235 0 118 (fun q => absurd q.1 (by first | exact gz_ne rfl | decide))
      have t243 := p235 0 119 (fun q => absurd q.1 (by first | exact gz_ne rfl | decide))
      have t244 := p235 0 3 (fun q => absurd q.1 (by first | exact gz_ne rfl | decide))
      have f245 := (gr_b_0_71 hI234)
      have f246 := (gr_b_0_72 hI234)
      have f247 := (gr_b_0_73 hI234)
      have f248 := (gr_b_0_69 hI234)
      have f249 := (gr_b_0_6 hI234)
      have f250 := (gr_b_0_59 hI234)
      have f251 := (gr_b_0_118 hI234)
      have f252 := (gr_b_0_119 hI234)
      have f253 := (gr_b_0_3 hI234)
      have KLN_I234 := gr_LN_fr KLN_I114 (fun k => p235 19 k (fun q => absurd q.1 (by first | exact gz_ne rfl | decide))) (by exact gz_m 76 (by omega)) (by exact gz_m 77 (by omega))
      have KLK_I234 := gr_LKs_fr KLK_I114 (fun k => p235 51 k (fun q => absurd q.1 (by first | exact gz_ne rfl | decide))) (p235 0 59 (fun q => absurd q.1 (by first | exact gz_ne rfl | decide)))
      have A254 := gr_ATp_sr e2_116 p235 rfl
      refine gv_run 7 true hD (pcₚ := 466) (lvₚ := [(0, .inr (.inr (some 0))), (3, .inl v3_12), (5, .inl v5_116), (6, .inl v6_116)]) (stₚ := [.inl ((6 * v5_116) + v6_116), .inr (.inr (some 44))]) (hₚ := gr_h I234 J115) (C := (((((((True ∧ True) ∧ True) ∧ True) ∧ True) ∧ True) ∧ True) ∧ True)) rfl ⟨⟨⟨⟨⟨⟨⟨trivial, trivial⟩, trivial⟩, trivial⟩, trivial⟩, trivial⟩, trivial⟩, trivial⟩ ?_
      have f255 := (gr_b_69 hI234 (Int.toNat v6_116))
      refine gv_run 4 true hD (pcₚ := 473) (lvₚ := [(0, .inr (.inr (some 0))), (3, .inl v3_12), (5, .inl v5_116), (6, .inl v6_116)]) (stₚ := [.inl (I234 69 (Int.toNat v6_116)), .inl ((6 * v5_116) + v6_116), .inr (.inr (some 44))]) (hₚ := gr_h I234 J115) (C := ((((True ∧ True) ∧ True) ∧ True) ∧ (0 ≤ v6_116 ∧ v6_116 < ((6 : Nat) : Int)))) rfl ⟨⟨⟨⟨trivial, trivial⟩, trivial⟩, trivial⟩, ⟨by exact gz_m 78 (by omega), by exact gz_m 79 (by omega)⟩⟩ ?_
      refine gv_run 1 true hD (pcₚ := 474) (lvₚ := [(0, .inr (.inr (some 0))), (3, .inl v3_12), (5, .inl v5_116), (6, .inl v6_116)]) (stₚ := []) (hₚ := gz_up (gr_h I234 J115) 44 (Int.toNat (((6 * v5_116) + v6_116))) (.inl ((I234 69 (Int.toNat v6_116))))) (C := (True ∧ (0 ≤ (((6 * v5_116) + v6_116)) ∧ (((6 * v5_116) + v6_116)) < ((18432 : Nat) : Int)))) rfl ⟨trivial, ⟨by exact gz_m 80 (by omega), by exact gz_m 81 (by omega)⟩⟩ ?_
      refine gr_st hI234 FI234 rfl rfl ⟨⟨by show 0 ≤ _; exact gz_m 82 (by omega), by show _ ≤ 16777215; exact gz_m 83 (by omega)⟩, trivial⟩ (fun I256 hI256 FI256 q257 p257 => ?_)
      have t258 := p257 0 71 (fun q => absurd q.1 (by first | exact gz_ne rfl | decide))
      have t259 := p257 0 72 (fun q => absurd q.1 (by first | exact gz_ne rfl | decide))
      have t260 := p257 0 73 (fun q => absurd q.1 (by first | exact gz_ne rfl | decide))
      have t261 := p257 0 69 (fun q => absurd q.1 (by first | exact gz_ne rfl | decide))
      have t262 := p257 0 6 (fun q => absurd q.1 (by first | exact gz_ne rfl | decide))
      have t263 := p257 0 59 (fun q => absurd q.1 (by first | exact gz_ne rfl | decide))
      have t264 := p257 0 118 (fun q => absurd q.1 (by first | exact gz_ne rfl | decide))
      have t265 := p257 0 119 (fun q => absurd q.1 (by first | exact gz_ne rfl | decide))
      have t266 := p257 0 3 (fun q => absurd q.1 (by first | exact gz_ne rfl | decide))
      have f267 := (gr_b_0_71 hI256)
      have f268 := (gr_b_0_72 hI256)
      have f269 := (gr_b_0_73 hI256)
      have f270 := (gr_b_0_69 hI256)
      have f271 := (gr_b_0_6 hI256)
      have f272 := (gr_b_0_59 hI256)
      have f273 := (gr_b_0_118 hI256)
      have f274 := (gr_b_0_119 hI256)
      have f275 := (gr_b_0_3 hI256)
      have KLN_I256 := gr_LN_fr KLN_I234 (fun k => p257 19 k (fun q => absurd q.1 (by first | exact gz_ne rfl | decide))) (by exact gz_m 84 (by omega)) (by exact gz_m 85 (by omega))
      have KLK_I256 := gr_LKs_fr KLK_I234 (fun k => p257 51 k (fun q => absurd q.1 (by first | exact gz_ne rfl | decide))) (p257 0 59 (fun q => absurd q.1 (by first | exact gz_ne rfl | decide)))
      have A276 := gr_ATp_sr A254 p257 rfl
      refine gv_run 2 true hD (pcₚ := 425) (lvₚ := [(6, .inl (v6_116 + 1)), (0, .inr (.inr (some 0))), (3, .inl v3_12), (5, .inl v5_116)]) (stₚ := []) (hₚ := gr_h I256 J115) (C := ((True ∧ True) ∧ True)) rfl ⟨⟨trivial, trivial⟩, trivial⟩ ?_
      refine gv_pick [1, 2, 3, 0] rfl ?_
      exact ih425 I256 J115 v5_116 (v6_116 + 1) p_116 (by exact gz_m 86 (by omega)) hI256 FI256 FJ115 KLN_I256 KLK_I256 (by exact gz_m 87 (by omega)) (gr_Q1_nx e0_116 (by exact gz_m 88 (by omega)) (by exact gz_m 89 (by omega)) p235 q235 (by exact gz_m 90 (by omega)) p257) A276 e3_116 e4_116 (gs_Uln_fr e5_116 (fun j => ((p257 19 j (fun q => absurd q.1 (by first | exact gz_ne rfl | decide))).trans (p235 19 j (fun q => absurd q.1 (by first | exact gz_ne rfl | decide))))) (fun j => ((p257 41 j (fun q => absurd q.1 (by first | exact gz_ne rfl | decide))).trans (p235 41 j (fun q => absurd q.1 (by first | exact gz_ne rfl | decide))))))
set_option maxHeartbeats 32000000 in
set_option maxRecDepth 100000 in
theorem r_lin_p_L183 {ws0 : List Cond} {tb : String → gz_T} (hws : ∀ w ∈ gr_ws, w ∈ ws0) (htb : tb RX13 = gr_T) (ext : gz_Sh) (B : Int) (hB : B ≤ 1500) (I9 : gr_I) (β : Int → Int) (N9 : Int) (p9 : Int) (I : gr_I) (J : gr_J) (hI : gr_Inv I) (x1 : I 0 72 ≤ I 0 69) (x4 : I 0 72 ≤ I 0 73) (x5 : 0 ≤ I 0 6) (x6 : I 0 59 + I 0 69 - I 0 72 ≤ 1900) (x7 : gr_ATp β N9 p9 I J) (x8 : 0 ≤ p9) (x9 : gr_KW J) (KLN_I : gr_LN B I) (KGR_I : gr_GR I) (KST_I : gr_ST I9 I) (v2_12 : Int) (v3_12 : Int) : ∀ (I66 : gr_I) (J67 : gr_J) (p_68 : Int), gr_Inv I66 → gr_fr [59, 71, 72, 73, 74, 75, 76, 77, 101, 106, 118, 119, 120] [19, 41, 42, 43, 44, 45, 46, 47, 48, 49, 50, 51, 68, 69, 70, 71, 72, 73, 74] I I66 → gr_fj [59, 71, 72, 73, 74, 75, 76, 77, 101, 106, 118, 119, 120] [19, 41, 42, 43, 44, 45, 46, 47, 48, 49, 50, 51, 68, 69, 70, 71, 72, 73, 74] J J67 → gr_LN B I66 → gr_GR I66 → gr_ST I9 I66 → gr_LKs I I66 → ((0 ≤ (I 0 6) ∧ (I 0 6) ≤ 7) ∧ (0 ≤ v2_12 ∧ v2_12 ≤ 1000) ∧ (0 ≤ v3_12 ∧ v3_12 ≤ 95) ∧ (I 0 72 + 3 ≤ I66 0 72) ∧ (I66 19 (Int.toNat (I 0 6)) = I 19 (Int.toNat (I 0 6))) ∧ (v3_12 < I66 0 3) ∧ (0 ≤ p_68) ∧ (I66 0 72 ≤ I66 0 69) ∧ (I66 0 72 ≤ I66 0 73) ∧ (I66 0 69 = I 0 69) ∧ (I 0 73 ≤ I66 0 73) ∧ (I 0 72 ≤ I66 0 72) ∧ (I66 0 6 = I 0 6) ∧ (I66 0 59 - I66 0 72 ≤ I 0 59 - I 0 72)) → (gr_R1 v3_12 I66) → (gr_ATp β N9 p_68 I66 J67) → ((gs_lin β N9 I J (I 0 78) p9) = gs_ln4 β N9 I (I 0 78) v3_12 v2_12 (I66 0 118) (gs_i0 I66) (gs_a4 (I66 74)) p_68) → (v3_12 = gs_lk I J 3 3 (gs_rn β N9 p9)) → ((∀ k, I66 19 k = I 19 k) ∧ (∀ k, I66 41 k = I 41 k)) → gv_X (gr_E ws0 tb 12 (yX13_lin, cX13_lin, 7, (some .boolean)) kX13_lin) (gv_Q cX13_lin (some .boolean) (gr_sh ++ ext) (fun r hₚ => (∃ (Iₚ : gr_I) (Jₚ : gr_J), hₚ = gr_h Iₚ Jₚ ∧ gr_Inv Iₚ ∧ gr_fr [59, 71, 72, 73, 74, 75, 76, 77, 101, 106, 118, 119, 120] [19, 41, 42, 43, 44, 45, 46, 47, 48, 49, 50, 51, 68, 69, 70, 71, 72, 73, 74] I Iₚ ∧ gr_fj [59, 71, 72, 73, 74, 75, 76, 77, 101, 106, 118, 119, 120] [19, 41, 42, 43, 44, 45, 46, 47, 48, 49, 50, 51, 68, 69, 70, 71, 72, 73, 74] J Jₚ ∧ gr_LN B Iₚ ∧ gr_GR Iₚ ∧ gr_ST I9 Iₚ ∧ (∃ z : Int, r = some (.inl z) ∧ 0 ≤ z ∧ z ≤ 1 ∧ (Iₚ 0 71 = 5 ∨ Iₚ 0 73 ≤ Iₚ 0 69) ∧ (Iₚ 0 72 ≤ Iₚ 0 69) ∧ (Iₚ 0 71 = 0 ∨ (Iₚ 0 72 < Iₚ 0 73 ∧ Iₚ 0 72 < Iₚ 0 69)) ∧ (Iₚ 0 71 = 3 → 2 ≤ Iₚ 0 73 - Iₚ 0 72 ∧ Iₚ 0 73 - Iₚ 0 72 ≤ 14) ∧ (Iₚ 0 72 ≤ Iₚ 0 73) ∧ (Iₚ 0 69 = I 0 69) ∧ (I 0 73 ≤ Iₚ 0 73) ∧ (I 0 72 ≤ Iₚ 0 72) ∧ (Iₚ 0 59 - Iₚ 0 72 ≤ I 0 59 - I 0 72) ∧ (gr_LKs I Iₚ) ∧ (gs_Or z (0 ≤ (gs_lin β N9 I J (I 0 78) p9) ∧ gr_ATp β N9 (gs_lin β N9 I J (I 0 78) p9) Iₚ Jₚ ∧ gs_Uln (gs_lk I J 3 3 (gs_rn β N9 p9)) I Iₚ) ((gs_lin β N9 I J (I 0 78) p9) < 0 ∧ Iₚ 0 77 = -1 - (gs_lin β N9 I J (I 0 78) p9) ∧ gs_Sln I Iₚ)))))) (183, [(0, .inr (.inr (some 0))), (1, .inl (I 0 6)), (2, .inl v2_12), (3, .inl v3_12)], [], gr_sh ++ ext, gr_h I66 J67) := by
  have FI : gr_fr [59, 71, 72, 73, 74, 75, 76, 77, 101, 106, 118, 119, 120] [19, 41, 42, 43, 44, 45, 46, 47, 48, 49, 50, 51, 68, 69, 70, 71, 72, 73, 74] I I := fun _ _ _ => rfl
  have FJ : gr_fj [59, 71, 72, 73, 74, 75, 76, 77, 101, 106, 118, 119, 120] [19, 41, 42, 43, 44, 45, 46, 47, 48, 49, 50, 51, 68, 69, 70, 71, 72, 73, 74] J J := fun _ _ _ => rfl
  have hD : gv_D (gr_E ws0 tb 12 (yX13_lin, cX13_lin, 7, (some .boolean)) kX13_lin) := gq_of oX13_lin
  have tAT := gr_ATp_l x7
  skip
  have KW := x9
  have f1 := (gr_b_0_71 hI)
  have f2 := (gr_b_0_72 hI)
  have f3 := (gr_b_0_73 hI)
  have f4 := (gr_b_0_69 hI)
  have f5 := (gr_b_0_6 hI)
  have f6 := (gr_b_0_59 hI)
  have f7 := (gr_b_0_118 hI)
  have f8 := (gr_b_0_119 hI)
  have f9 := (gr_b_0_3 hI)
  have KLK_I : gr_LKs I I := gr_LKs_rf
  intro I66 J67 p_68 hI66 FI66 FJ67 KLN_I66 KGR_I66 KST_I66 KLK_I66 m_68 e3_68 e5_68 e6_68 e7_68 e8_68
  obtain ⟨h_I_0_6__68, hv2_12_68, hv3_12_68, e0_68, e1_68, e2_68, e4_68, e9_68, e10_68, e11_68, e12_68, e13_68, e14_68, e15_68⟩ := m_68
  have f69 := (gr_b_0_71 hI66)
  have f70 := (gr_b_0_72 hI66)
  have f71 := (gr_b_0_73 hI66)
  have f72 := (gr_b_0_69 hI66)
  have f73 := (gr_b_0_6 hI66)
  have f74 := (gr_b_0_59 hI66)
  have f75 := (gr_b_0_118 hI66)
  have f76 := (gr_b_0_119 hI66)
  have f77 := (gr_b_0_3 hI66)
  have t78 := KLN_I (Int.toNat (I 0 6)) (by exact gz_m 7 (by omega))
  have t79 := gr_ATp_l e5_68
  have L261 : ((0 ≤ (I 0 6) ∧ (I 0 6) ≤ 7) ∧ (0 ≤ v2_12 ∧ v2_12 ≤ 1000) ∧ (0 ≤ v3_12 ∧ v3_12 ≤ 95) ∧ (I 0 72 + 3 ≤ I66 0 72) ∧ (I66 19 (Int.toNat (I 0 6)) = I 19 (Int.toNat (I 0 6))) ∧ (v3_12 < I66 0 3) ∧ (0 ≤ p_68) ∧ (I66 0 72 ≤ I66 0 69) ∧ (I66 0 72 ≤ I66 0 73) ∧ (I66 0 69 = I 0 69) ∧ (I 0 73 ≤ I66 0 73) ∧ (I 0 72 ≤ I66 0 72) ∧ (I66 0 6 = I 0 6) ∧ (I66 0 59 - I66 0 72 ≤ I 0 59 - I 0 72)) → (gr_R3 v3_12 0 I66) → (gr_ATp β N9 p_68 I66 J67) → ((gs_lin β N9 I J (I 0 78) p9) = gs_ln6 β N9 I (I 0 78) v3_12 v2_12 (gs_a4 (I66 74)) p_68) → (v3_12 = gs_lk I J 3 3 (gs_rn β N9 p9)) → ((∀ k, I66 19 k = I 19 k) ∧ (∀ k, I66 41 k = I 41 k)) → gv_X (gr_E ws0 tb 12 (yX13_lin, cX13_lin, 7, (some .boolean)) kX13_lin) (gv_Q cX13_lin (some .boolean) (gr_sh ++ ext) (fun r hₚ => (∃ (Iₚ : gr_I) (Jₚ : gr_J), hₚ = gr_h Iₚ Jₚ ∧ gr_Inv Iₚ ∧ gr_fr [59, 71, 72, 73, 74, 75, 76, 77, 101, 106, 118, 119, 120] [19, 41, 42, 43, 44, 45, 46, 47, 48, 49, 50, 51, 68, 69, 70, 71, 72, 73, 74] I Iₚ ∧ gr_fj [59, 71, 72, 73, 74, 75, 76, 77, 101, 106, 118, 119, 120] [19, 41, 42, 43, 44, 45, 46, 47, 48, 49, 50, 51, 68, 69, 70, 71, 72, 73, 74] J Jₚ ∧ gr_LN B Iₚ ∧ gr_GR Iₚ ∧ gr_ST I9 Iₚ ∧ (∃ z : Int, r = some (.inl z) ∧ 0 ≤ z ∧ z ≤ 1 ∧ (Iₚ 0 71 = 5 ∨ Iₚ 0 73 ≤ Iₚ 0 69) ∧ (Iₚ 0 72 ≤ Iₚ 0 69) ∧ (Iₚ 0 71 = 0 ∨ (Iₚ 0 72 < Iₚ 0 73 ∧ Iₚ 0 72 < Iₚ 0 69)) ∧ (Iₚ 0 71 = 3 → 2 ≤ Iₚ 0 73 - Iₚ 0 72 ∧ Iₚ 0 73 - Iₚ 0 72 ≤ 14) ∧ (Iₚ 0 72 ≤ Iₚ 0 73) ∧ (Iₚ 0 69 = I 0 69) ∧ (I 0 73 ≤ Iₚ 0 73) ∧ (I 0 72 ≤ Iₚ 0 72) ∧ (Iₚ 0 59 - Iₚ 0 72 ≤ I 0 59 - I 0 72) ∧ (gr_LKs I Iₚ) ∧ (gs_Or z (0 ≤ (gs_lin β N9 I J (I 0 78) p9) ∧ gr_ATp β N9 (gs_lin β N9 I J (I 0 78) p9) Iₚ Jₚ ∧ gs_Uln (gs_lk I J 3 3 (gs_rn β N9 p9)) I Iₚ) ((gs_lin β N9 I J (I 0 78) p9) < 0 ∧ Iₚ 0 77 = -1 - (gs_lin β N9 I J (I 0 78) p9) ∧ gs_Sln I Iₚ)))))) (261, [(0, .inr (.inr (some 0))), (1, .inl (I 0 6)), (2, .inl v2_12), (3, .inl v3_12)], [], gr_sh ++ ext, gr_h I66 J67) := by
    intro m_80 e3_80 e5_80 e6_80 e7_80 e8_80
    obtain ⟨h_I_0_6__80, hv2_12_80, hv3_12_80, e0_80, e1_80, e2_80, e4_80, e9_80, e10_80, e11_80, e12_80, e13_80, e14_80, e15_80⟩ := m_80
    have f81 := (gr_b_0_71 hI66)
    have f82 := (gr_b_0_72 hI66)
    have f83 := (gr_b_0_73 hI66)
    have f84 := (gr_b_0_69 hI66)
    have f85 := (gr_b_0_6 hI66)
    have f86 := (gr_b_0_59 hI66)
    have f87 := (gr_b_0_118 hI66)
    have f88 := (gr_b_0_119 hI66)
    have f89 := (gr_b_0_3 hI66)
    have t90 := KLN_I (Int.toNat (I 0 6)) (by exact gz_m 8 (by omega))
    have t91 := gr_ATp_l e5_68
    have L264 : ∀ (n : Nat) (v4_92 : Int), (5 - v4_92).toNat < n → ((0 ≤ (I 0 6) ∧ (I 0 6) ≤ 7) ∧ (0 ≤ v2_12 ∧ v2_12 ≤ 1000) ∧ (0 ≤ v3_12 ∧ v3_12 ≤ 95) ∧ (0 ≤ v4_92 ∧ v4_92 ≤ 4) ∧ (I66 19 (Int.toNat (I 0 6)) = I 19 (Int.toNat (I 0 6))) ∧ (v3_12 < I66 0 3) ∧ (I66 0 72 ≤ I66 0 69) ∧ (I66 0 72 ≤ I66 0 73) ∧ (I66 0 69 = I 0 69) ∧ (I 0 73 ≤ I66 0 73) ∧ (I 0 72 ≤ I66 0 72) ∧ (I66 0 6 = I 0 6) ∧ (I66 0 59 - I66 0 72 ≤ I 0 59 - I 0 72)) → (gr_R3 v3_12 v4_92 I66) → (gs_all (gs_a4 (I66 74)) (Int.toNat (I 6 (Int.toNat v3_12))) 0 = gs_all (gs_a4 (I66 74)) (Int.toNat ((I 6 (Int.toNat v3_12)) - v4_92)) (Int.toNat v4_92)) → gv_X (gr_E ws0 tb 12 (yX13_lin, cX13_lin, 7, (some .boolean)) kX13_lin) (gv_Q cX13_lin (some .boolean) (gr_sh ++ ext) (fun r hₚ => (∃ (Iₚ : gr_I) (Jₚ : gr_J), hₚ = gr_h Iₚ Jₚ ∧ gr_Inv Iₚ ∧ gr_fr [59, 71, 72, 73, 74, 75, 76, 77, 101, 106, 118, 119, 120] [19, 41, 42, 43, 44, 45, 46, 47, 48, 49, 50, 51, 68, 69, 70, 71, 72, 73, 74] I Iₚ ∧ gr_fj [59, 71, 72, 73, 74, 75, 76, 77, 101, 106, 118, 119, 120] [19, 41, 42, 43, 44, 45, 46, 47, 48, 49, 50, 51, 68, 69, 70, 71, 72, 73, 74] J Jₚ ∧ gr_LN B Iₚ ∧ gr_GR Iₚ ∧ gr_ST I9 Iₚ ∧ (∃ z : Int, r = some (.inl z) ∧ 0 ≤ z ∧ z ≤ 1 ∧ (Iₚ 0 71 = 5 ∨ Iₚ 0 73 ≤ Iₚ 0 69) ∧ (Iₚ 0 72 ≤ Iₚ 0 69) ∧ (Iₚ 0 71 = 0 ∨ (Iₚ 0 72 < Iₚ 0 73 ∧ Iₚ 0 72 < Iₚ 0 69)) ∧ (Iₚ 0 71 = 3 → 2 ≤ Iₚ 0 73 - Iₚ 0 72 ∧ Iₚ 0 73 - Iₚ 0 72 ≤ 14) ∧ (Iₚ 0 72 ≤ Iₚ 0 73) ∧ (Iₚ 0 69 = I 0 69) ∧ (I 0 73 ≤ Iₚ 0 73) ∧ (I 0 72 ≤ Iₚ 0 72) ∧ (Iₚ 0 59 - Iₚ 0 72 ≤ I 0 59 - I 0 72) ∧ (gr_LKs I Iₚ) ∧ (gs_Or z (0 ≤ (gs_lin β N9 I J (I 0 78) p9) ∧ gr_ATp β N9 (gs_lin β N9 I J (I 0 78) p9) Iₚ Jₚ ∧ gs_Uln (gs_lk I J 3 3 (gs_rn β N9 p9)) I Iₚ) ((gs_lin β N9 I J (I 0 78) p9) < 0 ∧ Iₚ 0 77 = -1 - (gs_lin β N9 I J (I 0 78) p9) ∧ gs_Sln I Iₚ)))))) (264, [(0, .inr (.inr (some 0))), (1, .inl (I 0 6)), (2, .inl v2_12), (3, .inl v3_12), (4, .inl v4_92)], [], gr_sh ++ ext, gr_h I66 J67) := by
      intro n
      induction n with
      | zero => intro v4_92 hn; exact gz_m 9 (by omega)
      | succ n ih264 =>
        intro v4_92 hn m_92 e2_92 e3_92
        obtain ⟨h_I_0_6__92, hv2_12_92, hv3_12_92, hv4_92, e0_92, e1_92, e4_92, e5_92, e6_92, e7_92, e8_92, e9_92, e10_92⟩ := m_92
        have f93 := (gr_b_0_71 hI66)
        have f94 := (gr_b_0_72 hI66)
        have f95 := (gr_b_0_73 hI66)
        have f96 := (gr_b_0_69 hI66)
        have f97 := (gr_b_0_6 hI66)
        have f98 := (gr_b_0_59 hI66)
        have f99 := (gr_b_0_118 hI66)
        have f100 := (gr_b_0_119 hI66)
        have f101 := (gr_b_0_3 hI66)
        have t102 := KLN_I (Int.toNat (I 0 6)) (by exact gz_m 10 (by omega))
        have L305 : ∀ (n : Nat) (v4_103 : Int) (v5_103 : Int), (385 - v5_103).toNat < n → ((0 ≤ (I 0 6) ∧ (I 0 6) ≤ 7) ∧ (0 ≤ v3_12 ∧ v3_12 ≤ 95) ∧ (0 ≤ v4_103 ∧ v4_103 ≤ 384) ∧ (0 ≤ v5_103 ∧ v5_103 ≤ 384) ∧ (v4_103 ≤ v5_103) ∧ (I66 19 (Int.toNat (I 0 6)) = I 19 (Int.toNat (I 0 6))) ∧ (v3_12 < I66 0 3) ∧ (I66 0 72 ≤ I66 0 69) ∧ (I66 0 72 ≤ I66 0 73) ∧ (I66 0 69 = I 0 69) ∧ (I 0 73 ≤ I66 0 73) ∧ (I 0 72 ≤ I66 0 72) ∧ (I66 0 6 = I 0 6) ∧ (I66 0 59 - I66 0 72 ≤ I 0 59 - I 0 72)) → (gr_LI v3_12 I66) → ((gs_lin β N9 I J (I 0 78) p9) = gs_ln7 β N9 I (I 0 78) v3_12 p_68) → (v4_103 = gs_cf (gs_lf I) v3_12 (Int.toNat v5_103)) → (v5_103 ≤ I 19 (Int.toNat (I 0 6))) → gv_X (gr_E ws0 tb 12 (yX13_lin, cX13_lin, 7, (some .boolean)) kX13_lin) (gv_Q cX13_lin (some .boolean) (gr_sh ++ ext) (fun r hₚ => (∃ (Iₚ : gr_I) (Jₚ : gr_J), hₚ = gr_h Iₚ Jₚ ∧ gr_Inv Iₚ ∧ gr_fr [59, 71, 72, 73, 74, 75, 76, 77, 101, 106, 118, 119, 120] [19, 41, 42, 43, 44, 45, 46, 47, 48, 49, 50, 51, 68, 69, 70, 71, 72, 73, 74] I Iₚ ∧ gr_fj [59, 71, 72, 73, 74, 75, 76, 77, 101, 106, 118, 119, 120] [19, 41, 42, 43, 44, 45, 46, 47, 48, 49, 50, 51, 68, 69, 70, 71, 72, 73, 74] J Jₚ ∧ gr_LN B Iₚ ∧ gr_GR Iₚ ∧ gr_ST I9 Iₚ ∧ (∃ z : Int, r = some (.inl z) ∧ 0 ≤ z ∧ z ≤ 1 ∧ (Iₚ 0 71 = 5 ∨ Iₚ 0 73 ≤ Iₚ 0 69) ∧ (Iₚ 0 72 ≤ Iₚ 0 69) ∧ (Iₚ 0 71 = 0 ∨ (Iₚ 0 72 < Iₚ 0 73 ∧ Iₚ 0 72 < Iₚ 0 69)) ∧ (Iₚ 0 71 = 3 → 2 ≤ Iₚ 0 73 - Iₚ 0 72 ∧ Iₚ 0 73 - Iₚ 0 72 ≤ 14) ∧ (Iₚ 0 72 ≤ Iₚ 0 73) ∧ (Iₚ 0 69 = I 0 69) ∧ (I 0 73 ≤ Iₚ 0 73) ∧ (I 0 72 ≤ Iₚ 0 72) ∧ (Iₚ 0 59 - Iₚ 0 72 ≤ I 0 59 - I 0 72) ∧ (gr_LKs I Iₚ) ∧ (gs_Or z (0 ≤ (gs_lin β N9 I J (I 0 78) p9) ∧ gr_ATp β N9 (gs_lin β N9 I J (I 0 78) p9) Iₚ Jₚ ∧ gs_Uln (gs_lk I J 3 3 (gs_rn β N9 p9)) I Iₚ) ((gs_lin β N9 I J (I 0 78) p9) < 0 ∧ Iₚ 0 77 = -1 - (gs_lin β N9 I J (I 0 78) p9) ∧ gs_Sln I Iₚ)))))) (305, [(0, .inr (.inr (some 0))), (1, .inl (I 0 6)), (3, .inl v3_12), (4, .inl v4_103), (5, .inl v5_103)], [], gr_sh ++ ext, gr_h I66 J67) := by
          intro n
          induction n with
          | zero => intro v4_103 v5_103 hn; exact gz_m 11 (by omega)
          | succ n ih305 =>
            intro v4_103 v5_103 hn m_103 e3_103 e4_103 e5_103 e6_103
            obtain ⟨h_I_0_6__103, hv3_12_103, hv4_103, hv5_103, e0_103, e1_103, e2_103, e7_103, e8_103, e9_103, e10_103, e11_103, e12_103, e13_103⟩ := m_103
            have f104 := (gr_b_0_71 hI66)
            have f105 := (gr_b_0_72 hI66)
            have f106 := (gr_b_0_73 hI66)
            have f107 := (gr_b_0_69 hI66)
            have f108 := (gr_b_0_6 hI66)
            have f109 := (gr_b_0_59 hI66)
            have f110 := (gr_b_0_118 hI66)
            have f111 := (gr_b_0_119 hI66)
            have f112 := (gr_b_0_3 hI66)
            have t113 := KLN_I (Int.toNat (I 0 6)) (by exact gz_m 12 (by omega))
            have L425 : ∀ (n : Nat) (I114 : gr_I) (J115 : gr_J) (v5_116 : Int) (v6_116 : Int) (p_116 : Int), (7 - v6_116).toNat < n → gr_Inv I114 → gr_fr [59, 71, 72, 73, 74, 75, 76, 77, 101, 106, 118, 119, 120] [19, 41, 42, 43, 44, 45, 46, 47, 48, 49, 50, 51, 68, 69, 70, 71, 72, 73, 74] I I114 → gr_fj [59, 71, 72, 73, 74, 75, 76, 77, 101, 106, 118, 119, 120] [19, 41, 42, 43, 44, 45, 46, 47, 48, 49, 50, 51, 68, 69, 70, 71, 72, 73, 74] J J115 → gr_LN B I114 → gr_LKs I I114 → ((0 ≤ v3_12 ∧ v3_12 ≤ 95) ∧ (0 ≤ v5_116 ∧ v5_116 ≤ 3071) ∧ (0 ≤ v6_116 ∧ v6_116 ≤ 6) ∧ (0 ≤ p_116) ∧ (I114 0 72 ≤ I114 0 69) ∧ (I114 0 72 ≤ I114 0 73) ∧ (I114 0 69 = I 0 69) ∧ (I 0 73 ≤ I114 0 73) ∧ (I 0 72 ≤ I114 0 72) ∧ (I114 0 6 = I 0 6) ∧ (I114 0 59 - I114 0 72 ≤ I 0 59 - I 0 72)) → (gr_Q1 I9 v3_12 v5_116 v6_116 I114) → (gr_ATp β N9 p_116 I114 J115) → ((gs_lin β N9 I J (I 0 78) p9) = p_116) → (v3_12 = gs_lk I J 3 3 (gs_rn β N9 p9)) → (gs_Uln v3_12 I I114) → gv_X (gr_E ws0 tb 12 (yX13_lin, cX13_lin, 7, (some .boolean)) kX13_lin) (gv_Q cX13_lin (some .boolean) (gr_sh ++ ext) (fun r hₚ => (∃ (Iₚ : gr_I) (Jₚ : gr_J), hₚ = gr_h Iₚ Jₚ ∧ gr_Inv Iₚ ∧ gr_fr [59, 71, 72, 73, 74, 75, 76, 77, 101, 106, 118, 119, 120] [19, 41, 42, 43, 44, 45, 46, 47, 48, 49, 50, 51, 68, 69, 70, 71, 72, 73, 74] I Iₚ ∧ gr_fj [59, 71, 72, 73, 74, 75, 76, 77, 101, 106, 118, 119, 120] [19, 41, 42, 43, 44, 45, 46, 47, 48, 49, 50, 51, 68, 69, 70, 71, 72, 73, 74] J Jₚ ∧ gr_LN B Iₚ ∧ gr_GR Iₚ ∧ gr_ST I9 Iₚ ∧ (∃ z : Int, r = some (.inl z) ∧ 0 ≤ z ∧ z ≤ 1 ∧ (Iₚ 0 71 = 5 ∨ Iₚ 0 73 ≤ Iₚ 0 69) ∧ (Iₚ 0 72 ≤ Iₚ 0 69) ∧ (Iₚ 0 71 = 0 ∨ (Iₚ 0 72 < Iₚ 0 73 ∧ Iₚ 0 72 < Iₚ 0 69)) ∧ (Iₚ 0 71 = 3 → 2 ≤ Iₚ 0 73 - Iₚ 0 72 ∧ Iₚ 0 73 - Iₚ 0 72 ≤ 14) ∧ (Iₚ 0 72 ≤ Iₚ 0 73) ∧ (Iₚ 0 69 = I 0 69) ∧ (I 0 73 ≤ Iₚ 0 73) ∧ (I 0 72 ≤ Iₚ 0 72) ∧ (Iₚ 0 59 - Iₚ 0 72 ≤ I 0 59 - I 0 72) ∧ (gr_LKs I Iₚ) ∧ (gs_Or z (0 ≤ (gs_lin β N9 I J (I 0 78) p9) ∧ gr_ATp β N9 (gs_lin β N9 I J (I 0 78) p9) Iₚ Jₚ ∧ gs_Uln (gs_lk I J 3 3 (gs_rn β N9 p9)) I Iₚ) ((gs_lin β N9 I J (I 0 78) p9) < 0 ∧ Iₚ 0 77 = -1 - (gs_lin β N9 I J (I 0 78) p9) ∧ gs_Sln I Iₚ)))))) (425, [(0, .inr (.inr (some 0))), (3, .inl v3_12), (5, .inl v5_116), (6, .inl v6_116)], [], gr_sh ++ ext, gr_h I114 J115) := r_lin_p_L183_L425 (ws0 := ws0) (tb := tb) hws htb ext B hB I9 β N9 p9 I J hI x1 x4 x5 x6 x7 x8 x9 KLN_I KGR_I KST_I v2_12 v3_12
            have f277 := (gr_b_19 hI66 (Int.toNat ((I 0 6))))
            refine gv_run 5 true hD (pcₚ := 313) (lvₚ := [(0, .inr (.inr (some 0))), (1, .inl (I 0 6)), (3, .inl v3_12), (4, .inl v4_103), (5, .inl v5_103)]) (stₚ := [.inl (I66 19 (Int.toNat ((I 0 6)))), .inl v5_103]) (hₚ := gr_h I66 J67) (C := (((((True ∧ True) ∧ True) ∧ True) ∧ True) ∧ (0 ≤ (I 0 6) ∧ (I 0 6) < ((8 : Nat) : Int)))) rfl ⟨⟨⟨⟨⟨trivial, trivial⟩, trivial⟩, trivial⟩, trivial⟩, ⟨by exact gz_m 91 (by omega), by exact gz_m 92 (by omega)⟩⟩ ?_
            have t278 := (show I66 19 (Int.toNat (I 0 6)) = I 19 (Int.toNat (I 0 6)) from (e8_80.1 _))
            refine gv_icmp_ge (t := 342) hD rfl rfl ⟨⟨by exact gz_m 93 (by omega), by exact gz_m 94 (by omega)⟩, ⟨by exact gz_m 95 (by omega), by exact gz_m 96 (by omega)⟩⟩ (fun c279 => ?_) (fun c279 => ?_)
            · refine gv_run 3 true hD (pcₚ := 346) (lvₚ := [(0, .inr (.inr (some 0))), (1, .inl (I 0 6)), (3, .inl v3_12), (4, .inl v4_103), (5, .inl v5_103)]) (stₚ := [.inl 4, .inl v4_103, .inr (.inr (some 0))]) (hₚ := gr_h I66 J67) (C := (((True ∧ True) ∧ True) ∧ True)) rfl ⟨⟨⟨trivial, trivial⟩, trivial⟩, trivial⟩ ?_
              have t280 := (show v4_103 = gs_cf (gs_lf I) v3_12 (Int.toNat (I 19 (Int.toNat (I 0 6)))) from by rw [e5_103, show v5_103 = I 19 (Int.toNat (I 0 6)) from by exact gz_m 97 (by omega)])
              refine gv_icmp_ge (t := 353) hD rfl rfl ⟨⟨by exact gz_m 98 (by omega), by exact gz_m 99 (by omega)⟩, ⟨by exact gz_m 100 (by omega), by exact gz_m 101 (by omega)⟩⟩ (fun c281 => ?_) (fun c281 => ?_)
              · refine gv_run 1 true hD (pcₚ := 354) (lvₚ := [(0, .inr (.inr (some 0))), (1, .inl (I 0 6)), (3, .inl v3_12), (4, .inl v4_103), (5, .inl v5_103)]) (stₚ := [.inl 0, .inr (.inr (some 0))]) (hₚ := gr_h I66 J67) (C := (True ∧ True)) rfl ⟨trivial, trivial⟩ ?_
                obtain ⟨r282, h282, E282, P282⟩ := r_done_p (ws0 := ws0) (tb := tb) hws htb ext β N9 p_68 I66 J67 hI66 0 ⟨by exact gz_m 102 (by omega), by exact gz_m 103 (by omega)⟩ (gr_ATp_rr e5_68).1 (gr_ATp_rr e5_68).2.1 (gr_ATp_rr e5_68).2.2.1 (gr_ATp_rr e5_68).2.2.2.1 (gr_ATp_rr e5_68).2.2.2.2 e5_68 (by exact gz_m 104 (by omega))
                obtain ⟨I283, J284, rfl, hI283, g282, k282, ⟨z282, rfl, q282⟩⟩ := P282
                have FI283 := gr_frt FI66 g282 rfl rfl
                have FJ284 := gr_fjt FJ67 k282 rfl rfl
                have t285 := g282 0 69 rfl
                have t286 := g282 0 6 rfl
                have t287 := g282 0 59 rfl
                have t288 := g282 0 118 rfl
                have t289 := g282 0 119 rfl
                have t290 := g282 0 3 rfl
                have t291 := g282 19 (Int.toNat ((I 0 6))) rfl
                have f292 := (gr_b_0_71 hI283)
                have f293 := (gr_b_0_72 hI283)
                have f294 := (gr_b_0_73 hI283)
                have f295 := (gr_b_0_69 hI283)
                have f296 := (gr_b_0_6 hI283)
                have f297 := (gr_b_0_59 hI283)
                have f298 := (gr_b_0_118 hI283)
                have f299 := (gr_b_0_119 hI283)
                have f300 := (gr_b_0_3 hI283)
                have KLN_I283 := gr_LN_fr KLN_I66 (fun k => g282 19 k rfl) (by exact gz_m 105 (by omega)) (by exact gz_m 106 (by omega))
                have KGR_I283 := gr_GR_fr KGR_I66 (fun k => g282 19 k rfl) (fun k => g282 18 k rfl) (fun k => g282 36 k rfl) (fun k => g282 41 k rfl) (fun k => g282 42 k rfl) (fun k => g282 43 k rfl) (fun k => g282 45 k rfl) (fun k => g282 46 k rfl) (fun k => g282 47 k rfl) (fun k => g282 6 k rfl) (fun k => g282 7 k rfl) (fun k => g282 8 k rfl) (g282 0 3 rfl)
                have KST_I283 := gr_ST_fr KST_I66 (fun k => g282 6 k rfl) (fun k => g282 19 k rfl) (fun k => g282 18 k rfl) (fun k => g282 41 k rfl) (fun k => g282 36 k rfl) (g282 0 3 rfl)
                have KLK_I283 := gr_LKs_fr KLK_I66 (fun k => g282 51 k rfl) (g282 0 59 rfl)
                have t301 := KLN_I283 (Int.toNat ((I 0 6))) (by exact gz_m 107 (by omega))
                refine gv_callV hD rfl (As := [.inl 0]) (st := []) rfl (by decide) rfl rfl (gr_lV hws rfl) (Nat.le_of_ble_eq_true rfl) (gz_Ev_mono (d := 11) (by decide) E282) ?_
                show gv_X _ _ (357, [(0, .inr (.inr (some 0))), (1, .inl (I 0 6)), (3, .inl v3_12), (4, .inl v4_103), (5, .inl v5_103)], [.inl z282], gr_sh ++ ext, gr_h I283 J284)
                refine gv_if_ne (t := 362) hD rfl rfl ⟨by exact gz_m 108 (by omega), by exact gz_m 109 (by omega)⟩ (fun c302 => ?_) (fun c302 => ?_)
                · have Q303 := q282.2.2.2.2.2.2.2.2.2.2.2.2
                  rw [FI66 0 78 rfl] at Q303
                  obtain ⟨u303, A303⟩ := gs_or1 Q303 (by exact gz_m 110 (by omega))
                  have t304 := gr_ATp_l A303
                  have t305 := (q282.2.2.2.2.2.2.2.2.2.2.1).resolve_left (by exact gz_m 111 (by omega))
                  have t306 := (q282.2.2.2.2.2.2.2.2.2.2.2.1).resolve_left (by exact gz_m 112 (by omega))
                  obtain ⟨_, _, -, _, -, -, _, _, _, _, -, -, -⟩ := q282
                  have t307 := (gr_ATp_rr e5_68).2.2.1.resolve_left (by exact gz_m 113 (by omega))
                  refine gv_run 7 true hD (pcₚ := 373) (lvₚ := [(0, .inr (.inr (some 0))), (1, .inl (I 0 6)), (3, .inl v3_12), (4, .inl v4_103), (5, .inl v5_103)]) (stₚ := [.inl (I 0 6), .inr (.inr (some 19)), .inl (I 0 6), .inr (.inr (some 19)), .inl (384 * (I 0 6))]) (hₚ := gr_h I283 J284) (C := (((((((True ∧ True) ∧ True) ∧ True) ∧ True) ∧ True) ∧ True) ∧ True)) rfl ⟨⟨⟨⟨⟨⟨⟨trivial, trivial⟩, trivial⟩, trivial⟩, trivial⟩, trivial⟩, trivial⟩, trivial⟩ ?_
                  have f308 := (gr_b_19 hI283 (Int.toNat ((I 0 6))))
                  refine gv_run 1 true hD (pcₚ := 374) (lvₚ := [(0, .inr (.inr (some 0))), (1, .inl (I 0 6)), (3, .inl v3_12), (4, .inl v4_103), (5, .inl v5_103)]) (stₚ := [.inl (I283 19 (Int.toNat ((I 0 6)))), .inl (I 0 6), .inr (.inr (some 19)), .inl (384 * (I 0 6))]) (hₚ := gr_h I283 J284) (C := (True ∧ (0 ≤ (I 0 6) ∧ (I 0 6) < ((8 : Nat) : Int)))) rfl ⟨trivial, ⟨by exact gz_m 114 (by omega), by exact gz_m 115 (by omega)⟩⟩ ?_
                  refine gv_run 3 true hD (pcₚ := 377) (lvₚ := [(0, .inr (.inr (some 0))), (1, .inl (I 0 6)), (3, .inl v3_12), (4, .inl v4_103), (5, .inl v5_103)]) (stₚ := [.inl ((I283 19 (Int.toNat ((I 0 6)))) + 1), .inl (I 0 6), .inr (.inr (some 19)), .inl (I283 19 (Int.toNat ((I 0 6)))), .inl (384 * (I 0 6))]) (hₚ := gr_h I283 J284) (C := (((True ∧ True) ∧ True) ∧ True)) rfl ⟨⟨⟨trivial, trivial⟩, trivial⟩, trivial⟩ ?_
                  refine gv_run 1 true hD (pcₚ := 378) (lvₚ := [(0, .inr (.inr (some 0))), (1, .inl (I 0 6)), (3, .inl v3_12), (4, .inl v4_103), (5, .inl v5_103)]) (stₚ := [.inl (I283 19 (Int.toNat ((I 0 6)))), .inl (384 * (I 0 6))]) (hₚ := gz_up (gr_h I283 J284) 19 (Int.toNat ((I 0 6))) (.inl (((I283 19 (Int.toNat ((I 0 6)))) + 1)))) (C := (True ∧ (0 ≤ (I 0 6) ∧ (I 0 6) < ((8 : Nat) : Int)))) rfl ⟨trivial, ⟨by exact gz_m 116 (by omega), by exact gz_m 117 (by omega)⟩⟩ ?_
                  refine gr_st hI283 FI283 rfl rfl ⟨⟨by show 0 ≤ _; exact gz_m 118 (by omega), by show _ ≤ 384; exact gz_m 119 (by omega)⟩, trivial⟩ (fun I309 hI309 FI309 q310 p310 => ?_)
                  have t311 := p310 0 71 (fun q => absurd q.1 (by first | exact gz_ne rfl | decide))
                  have t312 := p310 0 72 (fun q => absurd q.1 (by first | exact gz_ne rfl | decide))
                  have t313 := p310 0 73 (fun q => absurd q.1 (by first | exact gz_ne rfl | decide))
                  have t314 := p310 0 69 (fun q => absurd q.1 (by first | exact gz_ne rfl | decide))
                  have t315 := p310 0 6 (fun q => absurd q.1 (by first | exact gz_ne rfl | decide))
                  have t316 := p310 0 59 (fun q => absurd q.1 (by first | exact gz_ne rfl | decide))
                  have t317 := p310 0 118 (fun q => absurd q.1 (by first | exact gz_ne rfl | decide))
                  have t318 := p310 0 119 (fun q => absurd q.1 (by first | exact gz_ne rfl | decide))
                  have t319 := p310 0 3 (fun q => absurd q.1 (by first | exact gz_ne rfl | decide))
                  have f320 := (gr_b_0_71 hI309)
                  have f321 := (gr_b_0_72 hI309)
                  have f322 := (gr_b_0_73 hI309)
                  have f323 := (gr_b_0_69 hI309)
                  have f324 := (gr_b_0_6 hI309)
                  have f325 := (gr_b_0_59 hI309)
                  have f326 := (gr_b_0_118 hI309)
                  have f327 := (gr_b_0_119 hI309)
                  have f328 := (gr_b_0_3 hI309)
                  have KLN_I309 := gr_LN_l KLN_I283 p310 (by exact gz_m 120 (by omega))
                  have KLK_I309 := gr_LKs_fr KLK_I283 (fun k => p310 51 k (fun q => absurd q.1 (by first | exact gz_ne rfl | decide))) (p310 0 59 (fun q => absurd q.1 (by first | exact gz_ne rfl | decide)))
                  have t329 := KLN_I309 (Int.toNat ((I 0 6))) (by exact gz_m 121 (by omega))
                  have A330 := gr_ATp_sr A303 p310 rfl
                  refine gv_run 6 true hD (pcₚ := 388) (lvₚ := [(5, .inl ((384 * (I 0 6)) + (I283 19 (Int.toNat ((I 0 6)))))), (0, .inr (.inr (some 0))), (1, .inl (I 0 6)), (3, .inl v3_12), (4, .inl v4_103)]) (stₚ := [.inl v3_12, .inl ((384 * (I 0 6)) + (I283 19 (Int.toNat ((I 0 6))))), .inr (.inr (some 41))]) (hₚ := gr_h I309 J284) (C := ((((((True ∧ True) ∧ True) ∧ True) ∧ True) ∧ True) ∧ True)) rfl ⟨⟨⟨⟨⟨⟨trivial, trivial⟩, trivial⟩, trivial⟩, trivial⟩, trivial⟩, trivial⟩ ?_
                  refine gv_run 1 true hD (pcₚ := 389) (lvₚ := [(5, .inl ((384 * (I 0 6)) + (I283 19 (Int.toNat ((I 0 6)))))), (0, .inr (.inr (some 0))), (1, .inl (I 0 6)), (3, .inl v3_12), (4, .inl v4_103)]) (stₚ := []) (hₚ := gz_up (gr_h I309 J284) 41 (Int.toNat (((384 * (I 0 6)) + (I283 19 (Int.toNat ((I 0 6))))))) (.inl v3_12)) (C := (True ∧ (0 ≤ (((384 * (I 0 6)) + (I283 19 (Int.toNat ((I 0 6)))))) ∧ (((384 * (I 0 6)) + (I283 19 (Int.toNat ((I 0 6)))))) < ((3072 : Nat) : Int)))) rfl ⟨trivial, ⟨by exact gz_m 122 (by omega), by exact gz_m 123 (by omega)⟩⟩ ?_
                  refine gr_st hI309 FI309 rfl rfl ⟨⟨by show 0 ≤ _; exact gz_m 124 (by omega), by show _ ≤ 95; exact gz_m 125 (by omega)⟩, trivial⟩ (fun I331 hI331 FI331 q332 p332 => ?_)
                  have t333 := p332 0 71 (fun q => absurd q.1 (by first | exact gz_ne rfl | decide))
                  have t334 := p332 0 72 (fun q => absurd q.1 (by first | exact gz_ne rfl | decide))
                  have t335 := p332 0 73 (fun q => absurd q.1 (by first | exact gz_ne rfl | decide))
                  have t336 := p332 0 69 (fun q => absurd q.1 (by first | exact gz_ne rfl | decide))
                  have t337 := p332 0 6 (fun q => absurd q.1 (by first | exact gz_ne rfl | decide))
                  have t338 := p332 0 59 (fun q => absurd q.1 (by first | exact gz_ne rfl | decide))
                  have t339 := p332 0 118 (fun q => absurd q.1 (by first | exact gz_ne rfl | decide))
                  have t340 := p332 0 119 (fun q => absurd q.1 (by first | exact gz_ne rfl | decide))
                  have t341 := p332 0 3 (fun q => absurd q.1 (by first | exact gz_ne rfl | decide))
                  have t342 := p332 19 (Int.toNat ((I 0 6))) (fun q => absurd q.1 (by first | exact gz_ne rfl | decide))
                  have f343 := (gr_b_0_71 hI331)
                  have f344 := (gr_b_0_72 hI331)
                  have f345 := (gr_b_0_73 hI331)
                  have f346 := (gr_b_0_69 hI331)
                  have f347 := (gr_b_0_6 hI331)
                  have f348 := (gr_b_0_59 hI331)
                  have f349 := (gr_b_0_118 hI331)
                  have f350 := (gr_b_0_119 hI331)
                  have f351 := (gr_b_0_3 hI331)
                  have KLN_I331 := gr_LN_fr KLN_I309 (fun k => p332 19 k (fun q => absurd q.1 (by first | exact gz_ne rfl | decide))) (by exact gz_m 126 (by omega)) (by exact gz_m 127 (by omega))
                  have KLK_I331 := gr_LKs_fr KLK_I309 (fun k => p332 51 k (fun q => absurd q.1 (by first | exact gz_ne rfl | decide))) (p332 0 59 (fun q => absurd q.1 (by first | exact gz_ne rfl | decide)))
                  have t352 := KLN_I331 (Int.toNat ((I 0 6))) (by exact gz_m 128 (by omega))
                  have A353 := gr_ATp_sr A330 p332 rfl
                  have f354 := (gr_b_0_118 hI331)
                  refine gv_run 5 true hD (pcₚ := 399) (lvₚ := [(5, .inl ((384 * (I 0 6)) + (I283 19 (Int.toNat ((I 0 6)))))), (0, .inr (.inr (some 0))), (1, .inl (I 0 6)), (3, .inl v3_12), (4, .inl v4_103)]) (stₚ := [.inl (I331 0 118), .inl ((384 * (I 0 6)) + (I283 19 (Int.toNat ((I 0 6))))), .inr (.inr (some 42))]) (hₚ := gr_h I331 J284) (C := (((((True ∧ True) ∧ True) ∧ True) ∧ True) ∧ True)) rfl ⟨⟨⟨⟨⟨trivial, trivial⟩, trivial⟩, trivial⟩, trivial⟩, trivial⟩ ?_
                  refine gv_run 1 true hD (pcₚ := 400) (lvₚ := [(5, .inl ((384 * (I 0 6)) + (I283 19 (Int.toNat ((I 0 6)))))), (0, .inr (.inr (some 0))), (1, .inl (I 0 6)), (3, .inl v3_12), (4, .inl v4_103)]) (stₚ := []) (hₚ := gz_up (gr_h I331 J284) 42 (Int.toNat (((384 * (I 0 6)) + (I283 19 (Int.toNat ((I 0 6))))))) (.inl (I331 0 118))) (C := (True ∧ (0 ≤ (((384 * (I 0 6)) + (I283 19 (Int.toNat ((I 0 6)))))) ∧ (((384 * (I 0 6)) + (I283 19 (Int.toNat ((I 0 6)))))) < ((3072 : Nat) : Int)))) rfl ⟨trivial, ⟨by exact gz_m 129 (by omega), by exact gz_m 130 (by omega)⟩⟩ ?_
                  refine gr_st hI331 FI331 rfl rfl ⟨⟨by show 0 ≤ _; exact gz_m 131 (by omega), by show _ ≤ 6; exact gz_m 132 (by omega)⟩, trivial⟩ (fun I355 hI355 FI355 q356 p356 => ?_)
                  have t357 := p356 0 71 (fun q => absurd q.1 (by first | exact gz_ne rfl | decide))
                  have t358 := p356 0 72 (fun q => absurd q.1 (by first | exact gz_ne rfl | decide))
                  have t359 := p356 0 73 (fun q => absurd q.1 (by first | exact gz_ne rfl | decide))
                  have t360 := p356 0 69 (fun q => absurd q.1 (by first | exact gz_ne rfl | decide))
                  have t361 := p356 0 6 (fun q => absurd q.1 (by first | exact gz_ne rfl | decide))
                  have t362 := p356 0 59 (fun q => absurd q.1 (by first | exact gz_ne rfl | decide))
                  have t363 := p356 0 118 (fun q => absurd q.1 (by first | exact gz_ne rfl | decide))
                  have t364 := p356 0 119 (fun q => absurd q.1 (by first | exact gz_ne rfl | decide))
                  have t365 := p356 0 3 (fun q => absurd q.1 (by first | exact gz_ne rfl | decide))
                  have t366 := p356 19 (Int.toNat ((I 0 6))) (fun q => absurd q.1 (by first | exact gz_ne rfl | decide))
                  have f367 := (gr_b_0_71 hI355)
                  have f368 := (gr_b_0_72 hI355)
                  have f369 := (gr_b_0_73 hI355)
                  have f370 := (gr_b_0_69 hI355)
                  have f371 := (gr_b_0_6 hI355)
                  have f372 := (gr_b_0_59 hI355)
                  have f373 := (gr_b_0_118 hI355)
                  have f374 := (gr_b_0_119 hI355)
                  have f375 := (gr_b_0_3 hI355)
                  have KLN_I355 := gr_LN_fr KLN_I331 (fun k => p356 19 k (fun q => absurd q.1 (by first | exact gz_ne rfl | decide))) (by exact gz_m 133 (by omega)) (by exact gz_m 134 (by omega))
                  have KLK_I355 := gr_LKs_fr KLK_I331 (fun k => p356 51 k (fun q => absurd q.1 (by first | exact gz_ne rfl | decide))) (p356 0 59 (fun q => absurd q.1 (by first | exact gz_ne rfl | decide)))
                  have t376 := KLN_I355 (Int.toNat ((I 0 6))) (by exact gz_m 135 (by omega))
                  have A377 := gr_ATp_sr A353 p356 rfl
                  have f378 := (gr_b_0_119 hI355)
                  refine gv_run 5 true hD (pcₚ := 410) (lvₚ := [(5, .inl ((384 * (I 0 6)) + (I283 19 (Int.toNat ((I 0 6)))))), (0, .inr (.inr (some 0))), (1, .inl (I 0 6)), (3, .inl v3_12), (4, .inl v4_103)]) (stₚ := [.inl (I355 0 119), .inl ((384 * (I 0 6)) + (I283 19 (Int.toNat ((I 0 6))))), .inr (.inr (some 45))]) (hₚ := gr_h I355 J284) (C := (((((True ∧ True) ∧ True) ∧ True) ∧ True) ∧ True)) rfl ⟨⟨⟨⟨⟨trivial, trivial⟩, trivial⟩, trivial⟩, trivial⟩, trivial⟩ ?_
                  refine gv_run 1 true hD (pcₚ := 411) (lvₚ := [(5, .inl ((384 * (I 0 6)) + (I283 19 (Int.toNat ((I 0 6)))))), (0, .inr (.inr (some 0))), (1, .inl (I 0 6)), (3, .inl v3_12), (4, .inl v4_103)]) (stₚ := []) (hₚ := gz_up (gr_h I355 J284) 45 (Int.toNat (((384 * (I 0 6)) + (I283 19 (Int.toNat ((I 0 6))))))) (.inl (I355 0 119))) (C := (True ∧ (0 ≤ (((384 * (I 0 6)) + (I283 19 (Int.toNat ((I 0 6)))))) ∧ (((384 * (I 0 6)) + (I283 19 (Int.toNat ((I 0 6)))))) < ((3072 : Nat) : Int)))) rfl ⟨trivial, ⟨by exact gz_m 136 (by omega), by exact gz_m 137 (by omega)⟩⟩ ?_
                  refine gr_st hI355 FI355 rfl rfl ⟨⟨by show 0 ≤ _; exact gz_m 138 (by omega), by show _ ≤ 6; exact gz_m 139 (by omega)⟩, trivial⟩ (fun I379 hI379 FI379 q380 p380 => ?_)
                  have t381 := p380 0 71 (fun q => absurd q.1 (by first | exact gz_ne rfl | decide))
                  have t382 := p380 0 72 (fun q => absurd q.1 (by first | exact gz_ne rfl | decide))
                  have t383 := p380 0 73 (fun q => absurd q.1 (by first | exact gz_ne rfl | decide))
                  have t384 := p380 0 69 (fun q => absurd q.1 (by first | exact gz_ne rfl | decide))
                  have t385 := p380 0 6 (fun q => absurd q.1 (by first | exact gz_ne rfl | decide))
                  have t386 := p380 0 59 (fun q => absurd q.1 (by first | exact gz_ne rfl | decide))
                  have t387 := p380 0 118 (fun q => absurd q.1 (by first | exact gz_ne rfl | decide))
                  have t388 := p380 0 119 (fun q => absurd q.1 (by first | exact gz_ne rfl | decide))
                  have t389 := p380 0 3 (fun q => absurd q.1 (by first | exact gz_ne rfl | decide))
                  have t390 := p380 19 (Int.toNat ((I 0 6))) (fun q => absurd q.1 (by first | exact gz_ne rfl | decide))
                  have f391 := (gr_b_0_71 hI379)
                  have f392 := (gr_b_0_72 hI379)
                  have f393 := (gr_b_0_73 hI379)
                  have f394 := (gr_b_0_69 hI379)
                  have f395 := (gr_b_0_6 hI379)
                  have f396 := (gr_b_0_59 hI379)
                  have f397 := (gr_b_0_118 hI379)
                  have f398 := (gr_b_0_119 hI379)
                  have f399 := (gr_b_0_3 hI379)
                  have KLN_I379 := gr_LN_fr KLN_I355 (fun k => p380 19 k (fun q => absurd q.1 (by first | exact gz_ne rfl | decide))) (by exact gz_m 140 (by omega)) (by exact gz_m 141 (by omega))
                  have KLK_I379 := gr_LKs_fr KLK_I355 (fun k => p380 51 k (fun q => absurd q.1 (by first | exact gz_ne rfl | decide))) (p380 0 59 (fun q => absurd q.1 (by first | exact gz_ne rfl | decide)))
                  have t400 := KLN_I379 (Int.toNat ((I 0 6))) (by exact gz_m 142 (by omega))
                  have A401 := gr_ATp_sr A377 p380 rfl
                  have f402 := (gr_b_0_101 hI379)
                  refine gv_run 5 true hD (pcₚ := 421) (lvₚ := [(5, .inl ((384 * (I 0 6)) + (I283 19 (Int.toNat ((I 0 6)))))), (0, .inr (.inr (some 0))), (1, .inl (I 0 6)), (3, .inl v3_12), (4, .inl v4_103)]) (stₚ := [.inl (I379 0 101), .inl ((384 * (I 0 6)) + (I283 19 (Int.toNat ((I 0 6))))), .inr (.inr (some 50))]) (hₚ := gr_h I379 J284) (C := (((((True ∧ True) ∧ True) ∧ True) ∧ True) ∧ True)) rfl ⟨⟨⟨⟨⟨trivial, trivial⟩, trivial⟩, trivial⟩, trivial⟩, trivial⟩ ?_
                  refine gv_run 1 true hD (pcₚ := 422) (lvₚ := [(5, .inl ((384 * (I 0 6)) + (I283 19 (Int.toNat ((I 0 6)))))), (0, .inr (.inr (some 0))), (1, .inl (I 0 6)), (3, .inl v3_12), (4, .inl v4_103)]) (stₚ := []) (hₚ := gz_up (gr_h I379 J284) 50 (Int.toNat (((384 * (I 0 6)) + (I283 19 (Int.toNat ((I 0 6))))))) (.inl (I379 0 101))) (C := (True ∧ (0 ≤ (((384 * (I 0 6)) + (I283 19 (Int.toNat ((I 0 6)))))) ∧ (((384 * (I 0 6)) + (I283 19 (Int.toNat ((I 0 6)))))) < ((3072 : Nat) : Int)))) rfl ⟨trivial, ⟨by exact gz_m 143 (by omega), by exact gz_m 144 (by omega)⟩⟩ ?_
                  refine gr_st hI379 FI379 rfl rfl ⟨⟨by show 0 ≤ _; exact gz_m 145 (by omega), by show _ ≤ 10000; exact gz_m 146 (by omega)⟩, trivial⟩ (fun I403 hI403 FI403 q404 p404 => ?_)
                  have t405 := p404 0 71 (fun q => absurd q.1 (by first | exact gz_ne rfl | decide))
                  have t406 := p404 0 72 (fun q => absurd q.1 (by first | exact gz_ne rfl | decide))
                  have t407 := p404 0 73 (fun q => absurd q.1 (by first | exact gz_ne rfl | decide))
                  have t408 := p404 0 69 (fun q => absurd q.1 (by first | exact gz_ne rfl | decide))
                  have t409 := p404 0 6 (fun q => absurd q.1 (by first | exact gz_ne rfl | decide))
                  have t410 := p404 0 59 (fun q => absurd q.1 (by first | exact gz_ne rfl | decide))
                  have t411 := p404 0 118 (fun q => absurd q.1 (by first | exact gz_ne rfl | decide))
                  have t412 := p404 0 119 (fun q => absurd q.1 (by first | exact gz_ne rfl | decide))
                  have t413 := p404 0 3 (fun q => absurd q.1 (by first | exact gz_ne rfl | decide))
                  have t414 := p404 19 (Int.toNat ((I 0 6))) (fun q => absurd q.1 (by first | exact gz_ne rfl | decide))
                  have f415 := (gr_b_0_71 hI403)
                  have f416 := (gr_b_0_72 hI403)
                  have f417 := (gr_b_0_73 hI403)
                  have f418 := (gr_b_0_69 hI403)
                  have f419 := (gr_b_0_6 hI403)
                  have f420 := (gr_b_0_59 hI403)
                  have f421 := (gr_b_0_118 hI403)
                  have f422 := (gr_b_0_119 hI403)
                  have f423 := (gr_b_0_3 hI403)
                  have KLN_I403 := gr_LN_fr KLN_I379 (fun k => p404 19 k (fun q => absurd q.1 (by first | exact gz_ne rfl | decide))) (by exact gz_m 147 (by omega)) (by exact gz_m 148 (by omega))
                  have KLK_I403 := gr_LKs_fr KLK_I379 (fun k => p404 51 k (fun q => absurd q.1 (by first | exact gz_ne rfl | decide))) (p404 0 59 (fun q => absurd q.1 (by first | exact gz_ne rfl | decide)))
                  have t424 := KLN_I403 (Int.toNat ((I 0 6))) (by exact gz_m 149 (by omega))
                  have A425 := gr_ATp_sr A401 p404 rfl
                  refine gv_run 2 true hD (pcₚ := 425) (lvₚ := [(6, .inl 0), (5, .inl ((384 * (I 0 6)) + (I283 19 (Int.toNat ((I 0 6)))))), (0, .inr (.inr (some 0))), (1, .inl (I 0 6)), (3, .inl v3_12), (4, .inl v4_103)]) (stₚ := []) (hₚ := gr_h I403 J284) (C := ((True ∧ True) ∧ True)) rfl ⟨⟨trivial, trivial⟩, trivial⟩ ?_
                  refine gv_pick [2, 4, 1, 0] rfl ?_
                  exact L425 _ I403 J284 (((384 * (I 0 6)) + (I283 19 (Int.toNat ((I 0 6)))))) 0 ((gs_done β N9 0 (I 0 78) p_68)) (Nat.lt_succ_self _) hI403 FI403 FJ284 KLN_I403 KLK_I403 (by exact gz_m 150 (by omega)) (gr_Q1_in (t := (Int.toNat ((I 0 6)))) KGR_I283 KST_I283 (gr_LI_fr e3_103 (fun k => g282 68 k rfl) (fun k => g282 6 k rfl) (fun k => g282 70 k rfl) (fun k => g282 71 k rfl) (fun k => g282 7 k rfl) (fun k => g282 8 k rfl) (g282 0 118 rfl) (g282 0 119 rfl)) (by exact gz_m 151 (by omega)) (by exact gz_m 152 (by omega)) (by exact gz_m 153 (by omega)) (by exact gz_m 154 (by omega)) p310 (by exact gz_m 155 (by omega)) p332 q332 p356 q356 (by exact gz_m 156 (by omega)) p380 q380 (by exact gz_m 157 (by omega)) p404) A425 (by first | (exfalso; exact gz_m 158 (by omega)) | (rw [e4_103]; unfold gs_ln7; (repeat first | rw [if_pos (by exact gz_m 159 (by omega))] | rw [if_neg (by exact gz_m 160 (by omega))]))) e7_80 (by have v9 : I283 19 (Int.toNat (I 0 6)) = I 19 (Int.toNat (I 0 6)) := ((g282 19 _ rfl).trans (e8_80.1 _)); exact gs_Uln_fr (gs_Uln_mk (fun j => ⟨((g282 19 j rfl).trans (e8_80.1 j)), ((g282 41 j rfl).trans (e8_80.2 j))⟩) (by exact gz_m 161 (by omega)) p310 (q310.trans (by exact gz_m 162 (by omega))) (by exact gz_m 163 (by omega)) p332 q332) (fun j => (((p404 19 j (fun q => absurd q.1 (by first | exact gz_ne rfl | decide))).trans (p380 19 j (fun q => absurd q.1 (by first | exact gz_ne rfl | decide)))).trans (p356 19 j (fun q => absurd q.1 (by first | exact gz_ne rfl | decide))))) (fun j => (((p404 41 j (fun q => absurd q.1 (by first | exact gz_ne rfl | decide))).trans (p380 41 j (fun q => absurd q.1 (by first | exact gz_ne rfl | decide)))).trans (p356 41 j (fun q => absurd q.1 (by first | exact gz_ne rfl | decide))))))
                · have Q426 := q282.2.2.2.2.2.2.2.2.2.2.2.2
                  rw [FI66 0 78 rfl] at Q426
                  obtain ⟨u426, u426_⟩ := gs_or0 Q426 (by exact gz_m 164 (by omega))
                  refine gv_run 1 true hD (pcₚ := 361) (lvₚ := [(0, .inr (.inr (some 0))), (1, .inl (I 0 6)), (3, .inl v3_12), (4, .inl v4_103), (5, .inl v5_103)]) (stₚ := [.inl 0]) (hₚ := gr_h I283 J284) (C := (True ∧ True)) rfl ⟨trivial, trivial⟩ ?_
                  have b427 : (I283 0 71 = 5 ∨ I283 0 73 ≤ I283 0 69) ∧ (I283 0 72 ≤ I283 0 69) ∧ (I283 0 71 = 0 ∨ (I283 0 72 < I283 0 73 ∧ I283 0 72 < I283 0 69)) ∧ (I283 0 71 = 3 → 2 ≤ I283 0 73 - I283 0 72 ∧ I283 0 73 - I283 0 72 ≤ 14) ∧ (I283 0 72 ≤ I283 0 73) ∧ (I283 0 69 = I 0 69) ∧ (I 0 73 ≤ I283 0 73) ∧ (I 0 72 ≤ I283 0 72) ∧ (I283 0 59 - I283 0 72 ≤ I 0 59 - I 0 72) := by exact gz_m 165 (by omega)
                  exact gv_zret hD rfl (by exact gz_m 166 (by omega)) ⟨I283, J284, rfl, hI283, FI283, FJ284, KLN_I283, KGR_I283, KST_I283, ⟨_, rfl, by exact gz_m 167 (by omega), by exact gz_m 168 (by omega), b427.1, b427.2.1, b427.2.2.1, b427.2.2.2.1, b427.2.2.2.2.1, b427.2.2.2.2.2.1, b427.2.2.2.2.2.2.1, b427.2.2.2.2.2.2.2.1, b427.2.2.2.2.2.2.2.2, KLK_I283, (Or.inr ⟨by exact gz_m 169 (by omega), by first | (exfalso; exact gz_m 170 (by omega)) | (rw [e4_103]; unfold gs_ln7; (repeat first | rw [if_pos (by exact gz_m 171 (by omega))] | rw [if_neg (by exact gz_m 172 (by omega))]); exact ⟨by exact gz_m 173 (by omega), by exact gz_m 174 (by omega), (fun j => ⟨((g282 19 j rfl).trans (e8_80.1 j)), ((g282 41 j rfl).trans (e8_80.2 j))⟩)⟩)⟩)⟩⟩
              · refine gv_run 2 true hD (pcₚ := 354) (lvₚ := [(0, .inr (.inr (some 0))), (1, .inl (I 0 6)), (3, .inl v3_12), (4, .inl v4_103), (5, .inl v5_103)]) (stₚ := [.inl 1, .inr (.inr (some 0))]) (hₚ := gr_h I66 J67) (C := ((True ∧ True) ∧ True)) rfl ⟨⟨trivial, trivial⟩, trivial⟩ ?_
                obtain ⟨r428, h428, E428, P428⟩ := r_done_p (ws0 := ws0) (tb := tb) hws htb ext β N9 p_68 I66 J67 hI66 1 ⟨by exact gz_m 175 (by omega), by exact gz_m 176 (by omega)⟩ (gr_ATp_rr e5_68).1 (gr_ATp_rr e5_68).2.1 (gr_ATp_rr e5_68).2.2.1 (gr_ATp_rr e5_68).2.2.2.1 (gr_ATp_rr e5_68).2.2.2.2 e5_68 (by exact gz_m 177 (by omega))
                obtain ⟨I429, J430, rfl, hI429, g428, k428, ⟨z428, rfl, q428⟩⟩ := P428
                have FI429 := gr_frt FI66 g428 rfl rfl
                have FJ430 := gr_fjt FJ67 k428 rfl rfl
                have t431 := g428 0 69 rfl
                have t432 := g428 0 6 rfl
                have t433 := g428 0 59 rfl
                have t434 := g428 0 118 rfl
                have t435 := g428 0 119 rfl
                have t436 := g428 0 3 rfl
                have t437 := g428 19 (Int.toNat ((I 0 6))) rfl
                have f438 := (gr_b_0_71 hI429)
                have f439 := (gr_b_0_72 hI429)
                have f440 := (gr_b_0_73 hI429)
                have f441 := (gr_b_0_69 hI429)
                have f442 := (gr_b_0_6 hI429)
                have f443 := (gr_b_0_59 hI429)
                have f444 := (gr_b_0_118 hI429)
                have f445 := (gr_b_0_119 hI429)
                have f446 := (gr_b_0_3 hI429)
                have KLN_I429 := gr_LN_fr KLN_I66 (fun k => g428 19 k rfl) (by exact gz_m 178 (by omega)) (by exact gz_m 179 (by omega))
                have KGR_I429 := gr_GR_fr KGR_I66 (fun k => g428 19 k rfl) (fun k => g428 18 k rfl) (fun k => g428 36 k rfl) (fun k => g428 41 k rfl) (fun k => g428 42 k rfl) (fun k => g428 43 k rfl) (fun k => g428 45 k rfl) (fun k => g428 46 k rfl) (fun k => g428 47 k rfl) (fun k => g428 6 k rfl) (fun k => g428 7 k rfl) (fun k => g428 8 k rfl) (g428 0 3 rfl)
                have KST_I429 := gr_ST_fr KST_I66 (fun k => g428 6 k rfl) (fun k => g428 19 k rfl) (fun k => g428 18 k rfl) (fun k => g428 41 k rfl) (fun k => g428 36 k rfl) (g428 0 3 rfl)
                have KLK_I429 := gr_LKs_fr KLK_I66 (fun k => g428 51 k rfl) (g428 0 59 rfl)
                have t447 := KLN_I429 (Int.toNat ((I 0 6))) (by exact gz_m 180 (by omega))
                refine gv_callV hD rfl (As := [.inl 1]) (st := []) rfl (by decide) rfl rfl (gr_lV hws rfl) (Nat.le_of_ble_eq_true rfl) (gz_Ev_mono (d := 11) (by decide) E428) ?_
                show gv_X _ _ (357, [(0, .inr (.inr (some 0))), (1, .inl (I 0 6)), (3, .inl v3_12), (4, .inl v4_103), (5, .inl v5_103)], [.inl z428], gr_sh ++ ext, gr_h I429 J430)
                refine gv_if_ne (t := 362) hD rfl rfl ⟨by exact gz_m 181 (by omega), by exact gz_m 182 (by omega)⟩ (fun c448 => ?_) (fun c448 => ?_)
                · have Q449 := q428.2.2.2.2.2.2.2.2.2.2.2.2
                  rw [FI66 0 78 rfl] at Q449
                  obtain ⟨u449, A449⟩ := gs_or1 Q449 (by exact gz_m 183 (by omega))
                  have t450 := gr_ATp_l A449
                  have t451 := (q428.2.2.2.2.2.2.2.2.2.2.1).resolve_left (by exact gz_m 184 (by omega))
                  have t452 := (q428.2.2.2.2.2.2.2.2.2.2.2.1).resolve_left (by exact gz_m 185 (by omega))
                  obtain ⟨_, _, -, _, -, -, _, _, _, _, -, -, -⟩ := q428
                  have t453 := (gr_ATp_rr e5_68).2.2.1.resolve_left (by exact gz_m 186 (by omega))
                  refine gv_run 7 true hD (pcₚ := 373) (lvₚ := [(0, .inr (.inr (some 0))), (1, .inl (I 0 6)), (3, .inl v3_12), (4, .inl v4_103), (5, .inl v5_103)]) (stₚ := [.inl (I 0 6), .inr (.inr (some 19)), .inl (I 0 6), .inr (.inr (some 19)), .inl (384 * (I 0 6))]) (hₚ := gr_h I429 J430) (C := (((((((True ∧ True) ∧ True) ∧ True) ∧ True) ∧ True) ∧ True) ∧ True)) rfl ⟨⟨⟨⟨⟨⟨⟨trivial, trivial⟩, trivial⟩, trivial⟩, trivial⟩, trivial⟩, trivial⟩, trivial⟩ ?_
                  have f454 := (gr_b_19 hI429 (Int.toNat ((I 0 6))))
                  refine gv_run 1 true hD (pcₚ := 374) (lvₚ := [(0, .inr (.inr (some 0))), (1, .inl (I 0 6)), (3, .inl v3_12), (4, .inl v4_103), (5, .inl v5_103)]) (stₚ := [.inl (I429 19 (Int.toNat ((I 0 6)))), .inl (I 0 6), .inr (.inr (some 19)), .inl (384 * (I 0 6))]) (hₚ := gr_h I429 J430) (C := (True ∧ (0 ≤ (I 0 6) ∧ (I 0 6) < ((8 : Nat) : Int)))) rfl ⟨trivial, ⟨by exact gz_m 187 (by omega), by exact gz_m 188 (by omega)⟩⟩ ?_
                  refine gv_run 3 true hD (pcₚ := 377) (lvₚ := [(0, .inr (.inr (some 0))), (1, .inl (I 0 6)), (3, .inl v3_12), (4, .inl v4_103), (5, .inl v5_103)]) (stₚ := [.inl ((I429 19 (Int.toNat ((I 0 6)))) + 1), .inl (I 0 6), .inr (.inr (some 19)), .inl (I429 19 (Int.toNat ((I 0 6)))), .inl (384 * (I 0 6))]) (hₚ := gr_h I429 J430) (C := (((True ∧ True) ∧ True) ∧ True)) rfl ⟨⟨⟨trivial, trivial⟩, trivial⟩, trivial⟩ ?_
                  refine gv_run 1 true hD (pcₚ := 378) (lvₚ := [(0, .inr (.inr (some 0))), (1, .inl (I 0 6)), (3, .inl v3_12), (4, .inl v4_103), (5, .inl v5_103)]) (stₚ := [.inl (I429 19 (Int.toNat ((I 0 6)))), .inl (384 * (I 0 6))]) (hₚ := gz_up (gr_h I429 J430) 19 (Int.toNat ((I 0 6))) (.inl (((I429 19 (Int.toNat ((I 0 6)))) + 1)))) (C := (True ∧ (0 ≤ (I 0 6) ∧ (I 0 6) < ((8 : Nat) : Int)))) rfl ⟨trivial, ⟨by exact gz_m 189 (by omega), by exact gz_m 190 (by omega)⟩⟩ ?_
                  refine gr_st hI429 FI429 rfl rfl ⟨⟨by show 0 ≤ _; exact gz_m 191 (by omega), by show _ ≤ 384; exact gz_m 192 (by omega)⟩, trivial⟩ (fun I455 hI455 FI455 q456 p456 => ?_)
                  have t457 := p456 0 71 (fun q => absurd q.1 (by first | exact gz_ne rfl | decide))
                  have t458 := p456 0 72 (fun q => absurd q.1 (by first | exact gz_ne rfl | decide))
                  have t459 := p456 0 73 (fun q => absurd q.1 (by first | exact gz_ne rfl | decide))
                  have t460 := p456 0 69 (fun q => absurd q.1 (by first | exact gz_ne rfl | decide))
                  have t461 := p456 0 6 (fun q => absurd q.1 (by first | exact gz_ne rfl | decide))
                  have t462 := p456 0 59 (fun q => absurd q.1 (by first | exact gz_ne rfl | decide))
                  have t463 := p456 0 118 (fun q => absurd q.1 (by first | exact gz_ne rfl | decide))
                  have t464 := p456 0 119 (fun q => absurd q.1 (by first | exact gz_ne rfl | decide))
                  have t465 := p456 0 3 (fun q => absurd q.1 (by first | exact gz_ne rfl | decide))
                  have f466 := (gr_b_0_71 hI455)
                  have f467 := (gr_b_0_72 hI455)
                  have f468 := (gr_b_0_73 hI455)
                  have f469 := (gr_b_0_69 hI455)
                  have f470 := (gr_b_0_6 hI455)
                  have f471 := (gr_b_0_59 hI455)
                  have f472 := (gr_b_0_118 hI455)
                  have f473 := (gr_b_0_119 hI455)
                  have f474 := (gr_b_0_3 hI455)
                  have KLN_I455 := gr_LN_l KLN_I429 p456 (by exact gz_m 193 (by omega))
                  have KLK_I455 := gr_LKs_fr KLK_I429 (fun k => p456 51 k (fun q => absurd q.1 (by first | exact gz_ne rfl | decide))) (p456 0 59 (fun q => absurd q.1 (by first | exact gz_ne rfl | decide)))
                  have t475 := KLN_I455 (Int.toNat ((I 0 6))) (by exact gz_m 194 (by omega))
                  have A476 := gr_ATp_sr A449 p456 rfl
                  refine gv_run 6 true hD (pcₚ := 388) (lvₚ := [(5, .inl ((384 * (I 0 6)) + (I429 19 (Int.toNat ((I 0 6)))))), (0, .inr (.inr (some 0))), (1, .inl (I 0 6)), (3, .inl v3_12), (4, .inl v4_103)]) (stₚ := [.inl v3_12, .inl ((384 * (I 0 6)) + (I429 19 (Int.toNat ((I 0 6))))), .inr (.inr (some 41))]) (hₚ := gr_h I455 J430) (C := ((((((True ∧ True) ∧ True) ∧ True) ∧ True) ∧ True) ∧ True)) rfl ⟨⟨⟨⟨⟨⟨trivial, trivial⟩, trivial⟩, trivial⟩, trivial⟩, trivial⟩, trivial⟩ ?_
                  refine gv_run 1 true hD (pcₚ := 389) (lvₚ := [(5, .inl ((384 * (I 0 6)) + (I429 19 (Int.toNat ((I 0 6)))))), (0, .inr (.inr (some 0))), (1, .inl (I 0 6)), (3, .inl v3_12), (4, .inl v4_103)]) (stₚ := []) (hₚ := gz_up (gr_h I455 J430) 41 (Int.toNat (((384 * (I 0 6)) + (I429 19 (Int.toNat ((I 0 6))))))) (.inl v3_12)) (C := (True ∧ (0 ≤ (((384 * (I 0 6)) + (I429 19 (Int.toNat ((I 0 6)))))) ∧ (((384 * (I 0 6)) + (I429 19 (Int.toNat ((I 0 6)))))) < ((3072 : Nat) : Int)))) rfl ⟨trivial, ⟨by exact gz_m 195 (by omega), by exact gz_m 196 (by omega)⟩⟩ ?_
                  refine gr_st hI455 FI455 rfl rfl ⟨⟨by show 0 ≤ _; exact gz_m 197 (by omega), by show _ ≤ 95; exact gz_m 198 (by omega)⟩, trivial⟩ (fun I477 hI477 FI477 q478 p478 => ?_)
                  have t479 := p478 0 71 (fun q => absurd q.1 (by first | exact gz_ne rfl | decide))
                  have t480 := p478 0 72 (fun q => absurd q.1 (by first | exact gz_ne rfl | decide))
                  have t481 := p478 0 73 (fun q => absurd q.1 (by first | exact gz_ne rfl | decide))
                  have t482 := p478 0 69 (fun q => absurd q.1 (by first | exact gz_ne rfl | decide))
                  have t483 := p478 0 6 (fun q => absurd q.1 (by first | exact gz_ne rfl | decide))
                  have t484 := p478 0 59 (fun q => absurd q.1 (by first | exact gz_ne rfl | decide))
                  have t485 := p478 0 118 (fun q => absurd q.1 (by first | exact gz_ne rfl | decide))
                  have t486 := p478 0 119 (fun q => absurd q.1 (by first | exact gz_ne rfl | decide))
                  have t487 := p478 0 3 (fun q => absurd q.1 (by first | exact gz_ne rfl | decide))
                  have t488 := p478 19 (Int.toNat ((I 0 6))) (fun q => absurd q.1 (by first | exact gz_ne rfl | decide))
                  have f489 := (gr_b_0_71 hI477)
                  have f490 := (gr_b_0_72 hI477)
                  have f491 := (gr_b_0_73 hI477)
                  have f492 := (gr_b_0_69 hI477)
                  have f493 := (gr_b_0_6 hI477)
                  have f494 := (gr_b_0_59 hI477)
                  have f495 := (gr_b_0_118 hI477)
                  have f496 := (gr_b_0_119 hI477)
                  have f497 := (gr_b_0_3 hI477)
                  have KLN_I477 := gr_LN_fr KLN_I455 (fun k => p478 19 k (fun q => absurd q.1 (by first | exact gz_ne rfl | decide))) (by exact gz_m 199 (by omega)) (by exact gz_m 200 (by omega))
                  have KLK_I477 := gr_LKs_fr KLK_I455 (fun k => p478 51 k (fun q => absurd q.1 (by first | exact gz_ne rfl | decide))) (p478 0 59 (fun q => absurd q.1 (by first | exact gz_ne rfl | decide)))
                  have t498 := KLN_I477 (Int.toNat ((I 0 6))) (by exact gz_m 201 (by omega))
                  have A499 := gr_ATp_sr A476 p478 rfl
                  have f500 := (gr_b_0_118 hI477)
                  refine gv_run 5 true hD (pcₚ := 399) (lvₚ := [(5, .inl ((384 * (I 0 6)) + (I429 19 (Int.toNat ((I 0 6)))))), (0, .inr (.inr (some 0))), (1, .inl (I 0 6)), (3, .inl v3_12), (4, .inl v4_103)]) (stₚ := [.inl (I477 0 118), .inl ((384 * (I 0 6)) + (I429 19 (Int.toNat ((I 0 6))))), .inr (.inr (some 42))]) (hₚ := gr_h I477 J430) (C := (((((True ∧ True) ∧ True) ∧ True) ∧ True) ∧ True)) rfl ⟨⟨⟨⟨⟨trivial, trivial⟩, trivial⟩, trivial⟩, trivial⟩, trivial⟩ ?_
                  refine gv_run 1 true hD (pcₚ := 400) (lvₚ := [(5, .inl ((384 * (I 0 6)) + (I429 19 (Int.toNat ((I 0 6)))))), (0, .inr (.inr (some 0))), (1, .inl (I 0 6)), (3, .inl v3_12), (4, .inl v4_103)]) (stₚ := []) (hₚ := gz_up (gr_h I477 J430) 42 (Int.toNat (((384 * (I 0 6)) + (I429 19 (Int.toNat ((I 0 6))))))) (.inl (I477 0 118))) (C := (True ∧ (0 ≤ (((384 * (I 0 6)) + (I429 19 (Int.toNat ((I 0 6)))))) ∧ (((384 * (I 0 6)) + (I429 19 (Int.toNat ((I 0 6)))))) < ((3072 : Nat) : Int)))) rfl ⟨trivial, ⟨by exact gz_m 202 (by omega), by exact gz_m 203 (by omega)⟩⟩ ?_
                  refine gr_st hI477 FI477 rfl rfl ⟨⟨by show 0 ≤ _; exact gz_m 204 (by omega), by show _ ≤ 6; exact gz_m 205 (by omega)⟩, trivial⟩ (fun I501 hI501 FI501 q502 p502 => ?_)
                  have t503 := p502 0 71 (fun q => absurd q.1 (by first | exact gz_ne rfl | decide))
                  have t504 := p502 0 72 (fun q => absurd q.1 (by first | exact gz_ne rfl | decide))
                  have t505 := p502 0 73 (fun q => absurd q.1 (by first | exact gz_ne rfl | decide))
                  have t506 := p502 0 69 (fun q => absurd q.1 (by first | exact gz_ne rfl | decide))
                  have t507 := p502 0 6 (fun q => absurd q.1 (by first | exact gz_ne rfl | decide))
                  have t508 := p502 0 59 (fun q => absurd q.1 (by first | exact gz_ne rfl | decide))
                  have t509 := p502 0 118 (fun q => absurd q.1 (by first | exact gz_ne rfl | decide))
                  have t510 := p502 0 119 (fun q => absurd q.1 (by first | exact gz_ne rfl | decide))
                  have t511 := p502 0 3 (fun q => absurd q.1 (by first | exact gz_ne rfl | decide))
                  have t512 := p502 19 (Int.toNat ((I 0 6))) (fun q => absurd q.1 (by first | exact gz_ne rfl | decide))
                  have f513 := (gr_b_0_71 hI501)
                  have f514 := (gr_b_0_72 hI501)
                  have f515 := (gr_b_0_73 hI501)
                  have f516 := (gr_b_0_69 hI501)
                  have f517 := (gr_b_0_6 hI501)
                  have f518 := (gr_b_0_59 hI501)
                  have f519 := (gr_b_0_118 hI501)
                  have f520 := (gr_b_0_119 hI501)
                  have f521 := (gr_b_0_3 hI501)
                  have KLN_I501 := gr_LN_fr KLN_I477 (fun k => p502 19 k (fun q => absurd q.1 (by first | exact gz_ne rfl | decide))) (by exact gz_m 206 (by omega)) (by exact gz_m 207 (by omega))
                  have KLK_I501 := gr_LKs_fr KLK_I477 (fun k => p502 51 k (fun q => absurd q.1 (by first | exact gz_ne rfl | decide))) (p502 0 59 (fun q => absurd q.1 (by first | exact gz_ne rfl | decide)))
                  have t522 := KLN_I501 (Int.toNat ((I 0 6))) (by exact gz_m 208 (by omega))
                  have A523 := gr_ATp_sr A499 p502 rfl
                  have f524 := (gr_b_0_119 hI501)
                  refine gv_run 5 true hD (pcₚ := 410) (lvₚ := [(5, .inl ((384 * (I 0 6)) + (I429 19 (Int.toNat ((I 0 6)))))), (0, .inr (.inr (some 0))), (1, .inl (I 0 6)), (3, .inl v3_12), (4, .inl v4_103)]) (stₚ := [.inl (I501 0 119), .inl ((384 * (I 0 6)) + (I429 19 (Int.toNat ((I 0 6))))), .inr (.inr (some 45))]) (hₚ := gr_h I501 J430) (C := (((((True ∧ True) ∧ True) ∧ True) ∧ True) ∧ True)) rfl ⟨⟨⟨⟨⟨trivial, trivial⟩, trivial⟩, trivial⟩, trivial⟩, trivial⟩ ?_
                  refine gv_run 1 true hD (pcₚ := 411) (lvₚ := [(5, .inl ((384 * (I 0 6)) + (I429 19 (Int.toNat ((I 0 6)))))), (0, .inr (.inr (some 0))), (1, .inl (I 0 6)), (3, .inl v3_12), (4, .inl v4_103)]) (stₚ := []) (hₚ := gz_up (gr_h I501 J430) 45 (Int.toNat (((384 * (I 0 6)) + (I429 19 (Int.toNat ((I 0 6))))))) (.inl (I501 0 119))) (C := (True ∧ (0 ≤ (((384 * (I 0 6)) + (I429 19 (Int.toNat ((I 0 6)))))) ∧ (((384 * (I 0 6)) + (I429 19 (Int.toNat ((I 0 6)))))) < ((3072 : Nat) : Int)))) rfl ⟨trivial, ⟨by exact gz_m 209 (by omega), by exact gz_m 210 (by omega)⟩⟩ ?_
                  refine gr_st hI501 FI501 rfl rfl ⟨⟨by show 0 ≤ _; exact gz_m 211 (by omega), by show _ ≤ 6; exact gz_m 212 (by omega)⟩, trivial⟩ (fun I525 hI525 FI525 q526 p526 => ?_)
                  have t527 := p526 0 71 (fun q => absurd q.1 (by first | exact gz_ne rfl | decide))
                  have t528 := p526 0 72 (fun q => absurd q.1 (by first | exact gz_ne rfl | decide))
                  have t529 := p526 0 73 (fun q => absurd q.1 (by first | exact gz_ne rfl | decide))
                  have t530 := p526 0 69 (fun q => absurd q.1 (by first | exact gz_ne rfl | decide))
                  have t531 := p526 0 6 (fun q => absurd q.1 (by first | exact gz_ne rfl | decide))
                  have t532 := p526 0 59 (fun q => absurd q.1 (by first | exact gz_ne rfl | decide))
                  have t533 := p526 0 118 (fun q => absurd q.1 (by first | exact gz_ne rfl | decide))
                  have t534 := p526 0 119 (fun q => absurd q.1 (by first | exact gz_ne rfl | decide))
                  have t535 := p526 0 3 (fun q => absurd q.1 (by first | exact gz_ne rfl | decide))
                  have t536 := p526 19 (Int.toNat ((I 0 6))) (fun q => absurd q.1 (by first | exact gz_ne rfl | decide))
                  have f537 := (gr_b_0_71 hI525)
                  have f538 := (gr_b_0_72 hI525)
                  have f539 := (gr_b_0_73 hI525)
                  have f540 := (gr_b_0_69 hI525)
                  have f541 := (gr_b_0_6 hI525)
                  have f542 := (gr_b_0_59 hI525)
                  have f543 := (gr_b_0_118 hI525)
                  have f544 := (gr_b_0_119 hI525)
                  have f545 := (gr_b_0_3 hI525)
                  have KLN_I525 := gr_LN_fr KLN_I501 (fun k => p526 19 k (fun q => absurd q.1 (by first | exact gz_ne rfl | decide))) (by exact gz_m 213 (by omega)) (by exact gz_m 214 (by omega))
                  have KLK_I525 := gr_LKs_fr KLK_I501 (fun k => p526 51 k (fun q => absurd q.1 (by first | exact gz_ne rfl | decide))) (p526 0 59 (fun q => absurd q.1 (by first | exact gz_ne rfl | decide)))
                  have t546 := KLN_I525 (Int.toNat ((I 0 6))) (by exact gz_m 215 (by omega))
                  have A547 := gr_ATp_sr A523 p526 rfl
                  have f548 := (gr_b_0_101 hI525)
                  refine gv_run 5 true hD (pcₚ := 421) (lvₚ := [(5, .inl ((384 * (I 0 6)) + (I429 19 (Int.toNat ((I 0 6)))))), (0, .inr (.inr (some 0))), (1, .inl (I 0 6)), (3, .inl v3_12), (4, .inl v4_103)]) (stₚ := [.inl (I525 0 101), .inl ((384 * (I 0 6)) + (I429 19 (Int.toNat ((I 0 6))))), .inr (.inr (some 50))]) (hₚ := gr_h I525 J430) (C := (((((True ∧ True) ∧ True) ∧ True) ∧ True) ∧ True)) rfl ⟨⟨⟨⟨⟨trivial, trivial⟩, trivial⟩, trivial⟩, trivial⟩, trivial⟩ ?_
                  refine gv_run 1 true hD (pcₚ := 422) (lvₚ := [(5, .inl ((384 * (I 0 6)) + (I429 19 (Int.toNat ((I 0 6)))))), (0, .inr (.inr (some 0))), (1, .inl (I 0 6)), (3, .inl v3_12), (4, .inl v4_103)]) (stₚ := []) (hₚ := gz_up (gr_h I525 J430) 50 (Int.toNat (((384 * (I 0 6)) + (I429 19 (Int.toNat ((I 0 6))))))) (.inl (I525 0 101))) (C := (True ∧ (0 ≤ (((384 * (I 0 6)) + (I429 19 (Int.toNat ((I 0 6)))))) ∧ (((384 * (I 0 6)) + (I429 19 (Int.toNat ((I 0 6)))))) < ((3072 : Nat) : Int)))) rfl ⟨trivial, ⟨by exact gz_m 216 (by omega), by exact gz_m 217 (by omega)⟩⟩ ?_
                  refine gr_st hI525 FI525 rfl rfl ⟨⟨by show 0 ≤ _; exact gz_m 218 (by omega), by show _ ≤ 10000; exact gz_m 219 (by omega)⟩, trivial⟩ (fun I549 hI549 FI549 q550 p550 => ?_)
                  have t551 := p550 0 71 (fun q => absurd q.1 (by first | exact gz_ne rfl | decide))
                  have t552 := p550 0 72 (fun q => absurd q.1 (by first | exact gz_ne rfl | decide))
                  have t553 := p550 0 73 (fun q => absurd q.1 (by first | exact gz_ne rfl | decide))
                  have t554 := p550 0 69 (fun q => absurd q.1 (by first | exact gz_ne rfl | decide))
                  have t555 := p550 0 6 (fun q => absurd q.1 (by first | exact gz_ne rfl | decide))
                  have t556 := p550 0 59 (fun q => absurd q.1 (by first | exact gz_ne rfl | decide))
                  have t557 := p550 0 118 (fun q => absurd q.1 (by first | exact gz_ne rfl | decide))
                  have t558 := p550 0 119 (fun q => absurd q.1 (by first | exact gz_ne rfl | decide))
                  have t559 := p550 0 3 (fun q => absurd q.1 (by first | exact gz_ne rfl | decide))
                  have t560 := p550 19 (Int.toNat ((I 0 6))) (fun q => absurd q.1 (by first | exact gz_ne rfl | decide))
                  have f561 := (gr_b_0_71 hI549)
                  have f562 := (gr_b_0_72 hI549)
                  have f563 := (gr_b_0_73 hI549)
                  have f564 := (gr_b_0_69 hI549)
                  have f565 := (gr_b_0_6 hI549)
                  have f566 := (gr_b_0_59 hI549)
                  have f567 := (gr_b_0_118 hI549)
                  have f568 := (gr_b_0_119 hI549)
                  have f569 := (gr_b_0_3 hI549)
                  have KLN_I549 := gr_LN_fr KLN_I525 (fun k => p550 19 k (fun q => absurd q.1 (by first | exact gz_ne rfl | decide))) (by exact gz_m 220 (by omega)) (by exact gz_m 221 (by omega))
                  have KLK_I549 := gr_LKs_fr KLK_I525 (fun k => p550 51 k (fun q => absurd q.1 (by first | exact gz_ne rfl | decide))) (p550 0 59 (fun q => absurd q.1 (by first | exact gz_ne rfl | decide)))
                  have t570 := KLN_I549 (Int.toNat ((I 0 6))) (by exact gz_m 222 (by omega))
                  have A571 := gr_ATp_sr A547 p550 rfl
                  refine gv_run 2 true hD (pcₚ := 425) (lvₚ := [(6, .inl 0), (5, .inl ((384 * (I 0 6)) + (I429 19 (Int.toNat ((I 0 6)))))), (0, .inr (.inr (some 0))), (1, .inl (I 0 6)), (3, .inl v3_12), (4, .inl v4_103)]) (stₚ := []) (hₚ := gr_h I549 J430) (C := ((True ∧ True) ∧ True)) rfl ⟨⟨trivial, trivial⟩, trivial⟩ ?_
                  refine gv_pick [2, 4, 1, 0] rfl ?_
                  exact L425 _ I549 J430 (((384 * (I 0 6)) + (I429 19 (Int.toNat ((I 0 6)))))) 0 ((gs_done β N9 1 (I 0 78) p_68)) (Nat.lt_succ_self _) hI549 FI549 FJ430 KLN_I549 KLK_I549 (by exact gz_m 223 (by omega)) (gr_Q1_in (t := (Int.toNat ((I 0 6)))) KGR_I429 KST_I429 (gr_LI_fr e3_103 (fun k => g428 68 k rfl) (fun k => g428 6 k rfl) (fun k => g428 70 k rfl) (fun k => g428 71 k rfl) (fun k => g428 7 k rfl) (fun k => g428 8 k rfl) (g428 0 118 rfl) (g428 0 119 rfl)) (by exact gz_m 224 (by omega)) (by exact gz_m 225 (by omega)) (by exact gz_m 226 (by omega)) (by exact gz_m 227 (by omega)) p456 (by exact gz_m 228 (by omega)) p478 q478 p502 q502 (by exact gz_m 229 (by omega)) p526 q526 (by exact gz_m 230 (by omega)) p550) A571 (by first | (exfalso; exact gz_m 231 (by omega)) | (rw [e4_103]; unfold gs_ln7; (repeat first | rw [if_pos (by exact gz_m 232 (by omega))] | rw [if_neg (by exact gz_m 233 (by omega))]))) e7_80 (by have v9 : I429 19 (Int.toNat (I 0 6)) = I 19 (Int.toNat (I 0 6)) := ((g428 19 _ rfl).trans (e8_80.1 _)); exact gs_Uln_fr (gs_Uln_mk (fun j => ⟨((g428 19 j rfl).trans (e8_80.1 j)), ((g428 41 j rfl).trans (e8_80.2 j))⟩) (by exact gz_m 234 (by omega)) p456 (q456.trans (by exact gz_m 235 (by omega))) (by exact gz_m 236 (by omega)) p478 q478) (fun j => (((p550 19 j (fun q => absurd q.1 (by first | exact gz_ne rfl | decide))).trans (p526 19 j (fun q => absurd q.1 (by first | exact gz_ne rfl | decide)))).trans (p502 19 j (fun q => absurd q.1 (by first | exact gz_ne rfl | decide))))) (fun j => (((p550 41 j (fun q => absurd q.1 (by first | exact gz_ne rfl | decide))).trans (p526 41 j (fun q => absurd q.1 (by first | exact gz_ne rfl | decide)))).trans (p502 41 j (fun q => absurd q.1 (by first | exact gz_ne rfl | decide))))))
                · have Q572 := q428.2.2.2.2.2.2.2.2.2.2.2.2
                  rw [FI66 0 78 rfl] at Q572
                  obtain ⟨u572, u572_⟩ := gs_or0 Q572 (by exact gz_m 237 (by omega))
                  refine gv_run 1 true hD (pcₚ := 361) (lvₚ := [(0, .inr (.inr (some 0))), (1, .inl (I 0 6)), (3, .inl v3_12), (4, .inl v4_103), (5, .inl v5_103)]) (stₚ := [.inl 0]) (hₚ := gr_h I429 J430) (C := (True ∧ True)) rfl ⟨trivial, trivial⟩ ?_
                  have b573 : (I429 0 71 = 5 ∨ I429 0 73 ≤ I429 0 69) ∧ (I429 0 72 ≤ I429 0 69) ∧ (I429 0 71 = 0 ∨ (I429 0 72 < I429 0 73 ∧ I429 0 72 < I429 0 69)) ∧ (I429 0 71 = 3 → 2 ≤ I429 0 73 - I429 0 72 ∧ I429 0 73 - I429 0 72 ≤ 14) ∧ (I429 0 72 ≤ I429 0 73) ∧ (I429 0 69 = I 0 69) ∧ (I 0 73 ≤ I429 0 73) ∧ (I 0 72 ≤ I429 0 72) ∧ (I429 0 59 - I429 0 72 ≤ I 0 59 - I 0 72) := by exact gz_m 238 (by omega)
                  exact gv_zret hD rfl (by exact gz_m 239 (by omega)) ⟨I429, J430, rfl, hI429, FI429, FJ430, KLN_I429, KGR_I429, KST_I429, ⟨_, rfl, by exact gz_m 240 (by omega), by exact gz_m 241 (by omega), b573.1, b573.2.1, b573.2.2.1, b573.2.2.2.1, b573.2.2.2.2.1, b573.2.2.2.2.2.1, b573.2.2.2.2.2.2.1, b573.2.2.2.2.2.2.2.1, b573.2.2.2.2.2.2.2.2, KLK_I429, (Or.inr ⟨by exact gz_m 242 (by omega), by first | (exfalso; exact gz_m 243 (by omega)) | (rw [e4_103]; unfold gs_ln7; (repeat first | rw [if_pos (by exact gz_m 244 (by omega))] | rw [if_neg (by exact gz_m 245 (by omega))]); exact ⟨by exact gz_m 246 (by omega), by exact gz_m 247 (by omega), (fun j => ⟨((g428 19 j rfl).trans (e8_80.1 j)), ((g428 41 j rfl).trans (e8_80.2 j))⟩)⟩)⟩)⟩⟩
            · refine gv_run 7 true hD (pcₚ := 328) (lvₚ := [(0, .inr (.inr (some 0))), (1, .inl (I 0 6)), (3, .inl v3_12), (4, .inl v4_103), (5, .inl v5_103)]) (stₚ := [.inl ((384 * (I 0 6)) + v5_103), .inr (.inr (some 41))]) (hₚ := gr_h I66 J67) (C := (((((((True ∧ True) ∧ True) ∧ True) ∧ True) ∧ True) ∧ True) ∧ True)) rfl ⟨⟨⟨⟨⟨⟨⟨trivial, trivial⟩, trivial⟩, trivial⟩, trivial⟩, trivial⟩, trivial⟩, trivial⟩ ?_
              have f574 := (gr_b_41 hI66 (Int.toNat (((384 * (I 0 6)) + v5_103))))
              refine gv_run 1 true hD (pcₚ := 329) (lvₚ := [(0, .inr (.inr (some 0))), (1, .inl (I 0 6)), (3, .inl v3_12), (4, .inl v4_103), (5, .inl v5_103)]) (stₚ := [.inl (I66 41 (Int.toNat (((384 * (I 0 6)) + v5_103))))]) (hₚ := gr_h I66 J67) (C := (True ∧ (0 ≤ (((384 * (I 0 6)) + v5_103)) ∧ (((384 * (I 0 6)) + v5_103)) < ((3072 : Nat) : Int)))) rfl ⟨trivial, ⟨by exact gz_m 248 (by omega), by exact gz_m 249 (by omega)⟩⟩ ?_
              refine gv_run 1 true hD (pcₚ := 330) (lvₚ := [(0, .inr (.inr (some 0))), (1, .inl (I 0 6)), (3, .inl v3_12), (4, .inl v4_103), (5, .inl v5_103)]) (stₚ := [.inl v3_12, .inl (I66 41 (Int.toNat (((384 * (I 0 6)) + v5_103))))]) (hₚ := gr_h I66 J67) (C := (True ∧ True)) rfl ⟨trivial, trivial⟩ ?_
              have t575 := (show gs_lf I (Int.toNat v5_103) = I66 41 (Int.toNat (384 * I 0 6 + v5_103)) from by unfold gs_lf; rw [Int.toNat_of_nonneg (by exact gz_m 250 (by omega))]; exact ((e8_80.2 _)).symm)
              refine gv_icmp_ne (t := 336) hD rfl rfl ⟨⟨by exact gz_m 251 (by omega), by exact gz_m 252 (by omega)⟩, ⟨by exact gz_m 253 (by omega), by exact gz_m 254 (by omega)⟩⟩ (fun c576 => ?_) (fun c576 => ?_)
              · refine gv_run 2 true hD (pcₚ := 305) (lvₚ := [(5, .inl (v5_103 + 1)), (0, .inr (.inr (some 0))), (1, .inl (I 0 6)), (3, .inl v3_12), (4, .inl v4_103)]) (stₚ := []) (hₚ := gr_h I66 J67) (C := ((True ∧ True) ∧ True)) rfl ⟨⟨trivial, trivial⟩, trivial⟩ ?_
                refine gv_pick [1, 2, 3, 4, 0] rfl ?_
                exact ih305 v4_103 (v5_103 + 1) (by exact gz_m 255 (by omega)) (by exact gz_m 256 (by omega)) e3_103 e4_103 (by rw [gs_cf_n (by exact gz_m 257 (by omega)) (by exact gz_m 258 (by omega))]; exact e5_103) (by exact gz_m 259 (by omega))
              · refine gv_run 3 true hD (pcₚ := 305) (lvₚ := [(5, .inl (v5_103 + 1)), (4, .inl (v4_103 + 1)), (0, .inr (.inr (some 0))), (1, .inl (I 0 6)), (3, .inl v3_12)]) (stₚ := []) (hₚ := gr_h I66 J67) (C := (((True ∧ True) ∧ True) ∧ True)) rfl ⟨⟨⟨trivial, trivial⟩, trivial⟩, trivial⟩ ?_
                refine gv_pick [2, 3, 4, 1, 0] rfl ?_
                exact ih305 (v4_103 + 1) (v5_103 + 1) (by exact gz_m 260 (by omega)) (by exact gz_m 261 (by omega)) e3_103 e4_103 (by rw [gs_cf_y (by exact gz_m 262 (by omega)) (by exact gz_m 263 (by omega)), ← e5_103]) (by exact gz_m 264 (by omega))
        have f577 := (gr_b_6 hI66 (Int.toNat v3_12))
        refine gv_run 5 true hD (pcₚ := 272) (lvₚ := [(0, .inr (.inr (some 0))), (1, .inl (I 0 6)), (2, .inl v2_12), (3, .inl v3_12), (4, .inl v4_92)]) (stₚ := [.inl (I66 6 (Int.toNat v3_12)), .inl v4_92]) (hₚ := gr_h I66 J67) (C := (((((True ∧ True) ∧ True) ∧ True) ∧ True) ∧ (0 ≤ v3_12 ∧ v3_12 < ((96 : Nat) : Int)))) rfl ⟨⟨⟨⟨⟨trivial, trivial⟩, trivial⟩, trivial⟩, trivial⟩, ⟨by exact gz_m 265 (by omega), by exact gz_m 266 (by omega)⟩⟩ ?_
        have t578 := (show I66 6 (Int.toNat v3_12) = I 6 (Int.toNat v3_12) from (FI66 6 _ rfl))
        have t579 := (gr_b_6 hI (Int.toNat v3_12))
        refine gv_icmp_ge (t := 299) hD rfl rfl ⟨⟨by exact gz_m 267 (by omega), by exact gz_m 268 (by omega)⟩, ⟨by exact gz_m 269 (by omega), by exact gz_m 270 (by omega)⟩⟩ (fun c580 => ?_) (fun c580 => ?_)
        · refine gv_run 4 true hD (pcₚ := 305) (lvₚ := [(5, .inl 0), (4, .inl 0), (0, .inr (.inr (some 0))), (1, .inl (I 0 6)), (2, .inl v2_12), (3, .inl v3_12)]) (stₚ := []) (hₚ := gr_h I66 J67) (C := ((((True ∧ True) ∧ True) ∧ True) ∧ True)) rfl ⟨⟨⟨⟨trivial, trivial⟩, trivial⟩, trivial⟩, trivial⟩ ?_
          refine gv_pick [2, 3, 5, 1, 0] rfl ?_
          exact L305 _ 0 0 (Nat.lt_succ_self _) (by exact gz_m 271 (by omega)) (gr_LI_of e2_92 (by exact gz_m 272 (by omega)) (by exact gz_m 273 (by omega)) (by exact gz_m 274 (by omega))) (by rw [e6_80]; unfold gs_ln6; rw [if_pos (by rw [e3_92]; exact gs_all_e (by exact gz_m 275 (by omega)))]) rfl (by have h9 := (hI 19 (Int.toNat (I 0 6))).1; show (0 : Int) ≤ _; have h8 : 0 ≤ I 19 (Int.toNat (I 0 6)) := h9.1; exact gz_m 276 (by omega))
        · have f581 := (gr_b_74 hI66 (Int.toNat v4_92))
          refine gv_run 4 true hD (pcₚ := 282) (lvₚ := [(0, .inr (.inr (some 0))), (1, .inl (I 0 6)), (2, .inl v2_12), (3, .inl v3_12), (4, .inl v4_92)]) (stₚ := [.inl (I66 74 (Int.toNat v4_92))]) (hₚ := gr_h I66 J67) (C := ((((True ∧ True) ∧ True) ∧ True) ∧ (0 ≤ v4_92 ∧ v4_92 < ((4 : Nat) : Int)))) rfl ⟨⟨⟨⟨trivial, trivial⟩, trivial⟩, trivial⟩, ⟨by exact gz_m 277 (by omega), by exact gz_m 278 (by omega)⟩⟩ ?_
          have t582 := (gs_a4_i (f := I66 74) (j := Int.toNat v4_92) (by exact gz_m 279 (by omega)))
          refine gv_if_ge (t := 293) hD rfl rfl ⟨by exact gz_m 280 (by omega), by exact gz_m 281 (by omega)⟩ (fun c583 => ?_) (fun c583 => ?_)
          · refine gv_run 2 true hD (pcₚ := 264) (lvₚ := [(4, .inl (v4_92 + 1)), (0, .inr (.inr (some 0))), (1, .inl (I 0 6)), (2, .inl v2_12), (3, .inl v3_12)]) (stₚ := []) (hₚ := gr_h I66 J67) (C := ((True ∧ True) ∧ True)) rfl ⟨⟨trivial, trivial⟩, trivial⟩ ?_
            refine gv_pick [1, 2, 3, 4, 0] rfl ?_
            exact ih264 (v4_92 + 1) (by exact gz_m 282 (by omega)) (by exact gz_m 283 (by omega)) (gr_R3_nx e2_92 (by exact gz_m 284 (by omega)) (by exact gz_m 285 (by omega))) (e3_92.trans (gs_all_s (by exact gz_m 286 (by omega)) (by exact gz_m 287 (by omega)) (by exact gz_m 288 (by omega))))
          · refine gv_run 3 true hD (pcₚ := 289) (lvₚ := [(0, .inr (.inr (some 0))), (1, .inl (I 0 6)), (2, .inl v2_12), (3, .inl v3_12), (4, .inl v4_92)]) (stₚ := [.inl v2_12, .inl 6, .inr (.inr (some 0))]) (hₚ := gr_h I66 J67) (C := (((True ∧ True) ∧ True) ∧ True)) rfl ⟨⟨⟨trivial, trivial⟩, trivial⟩, trivial⟩ ?_
            obtain ⟨r584, h584, E584, P584⟩ := r_no_p (ws0 := ws0) (tb := tb) hws htb ext I66 J67 hI66 6 v2_12 ⟨by exact gz_m 289 (by omega), by exact gz_m 290 (by omega)⟩ ⟨by exact gz_m 291 (by omega), by exact gz_m 292 (by omega)⟩ 
            obtain ⟨I585, J586, rfl, hI585, g584, k584, ⟨z584, rfl, q584⟩⟩ := P584
            have FI585 := gr_frt FI66 g584 rfl rfl
            have FJ586 := gr_fjt FJ67 k584 rfl rfl
            have t587 := g584 0 71 rfl
            have t588 := g584 0 72 rfl
            have t589 := g584 0 73 rfl
            have t590 := g584 0 69 rfl
            have t591 := g584 0 6 rfl
            have t592 := g584 0 59 rfl
            have t593 := g584 0 118 rfl
            have t594 := g584 0 119 rfl
            have t595 := g584 0 3 rfl
            have t596 := g584 19 (Int.toNat ((I 0 6))) rfl
            have f597 := (gr_b_0_71 hI585)
            have f598 := (gr_b_0_72 hI585)
            have f599 := (gr_b_0_73 hI585)
            have f600 := (gr_b_0_69 hI585)
            have f601 := (gr_b_0_6 hI585)
            have f602 := (gr_b_0_59 hI585)
            have f603 := (gr_b_0_118 hI585)
            have f604 := (gr_b_0_119 hI585)
            have f605 := (gr_b_0_3 hI585)
            have KLN_I585 := gr_LN_fr KLN_I66 (fun k => g584 19 k rfl) (by exact gz_m 293 (by omega)) (by exact gz_m 294 (by omega))
            have KGR_I585 := gr_GR_fr KGR_I66 (fun k => g584 19 k rfl) (fun k => g584 18 k rfl) (fun k => g584 36 k rfl) (fun k => g584 41 k rfl) (fun k => g584 42 k rfl) (fun k => g584 43 k rfl) (fun k => g584 45 k rfl) (fun k => g584 46 k rfl) (fun k => g584 47 k rfl) (fun k => g584 6 k rfl) (fun k => g584 7 k rfl) (fun k => g584 8 k rfl) (g584 0 3 rfl)
            have KST_I585 := gr_ST_fr KST_I66 (fun k => g584 6 k rfl) (fun k => g584 19 k rfl) (fun k => g584 18 k rfl) (fun k => g584 41 k rfl) (fun k => g584 36 k rfl) (g584 0 3 rfl)
            have KLK_I585 := gr_LKs_fr KLK_I66 (fun k => g584 51 k rfl) (g584 0 59 rfl)
            have t606 := KLN_I585 (Int.toNat ((I 0 6))) (by exact gz_m 295 (by omega))
            have A607 := gr_ATp_F e5_68 g584 k584 rfl
            have t608 := gr_ATp_l A607
            refine gv_callV hD rfl (As := [.inl 6, .inl v2_12]) (st := []) rfl (by decide) rfl rfl (gr_lV hws rfl) (Nat.le_of_ble_eq_true rfl) (gz_Ev_mono (d := 1) (by decide) E584) ?_
            show gv_X _ _ (292, [(0, .inr (.inr (some 0))), (1, .inl (I 0 6)), (2, .inl v2_12), (3, .inl v3_12), (4, .inl v4_92)], [.inl z584], gr_sh ++ ext, gr_h I585 J586)
            have b609 : (I585 0 69 = I 0 69) ∧ (I 0 73 ≤ I585 0 73) ∧ (I 0 72 ≤ I585 0 72) ∧ (I585 0 59 - I585 0 72 ≤ I 0 59 - I 0 72) := by exact gz_m 296 (by omega)
            exact gv_zret hD rfl (by exact gz_m 297 (by omega)) ⟨I585, J586, rfl, hI585, FI585, FJ586, KLN_I585, KGR_I585, KST_I585, ⟨_, rfl, by exact gz_m 298 (by omega), by exact gz_m 299 (by omega), (gr_ATp_rr A607).1, (gr_ATp_rr A607).2.1, (gr_ATp_rr A607).2.2.1, (gr_ATp_rr A607).2.2.2.1, (gr_ATp_rr A607).2.2.2.2, b609.1, b609.2.1, b609.2.2.1, b609.2.2.2, KLK_I585, (Or.inr ⟨by exact gz_m 300 (by omega), by first | (exfalso; exact gz_m 301 (by omega)) | (have z9 := e3_92.trans (gs_all_x (by exact gz_m 302 (by omega)) (by exact gz_m 303 (by omega))); rw [e6_80]; unfold gs_ln6; (repeat first | rw [if_pos (by exact gz_m 304 (by omega))] | rw [if_neg (by exact gz_m 305 (by omega))]); exact ⟨by exact gz_m 306 (by omega), by exact gz_m 307 (by omega), (fun j => ⟨((g584 19 j rfl).trans (e8_80.1 j)), ((g584 41 j rfl).trans (e8_80.2 j))⟩)⟩)⟩)⟩⟩
    refine gv_run 2 true hD (pcₚ := 264) (lvₚ := [(4, .inl 0), (0, .inr (.inr (some 0))), (1, .inl (I 0 6)), (2, .inl v2_12), (3, .inl v3_12)]) (stₚ := []) (hₚ := gr_h I66 J67) (C := ((True ∧ True) ∧ True)) rfl ⟨⟨trivial, trivial⟩, trivial⟩ ?_
    refine gv_pick [1, 2, 3, 4, 0] rfl ?_
    exact L264 _ 0 (Nat.lt_succ_self _) (by exact gz_m 308 (by omega)) e3_80 (by rw [show I 6 (Int.toNat v3_12) - 0 = I 6 (Int.toNat v3_12) from by exact gz_m 309 (by omega)]; rfl)
  refine gv_run 2 true hD (pcₚ := 186) (lvₚ := [(0, .inr (.inr (some 0))), (1, .inl (I 0 6)), (2, .inl v2_12), (3, .inl v3_12)]) (stₚ := [.inl 59, .inr (.inr (some 0))]) (hₚ := gr_h I66 J67) (C := ((True ∧ True) ∧ True)) rfl ⟨⟨trivial, trivial⟩, trivial⟩ ?_
  obtain ⟨r610, h610, E610, P610⟩ := r_sign_p (ws0 := ws0) (tb := tb) hws htb ext β N9 p_68 I66 J67 hI66 59 ⟨by exact gz_m 310 (by omega), by exact gz_m 311 (by omega)⟩ (fun h9 => by have g9 := (gr_ATp_rr e5_68).2.2.1; exact gz_m 312 (by omega)) e5_68 (by exact gz_m 313 (by omega))
  obtain ⟨rfl, ⟨z610, rfl, q610⟩⟩ := P610
  have V610 := gs_or_mk q610.2.2.2
  obtain ⟨_, _, o610, -⟩ := q610
  refine gv_callV hD rfl (As := [.inl 59]) (st := []) rfl (by decide) rfl rfl (gr_lV hws rfl) (Nat.le_of_ble_eq_true rfl) (gz_Ev_mono (d := 1) (by decide) E610) ?_
  show gv_X _ _ (189, [(0, .inr (.inr (some 0))), (1, .inl (I 0 6)), (2, .inl v2_12), (3, .inl v3_12)], [.inl z610], gr_sh ++ ext, gr_h I66 J67)
  refine gv_if_ne (t := 198) hD rfl rfl ⟨by exact gz_m 314 (by omega), by exact gz_m 315 (by omega)⟩ (fun c611 => ?_) (fun c611 => ?_)
  · have u612 := gs_or1 V610 (by exact gz_m 316 (by omega))
    have t613 := o610.resolve_left (by exact gz_m 317 (by omega))
    have t614 := (gr_ATp_rr e5_68).2.2.1.resolve_left (by exact gz_m 318 (by omega))
    clear o610 V610
    have t615 := (gs_i0_1 (I := I66))
    have f616 := (gr_b_0_118 hI66)
    refine gv_run 3 true hD (pcₚ := 203) (lvₚ := [(0, .inr (.inr (some 0))), (1, .inl (I 0 6)), (2, .inl v2_12), (3, .inl v3_12)]) (stₚ := [.inl 1, .inl (I66 0 118)]) (hₚ := gr_h I66 J67) (C := (((True ∧ True) ∧ True) ∧ True)) rfl ⟨⟨⟨trivial, trivial⟩, trivial⟩, trivial⟩ ?_
    refine gv_icmp_ne (t := 261) hD rfl rfl ⟨⟨by exact gz_m 319 (by omega), by exact gz_m 320 (by omega)⟩, ⟨by exact gz_m 321 (by omega), by exact gz_m 322 (by omega)⟩⟩ (fun c617 => ?_) (fun c617 => ?_)
    · exact L261 (by exact gz_m 323 (by omega)) ⟨e3_68, (fun (a9 : I66 0 118 = 1) (b9 : (I66 68 (Int.toNat 0)) < 0) => (by exact gz_m 324 (by omega) : I66 7 (Int.toNat (((4 * v3_12) - 1) - (I66 68 (Int.toNat 0)))) < I66 8 (Int.toNat v3_12))), fun j hj => absurd hj (by exact gz_m 325 (by omega))⟩ e5_68 (by rw [e6_68]; unfold gs_ln4; (repeat first | rw [if_pos (by exact gz_m 326 (by omega))] | rw [if_neg (by exact gz_m 327 (by omega))])) e7_68 ⟨(fun k => (e8_68.1 k)), (fun k => (e8_68.2 k))⟩
    · have f618 := (gr_b_68 hI66 (Int.toNat 0))
      refine gv_run 4 true hD (pcₚ := 212) (lvₚ := [(0, .inr (.inr (some 0))), (1, .inl (I 0 6)), (2, .inl v2_12), (3, .inl v3_12)]) (stₚ := [.inl (I66 68 (Int.toNat 0))]) (hₚ := gr_h I66 J67) (C := ((((True ∧ True) ∧ True) ∧ True) ∧ (0 ≤ 0 ∧ 0 < ((6 : Nat) : Int)))) rfl ⟨⟨⟨⟨trivial, trivial⟩, trivial⟩, trivial⟩, ⟨by exact gz_m 328 (by omega), by exact gz_m 329 (by omega)⟩⟩ ?_
      have t619 := (gs_i0_1 (I := I66))
      refine gv_if_ge (t := 261) hD rfl rfl ⟨by exact gz_m 330 (by omega), by exact gz_m 331 (by omega)⟩ (fun c620 => ?_) (fun c620 => ?_)
      · exact L261 (by exact gz_m 332 (by omega)) ⟨e3_68, (fun (a9 : I66 0 118 = 1) (b9 : (I66 68 (Int.toNat 0)) < 0) => (by exact gz_m 333 (by omega) : I66 7 (Int.toNat (((4 * v3_12) - 1) - (I66 68 (Int.toNat 0)))) < I66 8 (Int.toNat v3_12))), fun j hj => absurd hj (by exact gz_m 334 (by omega))⟩ e5_68 (by rw [e6_68]; unfold gs_ln4; (repeat first | rw [if_pos (by exact gz_m 335 (by omega))] | rw [if_neg (by exact gz_m 336 (by omega))])) e7_68 ⟨(fun k => (e8_68.1 k)), (fun k => (e8_68.2 k))⟩
      · refine gv_run 7 true hD (pcₚ := 224) (lvₚ := [(0, .inr (.inr (some 0))), (1, .inl (I 0 6)), (2, .inl v2_12), (3, .inl v3_12)]) (stₚ := [.inl ((4 * v3_12) - 1), .inr (.inr (some 7))]) (hₚ := gr_h I66 J67) (C := (((((((True ∧ True) ∧ True) ∧ True) ∧ True) ∧ True) ∧ True) ∧ True)) rfl ⟨⟨⟨⟨⟨⟨⟨trivial, trivial⟩, trivial⟩, trivial⟩, trivial⟩, trivial⟩, trivial⟩, trivial⟩ ?_
        have f621 := (gr_b_68 hI66 (Int.toNat 0))
        refine gv_run 4 true hD (pcₚ := 230) (lvₚ := [(0, .inr (.inr (some 0))), (1, .inl (I 0 6)), (2, .inl v2_12), (3, .inl v3_12)]) (stₚ := [.inl (I66 68 (Int.toNat 0)), .inl ((4 * v3_12) - 1), .inr (.inr (some 7))]) (hₚ := gr_h I66 J67) (C := ((((True ∧ True) ∧ True) ∧ True) ∧ (0 ≤ 0 ∧ 0 < ((6 : Nat) : Int)))) rfl ⟨⟨⟨⟨trivial, trivial⟩, trivial⟩, trivial⟩, ⟨by exact gz_m 337 (by omega), by exact gz_m 338 (by omega)⟩⟩ ?_
        have f622 := (gr_b_7 hI66 (Int.toNat ((((4 * v3_12) - 1) - (I66 68 (Int.toNat 0))))))
        refine gv_run 2 true hD (pcₚ := 232) (lvₚ := [(0, .inr (.inr (some 0))), (1, .inl (I 0 6)), (2, .inl v2_12), (3, .inl v3_12)]) (stₚ := [.inl (I66 7 (Int.toNat ((((4 * v3_12) - 1) - (I66 68 (Int.toNat 0))))))]) (hₚ := gr_h I66 J67) (C := ((True ∧ True) ∧ (0 ≤ ((((4 * v3_12) - 1) - (I66 68 (Int.toNat 0)))) ∧ ((((4 * v3_12) - 1) - (I66 68 (Int.toNat 0)))) < ((384 : Nat) : Int)))) rfl ⟨⟨trivial, trivial⟩, ⟨by exact gz_m 339 (by omega), by exact gz_m 340 (by omega)⟩⟩ ?_
        have f623 := (gr_b_8 hI66 (Int.toNat v3_12))
        refine gv_run 4 true hD (pcₚ := 238) (lvₚ := [(0, .inr (.inr (some 0))), (1, .inl (I 0 6)), (2, .inl v2_12), (3, .inl v3_12)]) (stₚ := [.inl (I66 8 (Int.toNat v3_12)), .inl (I66 7 (Int.toNat ((((4 * v3_12) - 1) - (I66 68 (Int.toNat 0))))))]) (hₚ := gr_h I66 J67) (C := ((((True ∧ True) ∧ True) ∧ True) ∧ (0 ≤ v3_12 ∧ v3_12 < ((96 : Nat) : Int)))) rfl ⟨⟨⟨⟨trivial, trivial⟩, trivial⟩, trivial⟩, ⟨by exact gz_m 341 (by omega), by exact gz_m 342 (by omega)⟩⟩ ?_
        have t624 := (show I 7 (Int.toNat (4 * v3_12 - 1 - gs_i0 I66)) = I66 7 (Int.toNat (4 * v3_12 - 1 - I66 68 (Int.toNat 0))) from by rw [show gs_i0 I66 = I66 68 (Int.toNat 0) from by exact gz_m 343 (by omega)]; exact ((FI66 7 _ rfl)).symm)
        have t625 := (show I66 8 (Int.toNat v3_12) = I 8 (Int.toNat v3_12) from (FI66 8 _ rfl))
        refine gv_icmp_lt (t := 261) hD rfl rfl ⟨⟨by exact gz_m 344 (by omega), by exact gz_m 345 (by omega)⟩, ⟨by exact gz_m 346 (by omega), by exact gz_m 347 (by omega)⟩⟩ (fun c626 => ?_) (fun c626 => ?_)
        · exact L261 (by exact gz_m 348 (by omega)) ⟨e3_68, (fun (a9 : I66 0 118 = 1) (b9 : (I66 68 (Int.toNat 0)) < 0) => (by exact gz_m 349 (by omega) : I66 7 (Int.toNat (((4 * v3_12) - 1) - (I66 68 (Int.toNat 0)))) < I66 8 (Int.toNat v3_12))), fun j hj => absurd hj (by exact gz_m 350 (by omega))⟩ e5_68 (by rw [e6_68]; unfold gs_ln4; (repeat first | rw [if_pos (by exact gz_m 351 (by omega))] | rw [if_neg (by exact gz_m 352 (by omega))])) e7_68 ⟨(fun k => (e8_68.1 k)), (fun k => (e8_68.2 k))⟩
        · refine gv_run 7 true hD (pcₚ := 253) (lvₚ := [(0, .inr (.inr (some 0))), (1, .inl (I 0 6)), (2, .inl v2_12), (3, .inl v3_12)]) (stₚ := [.inr (.inr (some 68)), .inl (-1), .inr (.inr (some 74)), .inl 6, .inr (.inr (some 0))]) (hₚ := gr_h I66 J67) (C := (((((((True ∧ True) ∧ True) ∧ True) ∧ True) ∧ True) ∧ True) ∧ True)) rfl ⟨⟨⟨⟨⟨⟨⟨trivial, trivial⟩, trivial⟩, trivial⟩, trivial⟩, trivial⟩, trivial⟩, trivial⟩ ?_
          have f627 := (gr_b_68 hI66 (Int.toNat 0))
          refine gv_run 2 true hD (pcₚ := 255) (lvₚ := [(0, .inr (.inr (some 0))), (1, .inl (I 0 6)), (2, .inl v2_12), (3, .inl v3_12)]) (stₚ := [.inl (I66 68 (Int.toNat 0)), .inl (-1), .inr (.inr (some 74)), .inl 6, .inr (.inr (some 0))]) (hₚ := gr_h I66 J67) (C := ((True ∧ True) ∧ (0 ≤ 0 ∧ 0 < ((6 : Nat) : Int)))) rfl ⟨⟨trivial, trivial⟩, ⟨by exact gz_m 353 (by omega), by exact gz_m 354 (by omega)⟩⟩ ?_
          have f628 := (gr_b_74 hI66 (Int.toNat (((-1) - (I66 68 (Int.toNat 0))))))
          refine gv_run 2 true hD (pcₚ := 257) (lvₚ := [(0, .inr (.inr (some 0))), (1, .inl (I 0 6)), (2, .inl v2_12), (3, .inl v3_12)]) (stₚ := [.inl (I66 74 (Int.toNat (((-1) - (I66 68 (Int.toNat 0)))))), .inl 6, .inr (.inr (some 0))]) (hₚ := gr_h I66 J67) (C := ((True ∧ True) ∧ (0 ≤ (((-1) - (I66 68 (Int.toNat 0)))) ∧ (((-1) - (I66 68 (Int.toNat 0)))) < ((4 : Nat) : Int)))) rfl ⟨⟨trivial, trivial⟩, ⟨by exact gz_m 355 (by omega), by exact gz_m 356 (by omega)⟩⟩ ?_
          have t629 := (gs_R1_i e3_68 (by exact gz_m 357 (by omega)) (by exact gz_m 358 (by omega)))
          have t630 := (show gs_a4 (I66 74) (Int.toNat (-1 - gs_i0 I66)) = I66 74 (Int.toNat (-1 - I66 68 (Int.toNat 0))) from by rw [show gs_i0 I66 = I66 68 (Int.toNat 0) from by exact gz_m 359 (by omega)]; exact gs_a4_i (by exact gz_m 360 (by omega)))
          obtain ⟨r631, h631, E631, P631⟩ := r_no_p (ws0 := ws0) (tb := tb) hws htb ext I66 J67 hI66 6 ((I66 74 (Int.toNat (((-1) - (I66 68 (Int.toNat 0))))))) ⟨by exact gz_m 361 (by omega), by exact gz_m 362 (by omega)⟩ ⟨by exact gz_m 363 (by omega), by exact gz_m 364 (by omega)⟩ 
          obtain ⟨I632, J633, rfl, hI632, g631, k631, ⟨z631, rfl, q631⟩⟩ := P631
          have FI632 := gr_frt FI66 g631 rfl rfl
          have FJ633 := gr_fjt FJ67 k631 rfl rfl
          have t634 := g631 0 71 rfl
          have t635 := g631 0 72 rfl
          have t636 := g631 0 73 rfl
          have t637 := g631 0 69 rfl
          have t638 := g631 0 6 rfl
          have t639 := g631 0 59 rfl
          have t640 := g631 0 118 rfl
          have t641 := g631 0 119 rfl
          have t642 := g631 0 3 rfl
          have t643 := g631 19 (Int.toNat ((I 0 6))) rfl
          have f644 := (gr_b_0_71 hI632)
          have f645 := (gr_b_0_72 hI632)
          have f646 := (gr_b_0_73 hI632)
          have f647 := (gr_b_0_69 hI632)
          have f648 := (gr_b_0_6 hI632)
          have f649 := (gr_b_0_59 hI632)
          have f650 := (gr_b_0_118 hI632)
          have f651 := (gr_b_0_119 hI632)
          have f652 := (gr_b_0_3 hI632)
          have KLN_I632 := gr_LN_fr KLN_I66 (fun k => g631 19 k rfl) (by exact gz_m 365 (by omega)) (by exact gz_m 366 (by omega))
          have KGR_I632 := gr_GR_fr KGR_I66 (fun k => g631 19 k rfl) (fun k => g631 18 k rfl) (fun k => g631 36 k rfl) (fun k => g631 41 k rfl) (fun k => g631 42 k rfl) (fun k => g631 43 k rfl) (fun k => g631 45 k rfl) (fun k => g631 46 k rfl) (fun k => g631 47 k rfl) (fun k => g631 6 k rfl) (fun k => g631 7 k rfl) (fun k => g631 8 k rfl) (g631 0 3 rfl)
          have KST_I632 := gr_ST_fr KST_I66 (fun k => g631 6 k rfl) (fun k => g631 19 k rfl) (fun k => g631 18 k rfl) (fun k => g631 41 k rfl) (fun k => g631 36 k rfl) (g631 0 3 rfl)
          have KLK_I632 := gr_LKs_fr KLK_I66 (fun k => g631 51 k rfl) (g631 0 59 rfl)
          have t653 := KLN_I632 (Int.toNat ((I 0 6))) (by exact gz_m 367 (by omega))
          have A654 := gr_ATp_F e5_68 g631 k631 rfl
          have t655 := gr_ATp_l A654
          refine gv_callV hD rfl (As := [.inl 6, .inl (I66 74 (Int.toNat (((-1) - (I66 68 (Int.toNat 0))))))]) (st := []) rfl (by decide) rfl rfl (gr_lV hws rfl) (Nat.le_of_ble_eq_true rfl) (gz_Ev_mono (d := 1) (by decide) E631) ?_
          show gv_X _ _ (260, [(0, .inr (.inr (some 0))), (1, .inl (I 0 6)), (2, .inl v2_12), (3, .inl v3_12)], [.inl z631], gr_sh ++ ext, gr_h I632 J633)
          have b656 : (I632 0 69 = I 0 69) ∧ (I 0 73 ≤ I632 0 73) ∧ (I 0 72 ≤ I632 0 72) ∧ (I632 0 59 - I632 0 72 ≤ I 0 59 - I 0 72) := by exact gz_m 368 (by omega)
          exact gv_zret hD rfl (by exact gz_m 369 (by omega)) ⟨I632, J633, rfl, hI632, FI632, FJ633, KLN_I632, KGR_I632, KST_I632, ⟨_, rfl, by exact gz_m 370 (by omega), by exact gz_m 371 (by omega), (gr_ATp_rr A654).1, (gr_ATp_rr A654).2.1, (gr_ATp_rr A654).2.2.1, (gr_ATp_rr A654).2.2.2.1, (gr_ATp_rr A654).2.2.2.2, b656.1, b656.2.1, b656.2.2.1, b656.2.2.2, KLK_I632, (Or.inr ⟨by exact gz_m 372 (by omega), by first | (exfalso; exact gz_m 373 (by omega)) | (rw [e6_68]; unfold gs_ln4; (repeat first | rw [if_pos (by exact gz_m 374 (by omega))] | rw [if_neg (by exact gz_m 375 (by omega))]); exact ⟨by exact gz_m 376 (by omega), by exact gz_m 377 (by omega), (fun j => ⟨((g631 19 j rfl).trans (e8_68.1 j)), ((g631 41 j rfl).trans (e8_68.2 j))⟩)⟩)⟩)⟩⟩
  · have u657 := gs_or0 V610 (by exact gz_m 378 (by omega))
    clear o610 V610
    refine gv_run 2 true hD (pcₚ := 194) (lvₚ := [(0, .inr (.inr (some 0))), (1, .inl (I 0 6)), (2, .inl v2_12), (3, .inl v3_12)]) (stₚ := [.inl 1, .inr (.inr (some 0))]) (hₚ := gr_h I66 J67) (C := ((True ∧ True) ∧ True)) rfl ⟨⟨trivial, trivial⟩, trivial⟩ ?_
    obtain ⟨r658, h658, E658, P658⟩ := r_no__p (ws0 := ws0) (tb := tb) hws htb ext β N9 p_68 I66 J67 hI66 1 ⟨by exact gz_m 379 (by omega), by exact gz_m 380 (by omega)⟩ e5_68 (by exact gz_m 381 (by omega))
    obtain ⟨I659, J660, rfl, hI659, g658, k658, ⟨z658, rfl, q658⟩⟩ := P658
    have FI659 := gr_frt FI66 g658 rfl rfl
    have FJ660 := gr_fjt FJ67 k658 rfl rfl
    have t661 := g658 0 71 rfl
    have t662 := g658 0 72 rfl
    have t663 := g658 0 73 rfl
    have t664 := g658 0 69 rfl
    have t665 := g658 0 6 rfl
    have t666 := g658 0 59 rfl
    have t667 := g658 0 118 rfl
    have t668 := g658 0 119 rfl
    have t669 := g658 0 3 rfl
    have t670 := g658 19 (Int.toNat ((I 0 6))) rfl
    have f671 := (gr_b_0_71 hI659)
    have f672 := (gr_b_0_72 hI659)
    have f673 := (gr_b_0_73 hI659)
    have f674 := (gr_b_0_69 hI659)
    have f675 := (gr_b_0_6 hI659)
    have f676 := (gr_b_0_59 hI659)
    have f677 := (gr_b_0_118 hI659)
    have f678 := (gr_b_0_119 hI659)
    have f679 := (gr_b_0_3 hI659)
    have KLN_I659 := gr_LN_fr KLN_I66 (fun k => g658 19 k rfl) (by exact gz_m 382 (by omega)) (by exact gz_m 383 (by omega))
    have KGR_I659 := gr_GR_fr KGR_I66 (fun k => g658 19 k rfl) (fun k => g658 18 k rfl) (fun k => g658 36 k rfl) (fun k => g658 41 k rfl) (fun k => g658 42 k rfl) (fun k => g658 43 k rfl) (fun k => g658 45 k rfl) (fun k => g658 46 k rfl) (fun k => g658 47 k rfl) (fun k => g658 6 k rfl) (fun k => g658 7 k rfl) (fun k => g658 8 k rfl) (g658 0 3 rfl)
    have KST_I659 := gr_ST_fr KST_I66 (fun k => g658 6 k rfl) (fun k => g658 19 k rfl) (fun k => g658 18 k rfl) (fun k => g658 41 k rfl) (fun k => g658 36 k rfl) (g658 0 3 rfl)
    have KLK_I659 := gr_LKs_fr KLK_I66 (fun k => g658 51 k rfl) (g658 0 59 rfl)
    have t680 := KLN_I659 (Int.toNat ((I 0 6))) (by exact gz_m 384 (by omega))
    have A681 := gr_ATp_F e5_68 g658 k658 rfl
    have t682 := gr_ATp_l A681
    refine gv_callV hD rfl (As := [.inl 1]) (st := []) rfl (by decide) rfl rfl (gr_lV hws rfl) (Nat.le_of_ble_eq_true rfl) (gz_Ev_mono (d := 2) (by decide) E658) ?_
    show gv_X _ _ (197, [(0, .inr (.inr (some 0))), (1, .inl (I 0 6)), (2, .inl v2_12), (3, .inl v3_12)], [.inl z658], gr_sh ++ ext, gr_h I659 J660)
    have b683 : (I659 0 69 = I 0 69) ∧ (I 0 73 ≤ I659 0 73) ∧ (I 0 72 ≤ I659 0 72) ∧ (I659 0 59 - I659 0 72 ≤ I 0 59 - I 0 72) := by exact gz_m 385 (by omega)
    exact gv_zret hD rfl (by exact gz_m 386 (by omega)) ⟨I659, J660, rfl, hI659, FI659, FJ660, KLN_I659, KGR_I659, KST_I659, ⟨_, rfl, by exact gz_m 387 (by omega), by exact gz_m 388 (by omega), (gr_ATp_rr A681).1, (gr_ATp_rr A681).2.1, (gr_ATp_rr A681).2.2.1, (gr_ATp_rr A681).2.2.2.1, (gr_ATp_rr A681).2.2.2.2, b683.1, b683.2.1, b683.2.2.1, b683.2.2.2, KLK_I659, (Or.inr ⟨by exact gz_m 389 (by omega), by first | (exfalso; exact gz_m 390 (by omega)) | (rw [e6_68]; unfold gs_ln4; (repeat first | rw [if_pos (by exact gz_m 391 (by omega))] | rw [if_neg (by exact gz_m 392 (by omega))]); exact ⟨by exact gz_m 393 (by omega), by exact gz_m 394 (by omega), (fun j => ⟨((g658 19 j rfl).trans (e8_68.1 j)), ((g658 41 j rfl).trans (e8_68.2 j))⟩)⟩)⟩)⟩⟩
set_option maxHeartbeats 32000000 in
set_option maxRecDepth 100000 in
theorem r_lin_p_L125 {ws0 : List Cond} {tb : String → gz_T} (hws : ∀ w ∈ gr_ws, w ∈ ws0) (htb : tb RX13 = gr_T) (ext : gz_Sh) (B : Int) (hB : B ≤ 1500) (I9 : gr_I) (β : Int → Int) (N9 : Int) (p9 : Int) (I : gr_I) (J : gr_J) (hI : gr_Inv I) (x1 : I 0 72 ≤ I 0 69) (x4 : I 0 72 ≤ I 0 73) (x5 : 0 ≤ I 0 6) (x6 : I 0 59 + I 0 69 - I 0 72 ≤ 1900) (x7 : gr_ATp β N9 p9 I J) (x8 : 0 ≤ p9) (x9 : gr_KW J) (KLN_I : gr_LN B I) (KGR_I : gr_GR I) (KST_I : gr_ST I9 I) (v2_12 : Int) (v3_12 : Int) : ∀ (n : Nat) (I38 : gr_I) (J39 : gr_J) (p_40 : Int), (1001 - I38 0 72).toNat < n → gr_Inv I38 → gr_fr [59, 71, 72, 73, 74, 75, 76, 77, 101, 106, 118, 119, 120] [19, 41, 42, 43, 44, 45, 46, 47, 48, 49, 50, 51, 68, 69, 70, 71, 72, 73, 74] I I38 → gr_fj [59, 71, 72, 73, 74, 75, 76, 77, 101, 106, 118, 119, 120] [19, 41, 42, 43, 44, 45, 46, 47, 48, 49, 50, 51, 68, 69, 70, 71, 72, 73, 74] J J39 → gr_LN B I38 → gr_GR I38 → gr_ST I9 I38 → gr_LKs I I38 → ((0 ≤ (I 0 6) ∧ (I 0 6) ≤ 7) ∧ (0 ≤ v2_12 ∧ v2_12 ≤ 1000) ∧ (0 ≤ v3_12 ∧ v3_12 ≤ 95) ∧ ((I 0 72 + 3 ≤ I38 0 72) ∨ (I 0 72 + 2 ≤ I38 0 72 ∧ (I38 0 71 = 3 ∨ I38 0 71 = 2))) ∧ (I38 19 (Int.toNat (I 0 6)) = I 19 (Int.toNat (I 0 6))) ∧ (v3_12 < I38 0 3) ∧ (0 ≤ p_40) ∧ (I38 0 72 ≤ I38 0 69) ∧ (I38 0 72 ≤ I38 0 73) ∧ (I38 0 69 = I 0 69) ∧ (I 0 73 ≤ I38 0 73) ∧ (I 0 72 ≤ I38 0 72) ∧ (I38 0 6 = I 0 6) ∧ (I38 0 59 - I38 0 72 ≤ I 0 59 - I 0 72)) → (gr_R1 v3_12 I38) → (gr_ATp β N9 p_40 I38 J39) → (∃ m : Nat, 1001 - gs_A β N9 p_40 < (m : Int) ∧ (gs_lin β N9 I J (I 0 78) p9) = gs_ln2 β N9 I J (I 0 78) v3_12 v2_12 (gs_li β N9 I J (I 6 (Int.toNat v3_12)) m (I38 0 118) (gs_i0 I38) (gs_a4 (I38 74)) p_40)) → (v3_12 = gs_lk I J 3 3 (gs_rn β N9 p9)) → (I38 0 119 = 0) → ((∀ k, I38 19 k = I 19 k) ∧ (∀ k, I38 41 k = I 41 k)) → gv_X (gr_E ws0 tb 12 (yX13_lin, cX13_lin, 7, (some .boolean)) kX13_lin) (gv_Q cX13_lin (some .boolean) (gr_sh ++ ext) (fun r hₚ => (∃ (Iₚ : gr_I) (Jₚ : gr_J), hₚ = gr_h Iₚ Jₚ ∧ gr_Inv Iₚ ∧ gr_fr [59, 71, 72, 73, 74, 75, 76, 77, 101, 106, 118, 119, 120] [19, 41, 42, 43, 44, 45, 46, 47, 48, 49, 50, 51, 68, 69, 70, 71, 72, 73, 74] I Iₚ ∧ gr_fj [59, 71, 72, 73, 74, 75, 76, 77, 101, 106, 118, 119, 120] [19, 41, 42, 43, 44, 45, 46, 47, 48, 49, 50, 51, 68, 69, 70, 71, 72, 73, 74] J Jₚ ∧ gr_LN B Iₚ ∧ gr_GR Iₚ ∧ gr_ST I9 Iₚ ∧ (∃ z : Int, r = some (.inl z) ∧ 0 ≤ z ∧ z ≤ 1 ∧ (Iₚ 0 71 = 5 ∨ Iₚ 0 73 ≤ Iₚ 0 69) ∧ (Iₚ 0 72 ≤ Iₚ 0 69) ∧ (Iₚ 0 71 = 0 ∨ (Iₚ 0 72 < Iₚ 0 73 ∧ Iₚ 0 72 < Iₚ 0 69)) ∧ (Iₚ 0 71 = 3 → 2 ≤ Iₚ 0 73 - Iₚ 0 72 ∧ Iₚ 0 73 - Iₚ 0 72 ≤ 14) ∧ (Iₚ 0 72 ≤ Iₚ 0 73) ∧ (Iₚ 0 69 = I 0 69) ∧ (I 0 73 ≤ Iₚ 0 73) ∧ (I 0 72 ≤ Iₚ 0 72) ∧ (Iₚ 0 59 - Iₚ 0 72 ≤ I 0 59 - I 0 72) ∧ (gr_LKs I Iₚ) ∧ (gs_Or z (0 ≤ (gs_lin β N9 I J (I 0 78) p9) ∧ gr_ATp β N9 (gs_lin β N9 I J (I 0 78) p9) Iₚ Jₚ ∧ gs_Uln (gs_lk I J 3 3 (gs_rn β N9 p9)) I Iₚ) ((gs_lin β N9 I J (I 0 78) p9) < 0 ∧ Iₚ 0 77 = -1 - (gs_lin β N9 I J (I 0 78) p9) ∧ gs_Sln I Iₚ)))))) (125, [(0, .inr (.inr (some 0))), (1, .inl (I 0 6)), (2, .inl v2_12), (3, .inl v3_12)], [], gr_sh ++ ext, gr_h I38 J39) := by
  have FI : gr_fr [59, 71, 72, 73, 74, 75, 76, 77, 101, 106, 118, 119, 120] [19, 41, 42, 43, 44, 45, 46, 47, 48, 49, 50, 51, 68, 69, 70, 71, 72, 73, 74] I I := fun _ _ _ => rfl
  have FJ : gr_fj [59, 71, 72, 73, 74, 75, 76, 77, 101, 106, 118, 119, 120] [19, 41, 42, 43, 44, 45, 46, 47, 48, 49, 50, 51, 68, 69, 70, 71, 72, 73, 74] J J := fun _ _ _ => rfl
  have hD : gv_D (gr_E ws0 tb 12 (yX13_lin, cX13_lin, 7, (some .boolean)) kX13_lin) := gq_of oX13_lin
  have tAT := gr_ATp_l x7
  skip
  have KW := x9
  have f1 := (gr_b_0_71 hI)
  have f2 := (gr_b_0_72 hI)
  have f3 := (gr_b_0_73 hI)
  have f4 := (gr_b_0_69 hI)
  have f5 := (gr_b_0_6 hI)
  have f6 := (gr_b_0_59 hI)
  have f7 := (gr_b_0_118 hI)
  have f8 := (gr_b_0_119 hI)
  have f9 := (gr_b_0_3 hI)
  have KLK_I : gr_LKs I I := gr_LKs_rf
  intro n
  induction n with
  | zero => intro I38 J39 p_40 hn; exact gz_m 3 (by omega)
  | succ n ih125 =>
    intro I38 J39 p_40 hn hI38 FI38 FJ39 KLN_I38 KGR_I38 KST_I38 KLK_I38 m_40 e3_40 e5_40 e6_40 e7_40 e8_40 e9_40
    obtain ⟨h_I_0_6__40, hv2_12_40, hv3_12_40, e0_40, e1_40, e2_40, e4_40, e10_40, e11_40, e12_40, e13_40, e14_40, e15_40, e16_40⟩ := m_40
    have f41 := (gr_b_0_71 hI38)
    have f42 := (gr_b_0_72 hI38)
    have f43 := (gr_b_0_73 hI38)
    have f44 := (gr_b_0_69 hI38)
    have f45 := (gr_b_0_6 hI38)
    have f46 := (gr_b_0_59 hI38)
    have f47 := (gr_b_0_118 hI38)
    have f48 := (gr_b_0_119 hI38)
    have f49 := (gr_b_0_3 hI38)
    have t50 := KLN_I (Int.toNat (I 0 6)) (by exact gz_m 4 (by omega))
    have t51 := gr_ATp_l e5_40
    have L151 : ∀ (n : Nat) (I52 : gr_I) (J53 : gr_J) (p_54 : Int), (1001 - I52 0 72).toNat < n → gr_Inv I52 → gr_fr [59, 71, 72, 73, 74, 75, 76, 77, 101, 106, 118, 119, 120] [19, 41, 42, 43, 44, 45, 46, 47, 48, 49, 50, 51, 68, 69, 70, 71, 72, 73, 74] I I52 → gr_fj [59, 71, 72, 73, 74, 75, 76, 77, 101, 106, 118, 119, 120] [19, 41, 42, 43, 44, 45, 46, 47, 48, 49, 50, 51, 68, 69, 70, 71, 72, 73, 74] J J53 → gr_LN B I52 → gr_GR I52 → gr_ST I9 I52 → gr_LKs I I52 → ((0 ≤ (I 0 6) ∧ (I 0 6) ≤ 7) ∧ (0 ≤ v2_12 ∧ v2_12 ≤ 1000) ∧ (0 ≤ v3_12 ∧ v3_12 ≤ 95) ∧ (I 0 72 + 3 ≤ I52 0 72) ∧ (I52 19 (Int.toNat (I 0 6)) = I 19 (Int.toNat (I 0 6))) ∧ (v3_12 < I52 0 3) ∧ (0 ≤ p_54) ∧ (I52 0 72 ≤ I52 0 69) ∧ (I52 0 72 ≤ I52 0 73) ∧ (I52 0 69 = I 0 69) ∧ (I 0 73 ≤ I52 0 73) ∧ (I 0 72 ≤ I52 0 72) ∧ (I52 0 6 = I 0 6) ∧ (I52 0 59 - I52 0 72 ≤ I 0 59 - I 0 72)) → (gr_R1 v3_12 I52) → (gr_ATp β N9 p_54 I52 J53) → (∃ m : Nat, 1001 - gs_A β N9 p_54 < (m : Int) ∧ (gs_lin β N9 I J (I 0 78) p9) = gs_ln3 β N9 I (I 0 78) v3_12 v2_12 (I52 0 118) (gs_i0 I52) (gs_a4 (I52 74)) (gs_ls β N9 I J (I 6 (Int.toNat v3_12)) (gs_a4 (I52 74)) m (I52 0 119) p_54)) → (v3_12 = gs_lk I J 3 3 (gs_rn β N9 p9)) → ((∀ k, I52 19 k = I 19 k) ∧ (∀ k, I52 41 k = I 41 k)) → gv_X (gr_E ws0 tb 12 (yX13_lin, cX13_lin, 7, (some .boolean)) kX13_lin) (gv_Q cX13_lin (some .boolean) (gr_sh ++ ext) (fun r hₚ => (∃ (Iₚ : gr_I) (Jₚ : gr_J), hₚ = gr_h Iₚ Jₚ ∧ gr_Inv Iₚ ∧ gr_fr [59, 71, 72, 73, 74, 75, 76, 77, 101, 106, 118, 119, 120] [19, 41, 42, 43, 44, 45, 46, 47, 48, 49, 50, 51, 68, 69, 70, 71, 72, 73, 74] I Iₚ ∧ gr_fj [59, 71, 72, 73, 74, 75, 76, 77, 101, 106, 118, 119, 120] [19, 41, 42, 43, 44, 45, 46, 47, 48, 49, 50, 51, 68, 69, 70, 71, 72, 73, 74] J Jₚ ∧ gr_LN B Iₚ ∧ gr_GR Iₚ ∧ gr_ST I9 Iₚ ∧ (∃ z : Int, r = some (.inl z) ∧ 0 ≤ z ∧ z ≤ 1 ∧ (Iₚ 0 71 = 5 ∨ Iₚ 0 73 ≤ Iₚ 0 69) ∧ (Iₚ 0 72 ≤ Iₚ 0 69) ∧ (Iₚ 0 71 = 0 ∨ (Iₚ 0 72 < Iₚ 0 73 ∧ Iₚ 0 72 < Iₚ 0 69)) ∧ (Iₚ 0 71 = 3 → 2 ≤ Iₚ 0 73 - Iₚ 0 72 ∧ Iₚ 0 73 - Iₚ 0 72 ≤ 14) ∧ (Iₚ 0 72 ≤ Iₚ 0 73) ∧ (Iₚ 0 69 = I 0 69) ∧ (I 0 73 ≤ Iₚ 0 73) ∧ (I 0 72 ≤ Iₚ 0 72) ∧ (Iₚ 0 59 - Iₚ 0 72 ≤ I 0 59 - I 0 72) ∧ (gr_LKs I Iₚ) ∧ (gs_Or z (0 ≤ (gs_lin β N9 I J (I 0 78) p9) ∧ gr_ATp β N9 (gs_lin β N9 I J (I 0 78) p9) Iₚ Jₚ ∧ gs_Uln (gs_lk I J 3 3 (gs_rn β N9 p9)) I Iₚ) ((gs_lin β N9 I J (I 0 78) p9) < 0 ∧ Iₚ 0 77 = -1 - (gs_lin β N9 I J (I 0 78) p9) ∧ gs_Sln I Iₚ)))))) (151, [(0, .inr (.inr (some 0))), (1, .inl (I 0 6)), (2, .inl v2_12), (3, .inl v3_12)], [], gr_sh ++ ext, gr_h I52 J53) := by
      intro n
      induction n with
      | zero => intro I52 J53 p_54 hn; exact gz_m 5 (by omega)
      | succ n ih151 =>
        intro I52 J53 p_54 hn hI52 FI52 FJ53 KLN_I52 KGR_I52 KST_I52 KLK_I52 m_54 e3_54 e5_54 e6_54 e7_54 e8_54
        clear h_I_0_6__40 hv2_12_40 hv3_12_40 e0_40 e1_40 e2_40 e4_40 e10_40 e11_40 e12_40 e13_40 e14_40 e15_40 e16_40 f41 f42 f43 f44 f45 f46 f47 f48 f49 t50 t51
        obtain ⟨h_I_0_6__54, hv2_12_54, hv3_12_54, e0_54, e1_54, e2_54, e4_54, e9_54, e10_54, e11_54, e12_54, e13_54, e14_54, e15_54⟩ := m_54
        have f55 := (gr_b_0_71 hI52)
        have f56 := (gr_b_0_72 hI52)
        have f57 := (gr_b_0_73 hI52)
        have f58 := (gr_b_0_69 hI52)
        have f59 := (gr_b_0_6 hI52)
        have f60 := (gr_b_0_59 hI52)
        have f61 := (gr_b_0_118 hI52)
        have f62 := (gr_b_0_119 hI52)
        have f63 := (gr_b_0_3 hI52)
        have t64 := KLN_I (Int.toNat (I 0 6)) (by exact gz_m 6 (by omega))
        have t65 := gr_ATp_l e5_54
        have L183 : ∀ (I66 : gr_I) (J67 : gr_J) (p_68 : Int), gr_Inv I66 → gr_fr [59, 71, 72, 73, 74, 75, 76, 77, 101, 106, 118, 119, 120] [19, 41, 42, 43, 44, 45, 46, 47, 48, 49, 50, 51, 68, 69, 70, 71, 72, 73, 74] I I66 → gr_fj [59, 71, 72, 73, 74, 75, 76, 77, 101, 106, 118, 119, 120] [19, 41, 42, 43, 44, 45, 46, 47, 48, 49, 50, 51, 68, 69, 70, 71, 72, 73, 74] J J67 → gr_LN B I66 → gr_GR I66 → gr_ST I9 I66 → gr_LKs I I66 → ((0 ≤ (I 0 6) ∧ (I 0 6) ≤ 7) ∧ (0 ≤ v2_12 ∧ v2_12 ≤ 1000) ∧ (0 ≤ v3_12 ∧ v3_12 ≤ 95) ∧ (I 0 72 + 3 ≤ I66 0 72) ∧ (I66 19 (Int.toNat (I 0 6)) = I 19 (Int.toNat (I 0 6))) ∧ (v3_12 < I66 0 3) ∧ (0 ≤ p_68) ∧ (I66 0 72 ≤ I66 0 69) ∧ (I66 0 72 ≤ I66 0 73) ∧ (I66 0 69 = I 0 69) ∧ (I 0 73 ≤ I66 0 73) ∧ (I 0 72 ≤ I66 0 72) ∧ (I66 0 6 = I 0 6) ∧ (I66 0 59 - I66 0 72 ≤ I 0 59 - I 0 72)) → (gr_R1 v3_12 I66) → (gr_ATp β N9 p_68 I66 J67) → ((gs_lin β N9 I J (I 0 78) p9) = gs_ln4 β N9 I (I 0 78) v3_12 v2_12 (I66 0 118) (gs_i0 I66) (gs_a4 (I66 74)) p_68) → (v3_12 = gs_lk I J 3 3 (gs_rn β N9 p9)) → ((∀ k, I66 19 k = I 19 k) ∧ (∀ k, I66 41 k = I 41 k)) → gv_X (gr_E ws0 tb 12 (yX13_lin, cX13_lin, 7, (some .boolean)) kX13_lin) (gv_Q cX13_lin (some .boolean) (gr_sh ++ ext) (fun r hₚ => (∃ (Iₚ : gr_I) (Jₚ : gr_J), hₚ = gr_h Iₚ Jₚ ∧ gr_Inv Iₚ ∧ gr_fr [59, 71, 72, 73, 74, 75, 76, 77, 101, 106, 118, 119, 120] [19, 41, 42, 43, 44, 45, 46, 47, 48, 49, 50, 51, 68, 69, 70, 71, 72, 73, 74] I Iₚ ∧ gr_fj [59, 71, 72, 73, 74, 75, 76, 77, 101, 106, 118, 119, 120] [19, 41, 42, 43, 44, 45, 46, 47, 48, 49, 50, 51, 68, 69, 70, 71, 72, 73, 74] J Jₚ ∧ gr_LN B Iₚ ∧ gr_GR Iₚ ∧ gr_ST I9 Iₚ ∧ (∃ z : Int, r = some (.inl z) ∧ 0 ≤ z ∧ z ≤ 1 ∧ (Iₚ 0 71 = 5 ∨ Iₚ 0 73 ≤ Iₚ 0 69) ∧ (Iₚ 0 72 ≤ Iₚ 0 69) ∧ (Iₚ 0 71 = 0 ∨ (Iₚ 0 72 < Iₚ 0 73 ∧ Iₚ 0 72 < Iₚ 0 69)) ∧ (Iₚ 0 71 = 3 → 2 ≤ Iₚ 0 73 - Iₚ 0 72 ∧ Iₚ 0 73 - Iₚ 0 72 ≤ 14) ∧ (Iₚ 0 72 ≤ Iₚ 0 73) ∧ (Iₚ 0 69 = I 0 69) ∧ (I 0 73 ≤ Iₚ 0 73) ∧ (I 0 72 ≤ Iₚ 0 72) ∧ (Iₚ 0 59 - Iₚ 0 72 ≤ I 0 59 - I 0 72) ∧ (gr_LKs I Iₚ) ∧ (gs_Or z (0 ≤ (gs_lin β N9 I J (I 0 78) p9) ∧ gr_ATp β N9 (gs_lin β N9 I J (I 0 78) p9) Iₚ Jₚ ∧ gs_Uln (gs_lk I J 3 3 (gs_rn β N9 p9)) I Iₚ) ((gs_lin β N9 I J (I 0 78) p9) < 0 ∧ Iₚ 0 77 = -1 - (gs_lin β N9 I J (I 0 78) p9) ∧ gs_Sln I Iₚ)))))) (183, [(0, .inr (.inr (some 0))), (1, .inl (I 0 6)), (2, .inl v2_12), (3, .inl v3_12)], [], gr_sh ++ ext, gr_h I66 J67) := r_lin_p_L183 (ws0 := ws0) (tb := tb) hws htb ext B hB I9 β N9 p9 I J hI x1 x4 x5 x6 x7 x8 x9 KLN_I KGR_I KST_I v2_12 v3_12
        refine gv_run 2 true hD (pcₚ := 154) (lvₚ := [(0, .inr (.inr (some 0))), (1, .inl (I 0 6)), (2, .inl v2_12), (3, .inl v3_12)]) (stₚ := [.inl 44, .inr (.inr (some 0))]) (hₚ := gr_h I52 J53) (C := ((True ∧ True) ∧ True)) rfl ⟨⟨trivial, trivial⟩, trivial⟩ ?_
        obtain ⟨r684, h684, E684, P684⟩ := r_sign_p (ws0 := ws0) (tb := tb) hws htb ext β N9 p_54 I52 J53 hI52 44 ⟨by exact gz_m 395 (by omega), by exact gz_m 396 (by omega)⟩ (fun h9 => by have g9 := (gr_ATp_rr e5_54).2.2.1; exact gz_m 397 (by omega)) e5_54 (by exact gz_m 398 (by omega))
        obtain ⟨rfl, ⟨z684, rfl, q684⟩⟩ := P684
        have V684 := gs_or_mk q684.2.2.2
        obtain ⟨_, _, o684, -⟩ := q684
        refine gv_callV hD rfl (As := [.inl 44]) (st := []) rfl (by decide) rfl rfl (gr_lV hws rfl) (Nat.le_of_ble_eq_true rfl) (gz_Ev_mono (d := 1) (by decide) E684) ?_
        show gv_X _ _ (157, [(0, .inr (.inr (some 0))), (1, .inl (I 0 6)), (2, .inl v2_12), (3, .inl v3_12)], [.inl z684], gr_sh ++ ext, gr_h I52 J53)
        refine gv_if_eq (t := 174) hD rfl rfl ⟨by exact gz_m 399 (by omega), by exact gz_m 400 (by omega)⟩ (fun c685 => ?_) (fun c685 => ?_)
        · have u686 := gs_or0 V684 (by exact gz_m 401 (by omega))
          clear o684 V684
          refine gv_run 1 true hD (pcₚ := 175) (lvₚ := [(0, .inr (.inr (some 0))), (1, .inl (I 0 6)), (2, .inl v2_12), (3, .inl v3_12)]) (stₚ := [.inr (.inr (some 0))]) (hₚ := gr_h I52 J53) (C := (True ∧ True)) rfl ⟨trivial, trivial⟩ ?_
          obtain ⟨r687, h687, E687, P687⟩ := r_cost_p (ws0 := ws0) (tb := tb) hws htb ext β N9 p_54 I52 J53 hI52   (gr_ATp_rr e5_54).1 (gr_ATp_rr e5_54).2.1 (gr_ATp_rr e5_54).2.2.1 (gr_ATp_rr e5_54).2.2.2.1 (gr_ATp_rr e5_54).2.2.2.2 e5_54 (by exact gz_m 402 (by omega)) (fun k h1 h2 => (FJ53 0 k (gs_kwF h1 h2 rfl)).trans (KW k h1 h2))
          obtain ⟨I688, J689, rfl, hI688, g687, k687, ⟨z687, rfl, q687⟩⟩ := P687
          have FI688 := gr_frt FI52 g687 rfl rfl
          have FJ689 := gr_fjt FJ53 k687 rfl rfl
          have t690 := g687 0 69 rfl
          have t691 := g687 0 6 rfl
          have t692 := g687 0 59 rfl
          have t693 := g687 0 118 rfl
          have t694 := g687 0 119 rfl
          have t695 := g687 0 3 rfl
          have t696 := g687 19 (Int.toNat ((I 0 6))) rfl
          have f697 := (gr_b_0_71 hI688)
          have f698 := (gr_b_0_72 hI688)
          have f699 := (gr_b_0_73 hI688)
          have f700 := (gr_b_0_69 hI688)
          have f701 := (gr_b_0_6 hI688)
          have f702 := (gr_b_0_59 hI688)
          have f703 := (gr_b_0_118 hI688)
          have f704 := (gr_b_0_119 hI688)
          have f705 := (gr_b_0_3 hI688)
          have KLN_I688 := gr_LN_fr KLN_I52 (fun k => g687 19 k rfl) (by exact gz_m 403 (by omega)) (by exact gz_m 404 (by omega))
          have KGR_I688 := gr_GR_fr KGR_I52 (fun k => g687 19 k rfl) (fun k => g687 18 k rfl) (fun k => g687 36 k rfl) (fun k => g687 41 k rfl) (fun k => g687 42 k rfl) (fun k => g687 43 k rfl) (fun k => g687 45 k rfl) (fun k => g687 46 k rfl) (fun k => g687 47 k rfl) (fun k => g687 6 k rfl) (fun k => g687 7 k rfl) (fun k => g687 8 k rfl) (g687 0 3 rfl)
          have KST_I688 := gr_ST_fr KST_I52 (fun k => g687 6 k rfl) (fun k => g687 19 k rfl) (fun k => g687 18 k rfl) (fun k => g687 41 k rfl) (fun k => g687 36 k rfl) (g687 0 3 rfl)
          have KLK_I688 := gr_LKs_fr KLK_I52 (fun k => g687 51 k rfl) (g687 0 59 rfl)
          have t706 := KLN_I688 (Int.toNat ((I 0 6))) (by exact gz_m 405 (by omega))
          refine gv_callV hD rfl (As := []) (st := []) rfl (by decide) rfl rfl (gr_lV hws rfl) (Nat.le_of_ble_eq_true rfl) (gz_Ev_mono (d := 11) (by decide) E687) ?_
          show gv_X _ _ (178, [(0, .inr (.inr (some 0))), (1, .inl (I 0 6)), (2, .inl v2_12), (3, .inl v3_12)], [.inl z687], gr_sh ++ ext, gr_h I688 J689)
          refine gv_if_ne (t := 183) hD rfl rfl ⟨by exact gz_m 406 (by omega), by exact gz_m 407 (by omega)⟩ (fun c707 => ?_) (fun c707 => ?_)
          · obtain ⟨u708, A708, R708⟩ := gs_or1 q687.2.2.2.2.2.2.2.2.2.2 (by exact gz_m 408 (by omega))
            have t709 := gr_ATp_l A708
            obtain ⟨_, _, -, _, -, -, _, _, _, _, -⟩ := q687
            exact L183 I688 J689 (gs_cost β N9 p_54) hI688 FI688 FJ689 KLN_I688 KGR_I688 KST_I688 KLK_I688 (by exact gz_m 409 (by omega)) (gr_R1_fr e3_54 (fun k => g687 68 k rfl) (fun k => g687 74 k rfl) (fun k => g687 6 k rfl) (fun k => g687 70 k rfl) (fun k => g687 71 k rfl) (g687 0 118 rfl) (g687 0 119 rfl)) A708 (by obtain ⟨m, hm, em⟩ := e6_54; rw [em, gs_ls_e (by exact gz_m 410 (by omega))]; unfold gs_ln3; (repeat first | rw [if_pos (by exact gz_m 411 (by omega))] | rw [if_neg (by exact gz_m 412 (by omega))]); rw [show I688 0 118 = I52 0 118 from (g687 0 118 rfl), show gs_i0 I688 = gs_i0 I52 from gs_i0_fr (g687 0 118 rfl) (g687 68 0 rfl), show gs_a4 (I688 74) = gs_a4 (I52 74) from gs_a4_eq (fun j => (g687 74 j rfl))]) e7_54 ⟨(fun k => ((g687 19 k rfl).trans (e8_54.1 k))), (fun k => ((g687 41 k rfl).trans (e8_54.2 k)))⟩
          · obtain ⟨u710, u710_⟩ := gs_or0 q687.2.2.2.2.2.2.2.2.2.2 (by exact gz_m 413 (by omega))
            refine gv_run 1 true hD (pcₚ := 182) (lvₚ := [(0, .inr (.inr (some 0))), (1, .inl (I 0 6)), (2, .inl v2_12), (3, .inl v3_12)]) (stₚ := [.inl 0]) (hₚ := gr_h I688 J689) (C := (True ∧ True)) rfl ⟨trivial, trivial⟩ ?_
            have b711 : (I688 0 71 = 5 ∨ I688 0 73 ≤ I688 0 69) ∧ (I688 0 72 ≤ I688 0 69) ∧ (I688 0 71 = 0 ∨ (I688 0 72 < I688 0 73 ∧ I688 0 72 < I688 0 69)) ∧ (I688 0 71 = 3 → 2 ≤ I688 0 73 - I688 0 72 ∧ I688 0 73 - I688 0 72 ≤ 14) ∧ (I688 0 72 ≤ I688 0 73) ∧ (I688 0 69 = I 0 69) ∧ (I 0 73 ≤ I688 0 73) ∧ (I 0 72 ≤ I688 0 72) ∧ (I688 0 59 - I688 0 72 ≤ I 0 59 - I 0 72) := by exact gz_m 414 (by omega)
            exact gv_zret hD rfl (by exact gz_m 415 (by omega)) ⟨I688, J689, rfl, hI688, FI688, FJ689, KLN_I688, KGR_I688, KST_I688, ⟨_, rfl, by exact gz_m 416 (by omega), by exact gz_m 417 (by omega), b711.1, b711.2.1, b711.2.2.1, b711.2.2.2.1, b711.2.2.2.2.1, b711.2.2.2.2.2.1, b711.2.2.2.2.2.2.1, b711.2.2.2.2.2.2.2.1, b711.2.2.2.2.2.2.2.2, KLK_I688, (Or.inr ⟨by exact gz_m 418 (by omega), by first | (exfalso; exact gz_m 419 (by omega)) | (obtain ⟨m, hm, em⟩ := e6_54; obtain ⟨m, rfl⟩ : ∃ n, m = n + 1 := ⟨m - 1, by exact gz_m 420 (by omega)⟩; rw [em, gs_ls_e (by exact gz_m 421 (by omega))]; unfold gs_ln3; (repeat first | rw [if_pos (by exact gz_m 422 (by omega))] | rw [if_neg (by exact gz_m 423 (by omega))]); exact ⟨by exact gz_m 424 (by omega), by exact gz_m 425 (by omega), (fun j => ⟨((g687 19 j rfl).trans (e8_54.1 j)), ((g687 41 j rfl).trans (e8_54.2 j))⟩)⟩)⟩)⟩⟩
        · have u712 := gs_or1 V684 (by exact gz_m 426 (by omega))
          have t713 := o684.resolve_left (by exact gz_m 427 (by omega))
          have t714 := (gr_ATp_rr e5_54).2.2.1.resolve_left (by exact gz_m 428 (by omega))
          clear o684 V684
          refine gv_run 1 true hD (pcₚ := 161) (lvₚ := [(0, .inr (.inr (some 0))), (1, .inl (I 0 6)), (2, .inl v2_12), (3, .inl v3_12)]) (stₚ := [.inr (.inr (some 0))]) (hₚ := gr_h I52 J53) (C := (True ∧ True)) rfl ⟨trivial, trivial⟩ ?_
          obtain ⟨r715, h715, E715, P715⟩ := r_next_p (ws0 := ws0) (tb := tb) hws htb ext β N9 I52 J53 hI52   ((gr_ATp_rr e5_54).1.resolve_left (by exact gz_m 429 (by omega))) e5_54.1.1 e5_54.1.2
          obtain ⟨I716, J717, rfl, hI716, g715, k715, ⟨rfl, q715⟩⟩ := P715
          have FI716 := gr_frt FI52 g715 rfl rfl
          have FJ717 := gr_fjt FJ53 k715 rfl rfl
          have t718 := g715 0 69 rfl
          have t719 := g715 0 6 rfl
          have t720 := g715 0 59 rfl
          have t721 := g715 0 118 rfl
          have t722 := g715 0 119 rfl
          have t723 := g715 0 3 rfl
          have t724 := g715 19 (Int.toNat ((I 0 6))) rfl
          have f725 := (gr_b_0_71 hI716)
          have f726 := (gr_b_0_72 hI716)
          have f727 := (gr_b_0_73 hI716)
          have f728 := (gr_b_0_69 hI716)
          have f729 := (gr_b_0_6 hI716)
          have f730 := (gr_b_0_59 hI716)
          have f731 := (gr_b_0_118 hI716)
          have f732 := (gr_b_0_119 hI716)
          have f733 := (gr_b_0_3 hI716)
          have KLN_I716 := gr_LN_fr KLN_I52 (fun k => g715 19 k rfl) (by exact gz_m 430 (by omega)) (by exact gz_m 431 (by omega))
          have KGR_I716 := gr_GR_fr KGR_I52 (fun k => g715 19 k rfl) (fun k => g715 18 k rfl) (fun k => g715 36 k rfl) (fun k => g715 41 k rfl) (fun k => g715 42 k rfl) (fun k => g715 43 k rfl) (fun k => g715 45 k rfl) (fun k => g715 46 k rfl) (fun k => g715 47 k rfl) (fun k => g715 6 k rfl) (fun k => g715 7 k rfl) (fun k => g715 8 k rfl) (g715 0 3 rfl)
          have KST_I716 := gr_ST_fr KST_I52 (fun k => g715 6 k rfl) (fun k => g715 19 k rfl) (fun k => g715 18 k rfl) (fun k => g715 41 k rfl) (fun k => g715 36 k rfl) (g715 0 3 rfl)
          have KLK_I716 := gr_LKs_fr KLK_I52 (fun k => g715 51 k rfl) (g715 0 59 rfl)
          have t734 := KLN_I716 (Int.toNat ((I 0 6))) (by exact gz_m 432 (by omega))
          have t735 := (gr_ATp_rr e5_54).2.2.1.resolve_left (by exact gz_m 433 (by omega))
          have A736 := gr_ATp_nx e5_54 q715.2.2.2.2.2
          have t737 := gr_ATp_l A736
          obtain ⟨_, _, -, -, -, -⟩ := q715
          refine gv_callV hD rfl (As := []) (st := []) rfl (by decide) rfl rfl (gr_lV hws rfl) (Nat.le_of_ble_eq_true rfl) (gz_Ev_mono (d := 10) (by decide) E715) ?_
          show gv_X _ _ (164, [(0, .inr (.inr (some 0))), (1, .inl (I 0 6)), (2, .inl v2_12), (3, .inl v3_12)], [], gr_sh ++ ext, gr_h I716 J717)
          refine gv_run 2 true hD (pcₚ := 166) (lvₚ := [(0, .inr (.inr (some 0))), (1, .inl (I 0 6)), (2, .inl v2_12), (3, .inl v3_12)]) (stₚ := [.inl v3_12, .inr (.inr (some 0))]) (hₚ := gr_h I716 J717) (C := ((True ∧ True) ∧ True)) rfl ⟨⟨trivial, trivial⟩, trivial⟩ ?_
          obtain ⟨r738, h738, E738, P738⟩ := r_said_p (ws0 := ws0) (tb := tb) hws htb ext β N9 (gs_X β N9 p_54) I716 J717 hI716 v3_12 ⟨by exact gz_m 434 (by omega), by exact gz_m 435 (by omega)⟩ (gr_ATp_rr A736).1 (gr_ATp_rr A736).2.1 (gr_ATp_rr A736).2.2.1 (gr_ATp_rr A736).2.2.2.1 (gr_ATp_rr A736).2.2.2.2 (by exact gz_m 436 (by omega)) (gr_R1_fr e3_54 (fun k => g715 68 k rfl) (fun k => g715 74 k rfl) (fun k => g715 6 k rfl) (fun k => g715 70 k rfl) (fun k => g715 71 k rfl) (g715 0 118 rfl) (g715 0 119 rfl)) A736 (by exact gz_m 437 (by omega)) (fun k h1 h2 => (FJ717 0 k (gs_kwF h1 h2 rfl)).trans (KW k h1 h2))
          obtain ⟨I739, J740, rfl, hI739, g738, k738, ⟨z738, rfl, q738⟩⟩ := P738
          have FI739 := gr_frt FI716 g738 rfl rfl
          have FJ740 := gr_fjt FJ717 k738 rfl rfl
          have t741 := g738 0 69 rfl
          have t742 := g738 0 6 rfl
          have t743 := g738 0 59 rfl
          have t744 := g738 0 118 rfl
          have t745 := g738 0 3 rfl
          have t746 := g738 19 (Int.toNat ((I 0 6))) rfl
          have f747 := (gr_b_0_71 hI739)
          have f748 := (gr_b_0_72 hI739)
          have f749 := (gr_b_0_73 hI739)
          have f750 := (gr_b_0_69 hI739)
          have f751 := (gr_b_0_6 hI739)
          have f752 := (gr_b_0_59 hI739)
          have f753 := (gr_b_0_118 hI739)
          have f754 := (gr_b_0_119 hI739)
          have f755 := (gr_b_0_3 hI739)
          have KLN_I739 := gr_LN_fr KLN_I716 (fun k => g738 19 k rfl) (by exact gz_m 438 (by omega)) (by exact gz_m 439 (by omega))
          have KGR_I739 := gr_GR_fr KGR_I716 (fun k => g738 19 k rfl) (fun k => g738 18 k rfl) (fun k => g738 36 k rfl) (fun k => g738 41 k rfl) (fun k => g738 42 k rfl) (fun k => g738 43 k rfl) (fun k => g738 45 k rfl) (fun k => g738 46 k rfl) (fun k => g738 47 k rfl) (fun k => g738 6 k rfl) (fun k => g738 7 k rfl) (fun k => g738 8 k rfl) (g738 0 3 rfl)
          have KST_I739 := gr_ST_fr KST_I716 (fun k => g738 6 k rfl) (fun k => g738 19 k rfl) (fun k => g738 18 k rfl) (fun k => g738 41 k rfl) (fun k => g738 36 k rfl) (g738 0 3 rfl)
          have KLK_I739 := gr_LKs_fr KLK_I716 (fun k => g738 51 k rfl) (g738 0 59 rfl)
          have t756 := KLN_I739 (Int.toNat ((I 0 6))) (by exact gz_m 440 (by omega))
          refine gv_callV hD rfl (As := [.inl v3_12]) (st := []) rfl (by decide) rfl rfl (gr_lV hws rfl) (Nat.le_of_ble_eq_true rfl) (gz_Ev_mono (d := 12) (by decide) E738) ?_
          show gv_X _ _ (169, [(0, .inr (.inr (some 0))), (1, .inl (I 0 6)), (2, .inl v2_12), (3, .inl v3_12)], [.inl z738], gr_sh ++ ext, gr_h I739 J740)
          refine gv_if_ne (t := 151) hD rfl rfl ⟨by exact gz_m 441 (by omega), by exact gz_m 442 (by omega)⟩ (fun c757 => ?_) (fun c757 => ?_)
          · have Q758 := q738.2.2.2.2.2.2.2.2.2.2.2
            rw [gs_said_eq (FI716 0 6 rfl) (fun k => (FI716 13 k rfl)) (fun k => (FI716 14 k rfl)) (fun k => (FJ717 20 k rfl)) (fun k => (FJ717 21 k rfl)), (FI716 6 (Int.toNat v3_12) rfl), show I716 0 119 = I52 0 119 from (g715 0 119 rfl), show gs_a4 (I716 74) = gs_a4 (I52 74) from gs_a4_eq (fun j => (g715 74 j rfl))] at Q758
            obtain ⟨u758, A758, U758⟩ := gs_or1 Q758 (by exact gz_m 443 (by omega))
            have t759 := gr_ATp_l A758
            obtain ⟨_, _, -, _, -, -, _, _, _, _, o738, -⟩ := q738
            have q738 := And.intro trivial (And.intro trivial (And.intro trivial (And.intro trivial (And.intro trivial (And.intro trivial (And.intro trivial (And.intro trivial (And.intro trivial (And.intro trivial (o738))))))))))
            exact ih151 I739 J740 ((gs_said β N9 I J (I 6 (Int.toNat v3_12)) (I52 0 119) (gs_a4 (I52 74)) (gs_X β N9 p_54))) (by exact gz_m 444 (by omega)) hI739 FI739 FJ740 KLN_I739 KGR_I739 KST_I739 KLK_I739 (by exact gz_m 445 (by omega)) (gr_o_x q738.2.2.2.2.2.2.2.2.2.2 (by exact gz_m 446 (by omega))) A758 (by obtain ⟨m, hm, em⟩ := e6_54; obtain ⟨m, rfl⟩ : ∃ n, m = n + 1 := ⟨m - 1, by exact gz_m 447 (by omega)⟩; exact ⟨m, by exact gz_m 448 (by omega), em.trans (by rw [gs_ls_s (by exact gz_m 449 (by omega)) (by exact gz_m 450 (by omega)), show I739 0 118 = I52 0 118 from ((g738 0 118 rfl).trans (g715 0 118 rfl)), show gs_i0 I739 = gs_i0 I52 from gs_i0_fr ((g738 0 118 rfl).trans (g715 0 118 rfl)) ((g738 68 0 rfl).trans (g715 68 0 rfl)), show gs_a4 (I739 74) = gs_a4 (I52 74) from gs_a4_eq (fun j => ((g738 74 j rfl).trans (g715 74 j rfl))), show I739 0 119 = I52 0 119 + 1 from by exact gz_m 451 (by omega)])⟩) e7_54 ⟨(fun k => (((g738 19 k rfl).trans (g715 19 k rfl)).trans (e8_54.1 k))), (fun k => (((g738 41 k rfl).trans (g715 41 k rfl)).trans (e8_54.2 k)))⟩
          · have Q760 := q738.2.2.2.2.2.2.2.2.2.2.2
            rw [gs_said_eq (FI716 0 6 rfl) (fun k => (FI716 13 k rfl)) (fun k => (FI716 14 k rfl)) (fun k => (FJ717 20 k rfl)) (fun k => (FJ717 21 k rfl)), (FI716 6 (Int.toNat v3_12) rfl), show I716 0 119 = I52 0 119 from (g715 0 119 rfl), show gs_a4 (I716 74) = gs_a4 (I52 74) from gs_a4_eq (fun j => (g715 74 j rfl))] at Q760
            obtain ⟨u760, u760_⟩ := gs_or0 Q760 (by exact gz_m 452 (by omega))
            refine gv_run 1 true hD (pcₚ := 173) (lvₚ := [(0, .inr (.inr (some 0))), (1, .inl (I 0 6)), (2, .inl v2_12), (3, .inl v3_12)]) (stₚ := [.inl 0]) (hₚ := gr_h I739 J740) (C := (True ∧ True)) rfl ⟨trivial, trivial⟩ ?_
            have b761 : (I739 0 71 = 5 ∨ I739 0 73 ≤ I739 0 69) ∧ (I739 0 72 ≤ I739 0 69) ∧ (I739 0 71 = 0 ∨ (I739 0 72 < I739 0 73 ∧ I739 0 72 < I739 0 69)) ∧ (I739 0 71 = 3 → 2 ≤ I739 0 73 - I739 0 72 ∧ I739 0 73 - I739 0 72 ≤ 14) ∧ (I739 0 72 ≤ I739 0 73) ∧ (I739 0 69 = I 0 69) ∧ (I 0 73 ≤ I739 0 73) ∧ (I 0 72 ≤ I739 0 72) ∧ (I739 0 59 - I739 0 72 ≤ I 0 59 - I 0 72) := by exact gz_m 453 (by omega)
            exact gv_zret hD rfl (by exact gz_m 454 (by omega)) ⟨I739, J740, rfl, hI739, FI739, FJ740, KLN_I739, KGR_I739, KST_I739, ⟨_, rfl, by exact gz_m 455 (by omega), by exact gz_m 456 (by omega), b761.1, b761.2.1, b761.2.2.1, b761.2.2.2.1, b761.2.2.2.2.1, b761.2.2.2.2.2.1, b761.2.2.2.2.2.2.1, b761.2.2.2.2.2.2.2.1, b761.2.2.2.2.2.2.2.2, KLK_I739, (Or.inr ⟨by exact gz_m 457 (by omega), by first | (exfalso; exact gz_m 458 (by omega)) | (obtain ⟨m, hm, em⟩ := e6_54; obtain ⟨m, rfl⟩ : ∃ n, m = n + 1 := ⟨m - 1, by exact gz_m 459 (by omega)⟩; rw [em, gs_ls_x (by exact gz_m 460 (by omega)) (by exact gz_m 461 (by omega))]; unfold gs_ln3; (repeat first | rw [if_pos (by exact gz_m 462 (by omega))] | rw [if_neg (by exact gz_m 463 (by omega))]); exact ⟨by exact gz_m 464 (by omega), by exact gz_m 465 (by omega), (fun j => ⟨(((g738 19 j rfl).trans (g715 19 j rfl)).trans (e8_54.1 j)), (((g738 41 j rfl).trans (g715 41 j rfl)).trans (e8_54.2 j))⟩)⟩)⟩)⟩⟩
    have f762 := (gr_b_0_71 hI38)
    refine gv_run 3 true hD (pcₚ := 130) (lvₚ := [(0, .inr (.inr (some 0))), (1, .inl (I 0 6)), (2, .inl v2_12), (3, .inl v3_12)]) (stₚ := [.inl 3, .inl (I38 0 71)]) (hₚ := gr_h I38 J39) (C := (((True ∧ True) ∧ True) ∧ True)) rfl ⟨⟨⟨trivial, trivial⟩, trivial⟩, trivial⟩ ?_
    refine gv_icmp_eq (t := 141) hD rfl rfl ⟨⟨by exact gz_m 466 (by omega), by exact gz_m 467 (by omega)⟩, ⟨by exact gz_m 468 (by omega), by exact gz_m 469 (by omega)⟩⟩ (fun c763 => ?_) (fun c763 => ?_)
    · have t764 := (gr_ATp_k e5_40 (c := 3) (by exact gz_m 470 (by omega))).mp (by exact gz_m 471 (by omega))
      have t765 := (gr_ATp_rr e5_40).2.2.1.resolve_left (by exact gz_m 472 (by omega))
      have t766 := (gr_ATp_rr e5_40).2.2.2.1 (by exact gz_m 473 (by omega))
      refine gv_run 2 true hD (pcₚ := 143) (lvₚ := [(0, .inr (.inr (some 0))), (1, .inl (I 0 6)), (2, .inl v2_12), (3, .inl v3_12)]) (stₚ := [.inl v3_12, .inr (.inr (some 0))]) (hₚ := gr_h I38 J39) (C := ((True ∧ True) ∧ True)) rfl ⟨⟨trivial, trivial⟩, trivial⟩ ?_
      have t767 := (gr_b_6 hI (Int.toNat v3_12))
      obtain ⟨r768, h768, E768, P768⟩ := r_item_p (ws0 := ws0) (tb := tb) hws htb ext β N9 p_40 I38 J39 hI38 v3_12 ⟨by exact gz_m 474 (by omega), by exact gz_m 475 (by omega)⟩ (gr_ATp_rr e5_40).1 (gr_ATp_rr e5_40).2.1 (gr_ATp_rr e5_40).2.2.1 (gr_ATp_rr e5_40).2.2.2.1 (gr_ATp_rr e5_40).2.2.2.2 (by exact gz_m 476 (by omega)) (by exact gz_m 477 (by omega)) (by exact gz_m 478 (by omega)) e3_40 e5_40 (by exact gz_m 479 (by omega))
      obtain ⟨I769, J770, rfl, hI769, g768, k768, ⟨z768, rfl, q768⟩⟩ := P768
      have FI769 := gr_frt FI38 g768 rfl rfl
      have FJ770 := gr_fjt FJ39 k768 rfl rfl
      have t771 := g768 0 69 rfl
      have t772 := g768 0 6 rfl
      have t773 := g768 0 119 rfl
      have t774 := g768 0 3 rfl
      have t775 := g768 19 (Int.toNat ((I 0 6))) rfl
      have f776 := (gr_b_0_71 hI769)
      have f777 := (gr_b_0_72 hI769)
      have f778 := (gr_b_0_73 hI769)
      have f779 := (gr_b_0_69 hI769)
      have f780 := (gr_b_0_6 hI769)
      have f781 := (gr_b_0_59 hI769)
      have f782 := (gr_b_0_118 hI769)
      have f783 := (gr_b_0_119 hI769)
      have f784 := (gr_b_0_3 hI769)
      have KLN_I769 := gr_LN_fr KLN_I38 (fun k => g768 19 k rfl) (by exact gz_m 480 (by omega)) (by exact gz_m 481 (by omega))
      have KGR_I769 := gr_GR_fr KGR_I38 (fun k => g768 19 k rfl) (fun k => g768 18 k rfl) (fun k => g768 36 k rfl) (fun k => g768 41 k rfl) (fun k => g768 42 k rfl) (fun k => g768 43 k rfl) (fun k => g768 45 k rfl) (fun k => g768 46 k rfl) (fun k => g768 47 k rfl) (fun k => g768 6 k rfl) (fun k => g768 7 k rfl) (fun k => g768 8 k rfl) (g768 0 3 rfl)
      have KST_I769 := gr_ST_fr KST_I38 (fun k => g768 6 k rfl) (fun k => g768 19 k rfl) (fun k => g768 18 k rfl) (fun k => g768 41 k rfl) (fun k => g768 36 k rfl) (g768 0 3 rfl)
      have l768 := q768.2.2.2.2.2.2.2.2.2.2.2.2.2.1
      have KLK_I769 := gr_LKs_tr KLK_I38 l768
      have t785 := KLN_I769 (Int.toNat ((I 0 6))) (by exact gz_m 482 (by omega))
      refine gv_callV hD rfl (As := [.inl v3_12]) (st := []) rfl (by decide) rfl rfl (gr_lV hws rfl) (Nat.le_of_ble_eq_true rfl) (gz_Ev_mono (d := 12) (by decide) E768) ?_
      show gv_X _ _ (146, [(0, .inr (.inr (some 0))), (1, .inl (I 0 6)), (2, .inl v2_12), (3, .inl v3_12)], [.inl z768], gr_sh ++ ext, gr_h I769 J770)
      refine gv_if_ne (t := 125) hD rfl rfl ⟨by exact gz_m 483 (by omega), by exact gz_m 484 (by omega)⟩ (fun c786 => ?_) (fun c786 => ?_)
      · have Q787 := q768.2.2.2.2.2.2.2.2.2.2.2.2.2.2
        rw [gs_it_eq (FI38 0 6 rfl) (fun k => (FI38 14 k rfl)) (fun k => (FI38 24 k rfl)) (fun k => (FI38 25 k rfl)) (fun k => (FJ39 21 k rfl)), (FI38 6 (Int.toNat v3_12) rfl)] at Q787
        obtain ⟨u787, A787, U787⟩ := gs_or1 Q787 (by exact gz_m 485 (by omega))
        have t788 := gr_ATp_l A787
        have t789 := (q768.2.2.2.2.2.2.2.2.2.2.2.1).resolve_left (by exact gz_m 486 (by omega))
        obtain ⟨_, _, -, _, -, -, _, _, _, _, _, -, o768, _, -⟩ := q768
        have q768 := And.intro trivial (And.intro trivial (And.intro trivial (And.intro trivial (And.intro trivial (And.intro trivial (And.intro trivial (And.intro trivial (And.intro trivial (And.intro trivial (And.intro trivial (And.intro trivial (o768))))))))))))
        exact ih125 I769 J770 ((gs_it β N9 I J (I 6 (Int.toNat v3_12)) (I38 0 118) (gs_a4 (I38 74)) p_40)) (by exact gz_m 487 (by omega)) hI769 FI769 FJ770 KLN_I769 KGR_I769 KST_I769 KLK_I769 (by exact gz_m 488 (by omega)) (gr_o_x q768.2.2.2.2.2.2.2.2.2.2.2.2 (by exact gz_m 489 (by omega))) A787 (by obtain ⟨m, hm, em⟩ := e6_40; obtain ⟨m, rfl⟩ : ∃ n, m = n + 1 := ⟨m - 1, by exact gz_m 490 (by omega)⟩; exact ⟨m, by exact gz_m 491 (by omega), em.trans (by rw [gs_li_s (by exact gz_m 492 (by omega)) (by exact gz_m 493 (by omega)) (by exact gz_m 494 (by omega)) (by exact gz_m 495 (by omega)) (by exact gz_m 496 (by omega)) U787])⟩) e7_40 (by exact gz_m 497 (by omega)) ⟨(fun k => ((g768 19 k rfl).trans (e9_40.1 k))), (fun k => ((g768 41 k rfl).trans (e9_40.2 k)))⟩
      · have Q790 := q768.2.2.2.2.2.2.2.2.2.2.2.2.2.2
        rw [gs_it_eq (FI38 0 6 rfl) (fun k => (FI38 14 k rfl)) (fun k => (FI38 24 k rfl)) (fun k => (FI38 25 k rfl)) (fun k => (FJ39 21 k rfl)), (FI38 6 (Int.toNat v3_12) rfl)] at Q790
        obtain ⟨u790, u790_⟩ := gs_or0 Q790 (by exact gz_m 498 (by omega))
        refine gv_run 1 true hD (pcₚ := 150) (lvₚ := [(0, .inr (.inr (some 0))), (1, .inl (I 0 6)), (2, .inl v2_12), (3, .inl v3_12)]) (stₚ := [.inl 0]) (hₚ := gr_h I769 J770) (C := (True ∧ True)) rfl ⟨trivial, trivial⟩ ?_
        have b791 : (I769 0 71 = 5 ∨ I769 0 73 ≤ I769 0 69) ∧ (I769 0 72 ≤ I769 0 69) ∧ (I769 0 71 = 0 ∨ (I769 0 72 < I769 0 73 ∧ I769 0 72 < I769 0 69)) ∧ (I769 0 71 = 3 → 2 ≤ I769 0 73 - I769 0 72 ∧ I769 0 73 - I769 0 72 ≤ 14) ∧ (I769 0 72 ≤ I769 0 73) ∧ (I769 0 69 = I 0 69) ∧ (I 0 73 ≤ I769 0 73) ∧ (I 0 72 ≤ I769 0 72) ∧ (I769 0 59 - I769 0 72 ≤ I 0 59 - I 0 72) := by exact gz_m 499 (by omega)
        exact gv_zret hD rfl (by exact gz_m 500 (by omega)) ⟨I769, J770, rfl, hI769, FI769, FJ770, KLN_I769, KGR_I769, KST_I769, ⟨_, rfl, by exact gz_m 501 (by omega), by exact gz_m 502 (by omega), b791.1, b791.2.1, b791.2.2.1, b791.2.2.2.1, b791.2.2.2.2.1, b791.2.2.2.2.2.1, b791.2.2.2.2.2.2.1, b791.2.2.2.2.2.2.2.1, b791.2.2.2.2.2.2.2.2, KLK_I769, (Or.inr ⟨by exact gz_m 503 (by omega), by first | (exfalso; exact gz_m 504 (by omega)) | (obtain ⟨m, hm, em⟩ := e6_40; obtain ⟨m, rfl⟩ : ∃ n, m = n + 1 := ⟨m - 1, by exact gz_m 505 (by omega)⟩; rw [em, gs_li_x (by exact gz_m 506 (by omega)) (by exact gz_m 507 (by omega)), gs_ln2_x (by exact gz_m 508 (by omega))]; exact ⟨by exact gz_m 509 (by omega), by exact gz_m 510 (by omega), (fun j => ⟨((g768 19 j rfl).trans (e9_40.1 j)), ((g768 41 j rfl).trans (e9_40.2 j))⟩)⟩)⟩)⟩⟩
    · have t792 := gr_ATp_ne e5_40 (c := 3) (by exact gz_m 511 (by omega)) (by exact gz_m 512 (by omega))
      have f793 := (gr_b_0_71 hI38)
      refine gv_run 3 true hD (pcₚ := 138) (lvₚ := [(0, .inr (.inr (some 0))), (1, .inl (I 0 6)), (2, .inl v2_12), (3, .inl v3_12)]) (stₚ := [.inl 2, .inl (I38 0 71)]) (hₚ := gr_h I38 J39) (C := (((True ∧ True) ∧ True) ∧ True)) rfl ⟨⟨⟨trivial, trivial⟩, trivial⟩, trivial⟩ ?_
      refine gv_icmp_ne (t := 151) hD rfl rfl ⟨⟨by exact gz_m 513 (by omega), by exact gz_m 514 (by omega)⟩, ⟨by exact gz_m 515 (by omega), by exact gz_m 516 (by omega)⟩⟩ (fun c794 => ?_) (fun c794 => ?_)
      · have t795 := gr_ATp_ne e5_40 (c := 2) (by exact gz_m 517 (by omega)) (by exact gz_m 518 (by omega))
        exact L151 _ I38 J39 p_40 (Nat.lt_succ_self _) hI38 FI38 FJ39 KLN_I38 KGR_I38 KST_I38 KLK_I38 (by exact gz_m 519 (by omega)) e3_40 e5_40 (by obtain ⟨m, hm, em⟩ := e6_40; exact ⟨1002, by exact gz_m 520 (by omega), em.trans (by rw [gs_li_e (by exact gz_m 521 (by omega)), gs_ln2_e (by exact gz_m 522 (by omega)), show I38 0 119 = 0 from by exact gz_m 523 (by omega)])⟩) e7_40 ⟨(fun k => (e9_40.1 k)), (fun k => (e9_40.2 k))⟩
      · have t796 := (gr_ATp_k e5_40 (c := 2) (by exact gz_m 524 (by omega))).mp (by exact gz_m 525 (by omega))
        have t797 := (gr_ATp_rr e5_40).2.2.1.resolve_left (by exact gz_m 526 (by omega))
        have t798 := gr_ATp_n e5_40 t796
        refine gv_run 2 true hD (pcₚ := 143) (lvₚ := [(0, .inr (.inr (some 0))), (1, .inl (I 0 6)), (2, .inl v2_12), (3, .inl v3_12)]) (stₚ := [.inl v3_12, .inr (.inr (some 0))]) (hₚ := gr_h I38 J39) (C := ((True ∧ True) ∧ True)) rfl ⟨⟨trivial, trivial⟩, trivial⟩ ?_
        have t799 := (gr_b_6 hI (Int.toNat v3_12))
        obtain ⟨r800, h800, E800, P800⟩ := r_item_p (ws0 := ws0) (tb := tb) hws htb ext β N9 p_40 I38 J39 hI38 v3_12 ⟨by exact gz_m 527 (by omega), by exact gz_m 528 (by omega)⟩ (gr_ATp_rr e5_40).1 (gr_ATp_rr e5_40).2.1 (gr_ATp_rr e5_40).2.2.1 (gr_ATp_rr e5_40).2.2.2.1 (gr_ATp_rr e5_40).2.2.2.2 (by exact gz_m 529 (by omega)) (by exact gz_m 530 (by omega)) (by exact gz_m 531 (by omega)) e3_40 e5_40 (by exact gz_m 532 (by omega))
        obtain ⟨I801, J802, rfl, hI801, g800, k800, ⟨z800, rfl, q800⟩⟩ := P800
        have FI801 := gr_frt FI38 g800 rfl rfl
        have FJ802 := gr_fjt FJ39 k800 rfl rfl
        have t803 := g800 0 69 rfl
        have t804 := g800 0 6 rfl
        have t805 := g800 0 119 rfl
        have t806 := g800 0 3 rfl
        have t807 := g800 19 (Int.toNat ((I 0 6))) rfl
        have f808 := (gr_b_0_71 hI801)
        have f809 := (gr_b_0_72 hI801)
        have f810 := (gr_b_0_73 hI801)
        have f811 := (gr_b_0_69 hI801)
        have f812 := (gr_b_0_6 hI801)
        have f813 := (gr_b_0_59 hI801)
        have f814 := (gr_b_0_118 hI801)
        have f815 := (gr_b_0_119 hI801)
        have f816 := (gr_b_0_3 hI801)
        have KLN_I801 := gr_LN_fr KLN_I38 (fun k => g800 19 k rfl) (by exact gz_m 533 (by omega)) (by exact gz_m 534 (by omega))
        have KGR_I801 := gr_GR_fr KGR_I38 (fun k => g800 19 k rfl) (fun k => g800 18 k rfl) (fun k => g800 36 k rfl) (fun k => g800 41 k rfl) (fun k => g800 42 k rfl) (fun k => g800 43 k rfl) (fun k => g800 45 k rfl) (fun k => g800 46 k rfl) (fun k => g800 47 k rfl) (fun k => g800 6 k rfl) (fun k => g800 7 k rfl) (fun k => g800 8 k rfl) (g800 0 3 rfl)
        have KST_I801 := gr_ST_fr KST_I38 (fun k => g800 6 k rfl) (fun k => g800 19 k rfl) (fun k => g800 18 k rfl) (fun k => g800 41 k rfl) (fun k => g800 36 k rfl) (g800 0 3 rfl)
        have l800 := q800.2.2.2.2.2.2.2.2.2.2.2.2.2.1
        have KLK_I801 := gr_LKs_tr KLK_I38 l800
        have t817 := KLN_I801 (Int.toNat ((I 0 6))) (by exact gz_m 535 (by omega))
        refine gv_callV hD rfl (As := [.inl v3_12]) (st := []) rfl (by decide) rfl rfl (gr_lV hws rfl) (Nat.le_of_ble_eq_true rfl) (gz_Ev_mono (d := 12) (by decide) E800) ?_
        show gv_X _ _ (146, [(0, .inr (.inr (some 0))), (1, .inl (I 0 6)), (2, .inl v2_12), (3, .inl v3_12)], [.inl z800], gr_sh ++ ext, gr_h I801 J802)
        refine gv_if_ne (t := 125) hD rfl rfl ⟨by exact gz_m 536 (by omega), by exact gz_m 537 (by omega)⟩ (fun c818 => ?_) (fun c818 => ?_)
        · have Q819 := q800.2.2.2.2.2.2.2.2.2.2.2.2.2.2
          rw [gs_it_eq (FI38 0 6 rfl) (fun k => (FI38 14 k rfl)) (fun k => (FI38 24 k rfl)) (fun k => (FI38 25 k rfl)) (fun k => (FJ39 21 k rfl)), (FI38 6 (Int.toNat v3_12) rfl)] at Q819
          obtain ⟨u819, A819, U819⟩ := gs_or1 Q819 (by exact gz_m 538 (by omega))
          have t820 := gr_ATp_l A819
          have t821 := (q800.2.2.2.2.2.2.2.2.2.2.2.1).resolve_left (by exact gz_m 539 (by omega))
          obtain ⟨_, _, -, _, -, -, _, _, _, _, _, -, o800, _, -⟩ := q800
          have q800 := And.intro trivial (And.intro trivial (And.intro trivial (And.intro trivial (And.intro trivial (And.intro trivial (And.intro trivial (And.intro trivial (And.intro trivial (And.intro trivial (And.intro trivial (And.intro trivial (o800))))))))))))
          exact ih125 I801 J802 ((gs_it β N9 I J (I 6 (Int.toNat v3_12)) (I38 0 118) (gs_a4 (I38 74)) p_40)) (by exact gz_m 540 (by omega)) hI801 FI801 FJ802 KLN_I801 KGR_I801 KST_I801 KLK_I801 (by exact gz_m 541 (by omega)) (gr_o_x q800.2.2.2.2.2.2.2.2.2.2.2.2 (by exact gz_m 542 (by omega))) A819 (by obtain ⟨m, hm, em⟩ := e6_40; obtain ⟨m, rfl⟩ : ∃ n, m = n + 1 := ⟨m - 1, by exact gz_m 543 (by omega)⟩; exact ⟨m, by exact gz_m 544 (by omega), em.trans (by rw [gs_li_s (by exact gz_m 545 (by omega)) (by exact gz_m 546 (by omega)) (by exact gz_m 547 (by omega)) (by exact gz_m 548 (by omega)) (by exact gz_m 549 (by omega)) U819])⟩) e7_40 (by exact gz_m 550 (by omega)) ⟨(fun k => ((g800 19 k rfl).trans (e9_40.1 k))), (fun k => ((g800 41 k rfl).trans (e9_40.2 k)))⟩
        · have Q822 := q800.2.2.2.2.2.2.2.2.2.2.2.2.2.2
          rw [gs_it_eq (FI38 0 6 rfl) (fun k => (FI38 14 k rfl)) (fun k => (FI38 24 k rfl)) (fun k => (FI38 25 k rfl)) (fun k => (FJ39 21 k rfl)), (FI38 6 (Int.toNat v3_12) rfl)] at Q822
          obtain ⟨u822, u822_⟩ := gs_or0 Q822 (by exact gz_m 551 (by omega))
          refine gv_run 1 true hD (pcₚ := 150) (lvₚ := [(0, .inr (.inr (some 0))), (1, .inl (I 0 6)), (2, .inl v2_12), (3, .inl v3_12)]) (stₚ := [.inl 0]) (hₚ := gr_h I801 J802) (C := (True ∧ True)) rfl ⟨trivial, trivial⟩ ?_
          have b823 : (I801 0 71 = 5 ∨ I801 0 73 ≤ I801 0 69) ∧ (I801 0 72 ≤ I801 0 69) ∧ (I801 0 71 = 0 ∨ (I801 0 72 < I801 0 73 ∧ I801 0 72 < I801 0 69)) ∧ (I801 0 71 = 3 → 2 ≤ I801 0 73 - I801 0 72 ∧ I801 0 73 - I801 0 72 ≤ 14) ∧ (I801 0 72 ≤ I801 0 73) ∧ (I801 0 69 = I 0 69) ∧ (I 0 73 ≤ I801 0 73) ∧ (I 0 72 ≤ I801 0 72) ∧ (I801 0 59 - I801 0 72 ≤ I 0 59 - I 0 72) := by exact gz_m 552 (by omega)
          exact gv_zret hD rfl (by exact gz_m 553 (by omega)) ⟨I801, J802, rfl, hI801, FI801, FJ802, KLN_I801, KGR_I801, KST_I801, ⟨_, rfl, by exact gz_m 554 (by omega), by exact gz_m 555 (by omega), b823.1, b823.2.1, b823.2.2.1, b823.2.2.2.1, b823.2.2.2.2.1, b823.2.2.2.2.2.1, b823.2.2.2.2.2.2.1, b823.2.2.2.2.2.2.2.1, b823.2.2.2.2.2.2.2.2, KLK_I801, (Or.inr ⟨by exact gz_m 556 (by omega), by first | (exfalso; exact gz_m 557 (by omega)) | (obtain ⟨m, hm, em⟩ := e6_40; obtain ⟨m, rfl⟩ : ∃ n, m = n + 1 := ⟨m - 1, by exact gz_m 558 (by omega)⟩; rw [em, gs_li_x (by exact gz_m 559 (by omega)) (by exact gz_m 560 (by omega)), gs_ln2_x (by exact gz_m 561 (by omega))]; exact ⟨by exact gz_m 562 (by omega), by exact gz_m 563 (by omega), (fun j => ⟨((g800 19 j rfl).trans (e9_40.1 j)), ((g800 41 j rfl).trans (e9_40.2 j))⟩)⟩)⟩)⟩⟩
set_option maxHeartbeats 32000000 in
set_option maxRecDepth 100000 in
theorem r_lin_p_L70 {ws0 : List Cond} {tb : String → gz_T} (hws : ∀ w ∈ gr_ws, w ∈ ws0) (htb : tb RX13 = gr_T) (ext : gz_Sh) (B : Int) (hB : B ≤ 1500) (I9 : gr_I) (β : Int → Int) (N9 : Int) (p9 : Int) (I : gr_I) (J : gr_J) (hI : gr_Inv I) (x1 : I 0 72 ≤ I 0 69) (x4 : I 0 72 ≤ I 0 73) (x5 : 0 ≤ I 0 6) (x6 : I 0 59 + I 0 69 - I 0 72 ≤ 1900) (x7 : gr_ATp β N9 p9 I J) (x8 : 0 ≤ p9) (x9 : gr_KW J) (KLN_I : gr_LN B I) (KGR_I : gr_GR I) (KST_I : gr_ST I9 I) : ∀ (I10 : gr_I) (J11 : gr_J) (v1_12 : Int) (v2_12 : Int) (v3_12 : Int) (p_12 : Int), gr_Inv I10 → gr_fr [59, 71, 72, 73, 74, 75, 76, 77, 101, 106, 118, 119, 120] [19, 41, 42, 43, 44, 45, 46, 47, 48, 49, 50, 51, 68, 69, 70, 71, 72, 73, 74] I I10 → gr_fj [59, 71, 72, 73, 74, 75, 76, 77, 101, 106, 118, 119, 120] [19, 41, 42, 43, 44, 45, 46, 47, 48, 49, 50, 51, 68, 69, 70, 71, 72, 73, 74] J J11 → gr_LN B I10 → gr_GR I10 → gr_ST I9 I10 → gr_LKs I I10 → ((0 ≤ v1_12 ∧ v1_12 ≤ 7) ∧ (0 ≤ v2_12 ∧ v2_12 ≤ 1000) ∧ (0 ≤ v3_12 ∧ v3_12 ≤ 95) ∧ (I 0 72 + 2 ≤ I10 0 72) ∧ (I10 19 (Int.toNat v1_12) = I 19 (Int.toNat v1_12)) ∧ (v3_12 < I10 0 3) ∧ (0 ≤ p_12) ∧ (I10 0 72 ≤ I10 0 69) ∧ (I10 0 72 ≤ I10 0 73) ∧ (I10 0 69 = I 0 69) ∧ (I 0 73 ≤ I10 0 73) ∧ (I 0 72 ≤ I10 0 72) ∧ (I10 0 6 = I 0 6) ∧ (I10 0 59 - I10 0 72 ≤ I 0 59 - I 0 72)) → (gr_ATp β N9 p_12 I10 J11) → ((gs_lin β N9 I J (I 0 78) p9) = gs_ln1 β N9 I J (I 0 78) v3_12 v2_12 p_12) → (v3_12 = gs_lk I J 3 3 (gs_rn β N9 p9)) → (v1_12 = I 0 6) → ((∀ k, I10 19 k = I 19 k) ∧ (∀ k, I10 41 k = I 41 k)) → gv_X (gr_E ws0 tb 12 (yX13_lin, cX13_lin, 7, (some .boolean)) kX13_lin) (gv_Q cX13_lin (some .boolean) (gr_sh ++ ext) (fun r hₚ => (∃ (Iₚ : gr_I) (Jₚ : gr_J), hₚ = gr_h Iₚ Jₚ ∧ gr_Inv Iₚ ∧ gr_fr [59, 71, 72, 73, 74, 75, 76, 77, 101, 106, 118, 119, 120] [19, 41, 42, 43, 44, 45, 46, 47, 48, 49, 50, 51, 68, 69, 70, 71, 72, 73, 74] I Iₚ ∧ gr_fj [59, 71, 72, 73, 74, 75, 76, 77, 101, 106, 118, 119, 120] [19, 41, 42, 43, 44, 45, 46, 47, 48, 49, 50, 51, 68, 69, 70, 71, 72, 73, 74] J Jₚ ∧ gr_LN B Iₚ ∧ gr_GR Iₚ ∧ gr_ST I9 Iₚ ∧ (∃ z : Int, r = some (.inl z) ∧ 0 ≤ z ∧ z ≤ 1 ∧ (Iₚ 0 71 = 5 ∨ Iₚ 0 73 ≤ Iₚ 0 69) ∧ (Iₚ 0 72 ≤ Iₚ 0 69) ∧ (Iₚ 0 71 = 0 ∨ (Iₚ 0 72 < Iₚ 0 73 ∧ Iₚ 0 72 < Iₚ 0 69)) ∧ (Iₚ 0 71 = 3 → 2 ≤ Iₚ 0 73 - Iₚ 0 72 ∧ Iₚ 0 73 - Iₚ 0 72 ≤ 14) ∧ (Iₚ 0 72 ≤ Iₚ 0 73) ∧ (Iₚ 0 69 = I 0 69) ∧ (I 0 73 ≤ Iₚ 0 73) ∧ (I 0 72 ≤ Iₚ 0 72) ∧ (Iₚ 0 59 - Iₚ 0 72 ≤ I 0 59 - I 0 72) ∧ (gr_LKs I Iₚ) ∧ (gs_Or z (0 ≤ (gs_lin β N9 I J (I 0 78) p9) ∧ gr_ATp β N9 (gs_lin β N9 I J (I 0 78) p9) Iₚ Jₚ ∧ gs_Uln (gs_lk I J 3 3 (gs_rn β N9 p9)) I Iₚ) ((gs_lin β N9 I J (I 0 78) p9) < 0 ∧ Iₚ 0 77 = -1 - (gs_lin β N9 I J (I 0 78) p9) ∧ gs_Sln I Iₚ)))))) (70, [(0, .inr (.inr (some 0))), (1, .inl v1_12), (2, .inl v2_12), (3, .inl v3_12)], [], gr_sh ++ ext, gr_h I10 J11) := by
  have FI : gr_fr [59, 71, 72, 73, 74, 75, 76, 77, 101, 106, 118, 119, 120] [19, 41, 42, 43, 44, 45, 46, 47, 48, 49, 50, 51, 68, 69, 70, 71, 72, 73, 74] I I := fun _ _ _ => rfl
  have FJ : gr_fj [59, 71, 72, 73, 74, 75, 76, 77, 101, 106, 118, 119, 120] [19, 41, 42, 43, 44, 45, 46, 47, 48, 49, 50, 51, 68, 69, 70, 71, 72, 73, 74] J J := fun _ _ _ => rfl
  have hD : gv_D (gr_E ws0 tb 12 (yX13_lin, cX13_lin, 7, (some .boolean)) kX13_lin) := gq_of oX13_lin
  have tAT := gr_ATp_l x7
  skip
  have KW := x9
  have f1 := (gr_b_0_71 hI)
  have f2 := (gr_b_0_72 hI)
  have f3 := (gr_b_0_73 hI)
  have f4 := (gr_b_0_69 hI)
  have f5 := (gr_b_0_6 hI)
  have f6 := (gr_b_0_59 hI)
  have f7 := (gr_b_0_118 hI)
  have f8 := (gr_b_0_119 hI)
  have f9 := (gr_b_0_3 hI)
  have KLK_I : gr_LKs I I := gr_LKs_rf
  intro I10 J11 v1_12 v2_12 v3_12 p_12 hI10 FI10 FJ11 KLN_I10 KGR_I10 KST_I10 KLK_I10 m_12 e4_12 e5_12 e6_12 e7_12 e8_12
  obtain ⟨hv1_12, hv2_12, hv3_12, e0_12, e1_12, e2_12, e3_12, e9_12, e10_12, e11_12, e12_12, e13_12, e14_12, e15_12⟩ := m_12
  have q9_12 := e7_12
  subst q9_12
  have f13 := (gr_b_0_71 hI10)
  have f14 := (gr_b_0_72 hI10)
  have f15 := (gr_b_0_73 hI10)
  have f16 := (gr_b_0_69 hI10)
  have f17 := (gr_b_0_6 hI10)
  have f18 := (gr_b_0_59 hI10)
  have f19 := (gr_b_0_118 hI10)
  have f20 := (gr_b_0_119 hI10)
  have f21 := (gr_b_0_3 hI10)
  have t22 := KLN_I (Int.toNat (I 0 6)) (by exact gz_m 0 (by omega))
  have t23 := gr_ATp_l e4_12
  have L83 : ∀ (n : Nat) (I24 : gr_I) (J25 : gr_J) (v4_26 : Int) (p_26 : Int), (5 - v4_26).toNat < n → gr_Inv I24 → gr_fr [59, 71, 72, 73, 74, 75, 76, 77, 101, 106, 118, 119, 120] [19, 41, 42, 43, 44, 45, 46, 47, 48, 49, 50, 51, 68, 69, 70, 71, 72, 73, 74] I I24 → gr_fj [59, 71, 72, 73, 74, 75, 76, 77, 101, 106, 118, 119, 120] [19, 41, 42, 43, 44, 45, 46, 47, 48, 49, 50, 51, 68, 69, 70, 71, 72, 73, 74] J J25 → gr_LN B I24 → gr_GR I24 → gr_ST I9 I24 → gr_LKs I I24 → ((0 ≤ (I 0 6) ∧ (I 0 6) ≤ 7) ∧ (0 ≤ v2_12 ∧ v2_12 ≤ 1000) ∧ (0 ≤ v3_12 ∧ v3_12 ≤ 95) ∧ (0 ≤ v4_26 ∧ v4_26 ≤ 4) ∧ (I 0 72 + 2 ≤ I24 0 72) ∧ (I24 19 (Int.toNat (I 0 6)) = I 19 (Int.toNat (I 0 6))) ∧ (I24 0 118 = 0) ∧ (I24 0 119 = 0) ∧ (v3_12 < I24 0 3) ∧ (0 ≤ p_26) ∧ (I24 0 72 ≤ I24 0 69) ∧ (I24 0 72 ≤ I24 0 73) ∧ (I24 0 69 = I 0 69) ∧ (I 0 73 ≤ I24 0 73) ∧ (I 0 72 ≤ I24 0 72) ∧ (I24 0 6 = I 0 6) ∧ (I24 0 59 - I24 0 72 ≤ I 0 59 - I 0 72)) → (gr_A1 v4_26 I24) → (gr_ATp β N9 p_26 I24 J25) → ((gs_lin β N9 I J (I 0 78) p9) = gs_ln1 β N9 I J (I 0 78) v3_12 v2_12 p_26) → (v3_12 = gs_lk I J 3 3 (gs_rn β N9 p9)) → (∀ j : Nat, (j : Int) < v4_26 → I24 74 j = -1) → ((∀ k, I24 19 k = I 19 k) ∧ (∀ k, I24 41 k = I 41 k)) → gv_X (gr_E ws0 tb 12 (yX13_lin, cX13_lin, 7, (some .boolean)) kX13_lin) (gv_Q cX13_lin (some .boolean) (gr_sh ++ ext) (fun r hₚ => (∃ (Iₚ : gr_I) (Jₚ : gr_J), hₚ = gr_h Iₚ Jₚ ∧ gr_Inv Iₚ ∧ gr_fr [59, 71, 72, 73, 74, 75, 76, 77, 101, 106, 118, 119, 120] [19, 41, 42, 43, 44, 45, 46, 47, 48, 49, 50, 51, 68, 69, 70, 71, 72, 73, 74] I Iₚ ∧ gr_fj [59, 71, 72, 73, 74, 75, 76, 77, 101, 106, 118, 119, 120] [19, 41, 42, 43, 44, 45, 46, 47, 48, 49, 50, 51, 68, 69, 70, 71, 72, 73, 74] J Jₚ ∧ gr_LN B Iₚ ∧ gr_GR Iₚ ∧ gr_ST I9 Iₚ ∧ (∃ z : Int, r = some (.inl z) ∧ 0 ≤ z ∧ z ≤ 1 ∧ (Iₚ 0 71 = 5 ∨ Iₚ 0 73 ≤ Iₚ 0 69) ∧ (Iₚ 0 72 ≤ Iₚ 0 69) ∧ (Iₚ 0 71 = 0 ∨ (Iₚ 0 72 < Iₚ 0 73 ∧ Iₚ 0 72 < Iₚ 0 69)) ∧ (Iₚ 0 71 = 3 → 2 ≤ Iₚ 0 73 - Iₚ 0 72 ∧ Iₚ 0 73 - Iₚ 0 72 ≤ 14) ∧ (Iₚ 0 72 ≤ Iₚ 0 73) ∧ (Iₚ 0 69 = I 0 69) ∧ (I 0 73 ≤ Iₚ 0 73) ∧ (I 0 72 ≤ Iₚ 0 72) ∧ (Iₚ 0 59 - Iₚ 0 72 ≤ I 0 59 - I 0 72) ∧ (gr_LKs I Iₚ) ∧ (gs_Or z (0 ≤ (gs_lin β N9 I J (I 0 78) p9) ∧ gr_ATp β N9 (gs_lin β N9 I J (I 0 78) p9) Iₚ Jₚ ∧ gs_Uln (gs_lk I J 3 3 (gs_rn β N9 p9)) I Iₚ) ((gs_lin β N9 I J (I 0 78) p9) < 0 ∧ Iₚ 0 77 = -1 - (gs_lin β N9 I J (I 0 78) p9) ∧ gs_Sln I Iₚ)))))) (83, [(0, .inr (.inr (some 0))), (1, .inl (I 0 6)), (2, .inl v2_12), (3, .inl v3_12), (4, .inl v4_26)], [], gr_sh ++ ext, gr_h I24 J25) := by
    intro n
    induction n with
    | zero => intro I24 J25 v4_26 p_26 hn; exact gz_m 1 (by omega)
    | succ n ih83 =>
      intro I24 J25 v4_26 p_26 hn hI24 FI24 FJ25 KLN_I24 KGR_I24 KST_I24 KLK_I24 m_26 e5_26 e7_26 e8_26 e9_26 e10_26 e11_26
      clear hv1_12 hv2_12 hv3_12 e0_12 e1_12 e2_12 e3_12 e9_12 e10_12 e11_12 e12_12 e13_12 e14_12 e15_12 f13 f14 f15 f16 f17 f18 f19 f20 f21 t22 t23
      obtain ⟨h_I_0_6__26, hv2_12_26, hv3_12_26, hv4_26, e0_26, e1_26, e2_26, e3_26, e4_26, e6_26, e12_26, e13_26, e14_26, e15_26, e16_26, e17_26, e18_26⟩ := m_26
      have f27 := (gr_b_0_71 hI24)
      have f28 := (gr_b_0_72 hI24)
      have f29 := (gr_b_0_73 hI24)
      have f30 := (gr_b_0_69 hI24)
      have f31 := (gr_b_0_6 hI24)
      have f32 := (gr_b_0_59 hI24)
      have f33 := (gr_b_0_118 hI24)
      have f34 := (gr_b_0_119 hI24)
      have f35 := (gr_b_0_3 hI24)
      have t36 := KLN_I (Int.toNat (I 0 6)) (by exact gz_m 2 (by omega))
      have t37 := gr_ATp_l e7_26
      have L125 : ∀ (n : Nat) (I38 : gr_I) (J39 : gr_J) (p_40 : Int), (1001 - I38 0 72).toNat < n → gr_Inv I38 → gr_fr [59, 71, 72, 73, 74, 75, 76, 77, 101, 106, 118, 119, 120] [19, 41, 42, 43, 44, 45, 46, 47, 48, 49, 50, 51, 68, 69, 70, 71, 72, 73, 74] I I38 → gr_fj [59, 71, 72, 73, 74, 75, 76, 77, 101, 106, 118, 119, 120] [19, 41, 42, 43, 44, 45, 46, 47, 48, 49, 50, 51, 68, 69, 70, 71, 72, 73, 74] J J39 → gr_LN B I38 → gr_GR I38 → gr_ST I9 I38 → gr_LKs I I38 → ((0 ≤ (I 0 6) ∧ (I 0 6) ≤ 7) ∧ (0 ≤ v2_12 ∧ v2_12 ≤ 1000) ∧ (0 ≤ v3_12 ∧ v3_12 ≤ 95) ∧ ((I 0 72 + 3 ≤ I38 0 72) ∨ (I 0 72 + 2 ≤ I38 0 72 ∧ (I38 0 71 = 3 ∨ I38 0 71 = 2))) ∧ (I38 19 (Int.toNat (I 0 6)) = I 19 (Int.toNat (I 0 6))) ∧ (v3_12 < I38 0 3) ∧ (0 ≤ p_40) ∧ (I38 0 72 ≤ I38 0 69) ∧ (I38 0 72 ≤ I38 0 73) ∧ (I38 0 69 = I 0 69) ∧ (I 0 73 ≤ I38 0 73) ∧ (I 0 72 ≤ I38 0 72) ∧ (I38 0 6 = I 0 6) ∧ (I38 0 59 - I38 0 72 ≤ I 0 59 - I 0 72)) → (gr_R1 v3_12 I38) → (gr_ATp β N9 p_40 I38 J39) → (∃ m : Nat, 1001 - gs_A β N9 p_40 < (m : Int) ∧ (gs_lin β N9 I J (I 0 78) p9) = gs_ln2 β N9 I J (I 0 78) v3_12 v2_12 (gs_li β N9 I J (I 6 (Int.toNat v3_12)) m (I38 0 118) (gs_i0 I38) (gs_a4 (I38 74)) p_40)) → (v3_12 = gs_lk I J 3 3 (gs_rn β N9 p9)) → (I38 0 119 = 0) → ((∀ k, I38 19 k = I 19 k) ∧ (∀ k, I38 41 k = I 41 k)) → gv_X (gr_E ws0 tb 12 (yX13_lin, cX13_lin, 7, (some .boolean)) kX13_lin) (gv_Q cX13_lin (some .boolean) (gr_sh ++ ext) (fun r hₚ => (∃ (Iₚ : gr_I) (Jₚ : gr_J), hₚ = gr_h Iₚ Jₚ ∧ gr_Inv Iₚ ∧ gr_fr [59, 71, 72, 73, 74, 75, 76, 77, 101, 106, 118, 119, 120] [19, 41, 42, 43, 44, 45, 46, 47, 48, 49, 50, 51, 68, 69, 70, 71, 72, 73, 74] I Iₚ ∧ gr_fj [59, 71, 72, 73, 74, 75, 76, 77, 101, 106, 118, 119, 120] [19, 41, 42, 43, 44, 45, 46, 47, 48, 49, 50, 51, 68, 69, 70, 71, 72, 73, 74] J Jₚ ∧ gr_LN B Iₚ ∧ gr_GR Iₚ ∧ gr_ST I9 Iₚ ∧ (∃ z : Int, r = some (.inl z) ∧ 0 ≤ z ∧ z ≤ 1 ∧ (Iₚ 0 71 = 5 ∨ Iₚ 0 73 ≤ Iₚ 0 69) ∧ (Iₚ 0 72 ≤ Iₚ 0 69) ∧ (Iₚ 0 71 = 0 ∨ (Iₚ 0 72 < Iₚ 0 73 ∧ Iₚ 0 72 < Iₚ 0 69)) ∧ (Iₚ 0 71 = 3 → 2 ≤ Iₚ 0 73 - Iₚ 0 72 ∧ Iₚ 0 73 - Iₚ 0 72 ≤ 14) ∧ (Iₚ 0 72 ≤ Iₚ 0 73) ∧ (Iₚ 0 69 = I 0 69) ∧ (I 0 73 ≤ Iₚ 0 73) ∧ (I 0 72 ≤ Iₚ 0 72) ∧ (Iₚ 0 59 - Iₚ 0 72 ≤ I 0 59 - I 0 72) ∧ (gr_LKs I Iₚ) ∧ (gs_Or z (0 ≤ (gs_lin β N9 I J (I 0 78) p9) ∧ gr_ATp β N9 (gs_lin β N9 I J (I 0 78) p9) Iₚ Jₚ ∧ gs_Uln (gs_lk I J 3 3 (gs_rn β N9 p9)) I Iₚ) ((gs_lin β N9 I J (I 0 78) p9) < 0 ∧ Iₚ 0 77 = -1 - (gs_lin β N9 I J (I 0 78) p9) ∧ gs_Sln I Iₚ)))))) (125, [(0, .inr (.inr (some 0))), (1, .inl (I 0 6)), (2, .inl v2_12), (3, .inl v3_12)], [], gr_sh ++ ext, gr_h I38 J39) := r_lin_p_L125 (ws0 := ws0) (tb := tb) hws htb ext B hB I9 β N9 p9 I J hI x1 x4 x5 x6 x7 x8 x9 KLN_I KGR_I KST_I v2_12 v3_12
      refine gv_run 2 true hD (pcₚ := 86) (lvₚ := [(0, .inr (.inr (some 0))), (1, .inl (I 0 6)), (2, .inl v2_12), (3, .inl v3_12), (4, .inl v4_26)]) (stₚ := [.inl 4, .inl v4_26]) (hₚ := gr_h I24 J25) (C := ((True ∧ True) ∧ True)) rfl ⟨⟨trivial, trivial⟩, trivial⟩ ?_
      refine gv_icmp_ge (t := 103) hD rfl rfl ⟨⟨by exact gz_m 564 (by omega), by exact gz_m 565 (by omega)⟩, ⟨by exact gz_m 566 (by omega), by exact gz_m 567 (by omega)⟩⟩ (fun c824 => ?_) (fun c824 => ?_)
      · have f825 := (gr_b_0_71 hI24)
        refine gv_run 3 true hD (pcₚ := 108) (lvₚ := [(0, .inr (.inr (some 0))), (1, .inl (I 0 6)), (2, .inl v2_12), (3, .inl v3_12), (4, .inl v4_26)]) (stₚ := [.inl 3, .inl (I24 0 71)]) (hₚ := gr_h I24 J25) (C := (((True ∧ True) ∧ True) ∧ True)) rfl ⟨⟨⟨trivial, trivial⟩, trivial⟩, trivial⟩ ?_
        refine gv_icmp_eq (t := 125) hD rfl rfl ⟨⟨by exact gz_m 568 (by omega), by exact gz_m 569 (by omega)⟩, ⟨by exact gz_m 570 (by omega), by exact gz_m 571 (by omega)⟩⟩ (fun c826 => ?_) (fun c826 => ?_)
        · have t827 := (gr_ATp_k e7_26 (c := 3) (by exact gz_m 572 (by omega))).mp (by exact gz_m 573 (by omega))
          have t828 := (gr_ATp_rr e7_26).2.2.1.resolve_left (by exact gz_m 574 (by omega))
          have t829 := (gr_ATp_rr e7_26).2.2.2.1 (by exact gz_m 575 (by omega))
          refine gv_pick [0, 1, 2, 3] rfl ?_
          exact L125 _ I24 J25 p_26 (Nat.lt_succ_self _) hI24 FI24 FJ25 KLN_I24 KGR_I24 KST_I24 KLK_I24 (by exact gz_m 576 (by omega)) (gr_R1_00 e5_26 (by exact gz_m 577 (by omega)) (by exact gz_m 578 (by omega)) (by exact gz_m 579 (by omega))) e7_26 ⟨1002, by exact gz_m 580 (by omega), (e8_26.trans (by unfold gs_ln1; rw [if_neg (by exact gz_m 581 (by omega)), if_pos (by exact gz_m 582 (by omega)), gs_i0_0 (show I24 0 118 = 0 by exact gz_m 583 (by omega)), show I24 0 118 = 0 from by exact gz_m 584 (by omega), gs_a4_0 (I := I24) (fun j hj => e10_26 j (by exact gz_m 585 (by omega)))]))⟩ e9_26 (by exact gz_m 586 (by omega)) ⟨(fun k => (e11_26.1 k)), (fun k => (e11_26.2 k))⟩
        · have t830 := gr_ATp_ne e7_26 (c := 3) (by exact gz_m 587 (by omega)) (by exact gz_m 588 (by omega))
          have f831 := (gr_b_0_71 hI24)
          refine gv_run 3 true hD (pcₚ := 116) (lvₚ := [(0, .inr (.inr (some 0))), (1, .inl (I 0 6)), (2, .inl v2_12), (3, .inl v3_12), (4, .inl v4_26)]) (stₚ := [.inl 2, .inl (I24 0 71)]) (hₚ := gr_h I24 J25) (C := (((True ∧ True) ∧ True) ∧ True)) rfl ⟨⟨⟨trivial, trivial⟩, trivial⟩, trivial⟩ ?_
          refine gv_icmp_eq (t := 125) hD rfl rfl ⟨⟨by exact gz_m 589 (by omega), by exact gz_m 590 (by omega)⟩, ⟨by exact gz_m 591 (by omega), by exact gz_m 592 (by omega)⟩⟩ (fun c832 => ?_) (fun c832 => ?_)
          · have t833 := (gr_ATp_k e7_26 (c := 2) (by exact gz_m 593 (by omega))).mp (by exact gz_m 594 (by omega))
            have t834 := (gr_ATp_rr e7_26).2.2.1.resolve_left (by exact gz_m 595 (by omega))
            have t835 := gr_ATp_n e7_26 t833
            refine gv_pick [0, 1, 2, 3] rfl ?_
            exact L125 _ I24 J25 p_26 (Nat.lt_succ_self _) hI24 FI24 FJ25 KLN_I24 KGR_I24 KST_I24 KLK_I24 (by exact gz_m 596 (by omega)) (gr_R1_00 e5_26 (by exact gz_m 597 (by omega)) (by exact gz_m 598 (by omega)) (by exact gz_m 599 (by omega))) e7_26 ⟨1002, by exact gz_m 600 (by omega), (e8_26.trans (by unfold gs_ln1; rw [if_neg (by exact gz_m 601 (by omega)), if_pos (by exact gz_m 602 (by omega)), gs_i0_0 (show I24 0 118 = 0 by exact gz_m 603 (by omega)), show I24 0 118 = 0 from by exact gz_m 604 (by omega), gs_a4_0 (I := I24) (fun j hj => e10_26 j (by exact gz_m 605 (by omega)))]))⟩ e9_26 (by exact gz_m 606 (by omega)) ⟨(fun k => (e11_26.1 k)), (fun k => (e11_26.2 k))⟩
          · have t836 := gr_ATp_ne e7_26 (c := 2) (by exact gz_m 607 (by omega)) (by exact gz_m 608 (by omega))
            refine gv_run 2 true hD (pcₚ := 121) (lvₚ := [(0, .inr (.inr (some 0))), (1, .inl (I 0 6)), (2, .inl v2_12), (3, .inl v3_12), (4, .inl v4_26)]) (stₚ := [.inl 1, .inr (.inr (some 0))]) (hₚ := gr_h I24 J25) (C := ((True ∧ True) ∧ True)) rfl ⟨⟨trivial, trivial⟩, trivial⟩ ?_
            obtain ⟨r837, h837, E837, P837⟩ := r_no__p (ws0 := ws0) (tb := tb) hws htb ext β N9 p_26 I24 J25 hI24 1 ⟨by exact gz_m 609 (by omega), by exact gz_m 610 (by omega)⟩ e7_26 (by exact gz_m 611 (by omega))
            obtain ⟨I838, J839, rfl, hI838, g837, k837, ⟨z837, rfl, q837⟩⟩ := P837
            have FI838 := gr_frt FI24 g837 rfl rfl
            have FJ839 := gr_fjt FJ25 k837 rfl rfl
            have t840 := g837 0 71 rfl
            have t841 := g837 0 72 rfl
            have t842 := g837 0 73 rfl
            have t843 := g837 0 69 rfl
            have t844 := g837 0 6 rfl
            have t845 := g837 0 59 rfl
            have t846 := g837 0 118 rfl
            have t847 := g837 0 119 rfl
            have t848 := g837 0 3 rfl
            have t849 := g837 19 (Int.toNat ((I 0 6))) rfl
            have f850 := (gr_b_0_71 hI838)
            have f851 := (gr_b_0_72 hI838)
            have f852 := (gr_b_0_73 hI838)
            have f853 := (gr_b_0_69 hI838)
            have f854 := (gr_b_0_6 hI838)
            have f855 := (gr_b_0_59 hI838)
            have f856 := (gr_b_0_118 hI838)
            have f857 := (gr_b_0_119 hI838)
            have f858 := (gr_b_0_3 hI838)
            have KLN_I838 := gr_LN_fr KLN_I24 (fun k => g837 19 k rfl) (by exact gz_m 612 (by omega)) (by exact gz_m 613 (by omega))
            have KGR_I838 := gr_GR_fr KGR_I24 (fun k => g837 19 k rfl) (fun k => g837 18 k rfl) (fun k => g837 36 k rfl) (fun k => g837 41 k rfl) (fun k => g837 42 k rfl) (fun k => g837 43 k rfl) (fun k => g837 45 k rfl) (fun k => g837 46 k rfl) (fun k => g837 47 k rfl) (fun k => g837 6 k rfl) (fun k => g837 7 k rfl) (fun k => g837 8 k rfl) (g837 0 3 rfl)
            have KST_I838 := gr_ST_fr KST_I24 (fun k => g837 6 k rfl) (fun k => g837 19 k rfl) (fun k => g837 18 k rfl) (fun k => g837 41 k rfl) (fun k => g837 36 k rfl) (g837 0 3 rfl)
            have KLK_I838 := gr_LKs_fr KLK_I24 (fun k => g837 51 k rfl) (g837 0 59 rfl)
            have t859 := KLN_I838 (Int.toNat ((I 0 6))) (by exact gz_m 614 (by omega))
            have A860 := gr_ATp_F e7_26 g837 k837 rfl
            have t861 := gr_ATp_l A860
            refine gv_callV hD rfl (As := [.inl 1]) (st := []) rfl (by decide) rfl rfl (gr_lV hws rfl) (Nat.le_of_ble_eq_true rfl) (gz_Ev_mono (d := 2) (by decide) E837) ?_
            show gv_X _ _ (124, [(0, .inr (.inr (some 0))), (1, .inl (I 0 6)), (2, .inl v2_12), (3, .inl v3_12), (4, .inl v4_26)], [.inl z837], gr_sh ++ ext, gr_h I838 J839)
            have b862 : (I838 0 69 = I 0 69) ∧ (I 0 73 ≤ I838 0 73) ∧ (I 0 72 ≤ I838 0 72) ∧ (I838 0 59 - I838 0 72 ≤ I 0 59 - I 0 72) := by exact gz_m 615 (by omega)
            exact gv_zret hD rfl (by exact gz_m 616 (by omega)) ⟨I838, J839, rfl, hI838, FI838, FJ839, KLN_I838, KGR_I838, KST_I838, ⟨_, rfl, by exact gz_m 617 (by omega), by exact gz_m 618 (by omega), (gr_ATp_rr A860).1, (gr_ATp_rr A860).2.1, (gr_ATp_rr A860).2.2.1, (gr_ATp_rr A860).2.2.2.1, (gr_ATp_rr A860).2.2.2.2, b862.1, b862.2.1, b862.2.2.1, b862.2.2.2, KLK_I838, (Or.inr ⟨by exact gz_m 619 (by omega), by first | (exfalso; exact gz_m 620 (by omega)) | (rw [e8_26]; unfold gs_ln1; (repeat first | rw [if_pos (by exact gz_m 621 (by omega))] | rw [if_neg (by exact gz_m 622 (by omega))]); exact ⟨by exact gz_m 623 (by omega), by exact gz_m 624 (by omega), (fun j => ⟨((g837 19 j rfl).trans (e11_26.1 j)), ((g837 41 j rfl).trans (e11_26.2 j))⟩)⟩)⟩)⟩⟩
      · refine gv_run 4 true hD (pcₚ := 96) (lvₚ := [(0, .inr (.inr (some 0))), (1, .inl (I 0 6)), (2, .inl v2_12), (3, .inl v3_12), (4, .inl v4_26)]) (stₚ := [.inl (-1), .inl v4_26, .inr (.inr (some 74))]) (hₚ := gr_h I24 J25) (C := ((((True ∧ True) ∧ True) ∧ True) ∧ True)) rfl ⟨⟨⟨⟨trivial, trivial⟩, trivial⟩, trivial⟩, trivial⟩ ?_
        refine gv_run 1 true hD (pcₚ := 97) (lvₚ := [(0, .inr (.inr (some 0))), (1, .inl (I 0 6)), (2, .inl v2_12), (3, .inl v3_12), (4, .inl v4_26)]) (stₚ := []) (hₚ := gz_up (gr_h I24 J25) 74 (Int.toNat v4_26) (.inl (-1))) (C := (True ∧ (0 ≤ v4_26 ∧ v4_26 < ((4 : Nat) : Int)))) rfl ⟨trivial, ⟨by exact gz_m 625 (by omega), by exact gz_m 626 (by omega)⟩⟩ ?_
        refine gr_st hI24 FI24 rfl rfl ⟨⟨by show (-1) ≤ _; exact gz_m 627 (by omega), by show _ ≤ 1000; exact gz_m 628 (by omega)⟩, trivial⟩ (fun I863 hI863 FI863 q864 p864 => ?_)
        have t865 := p864 0 71 (fun q => absurd q.1 (by first | exact gz_ne rfl | decide))
        have t866 := p864 0 72 (fun q => absurd q.1 (by first | exact gz_ne rfl | decide))
        have t867 := p864 0 73 (fun q => absurd q.1 (by first | exact gz_ne rfl | decide))
        have t868 := p864 0 69 (fun q => absurd q.1 (by first | exact gz_ne rfl | decide))
        have t869 := p864 0 6 (fun q => absurd q.1 (by first | exact gz_ne rfl | decide))
        have t870 := p864 0 59 (fun q => absurd q.1 (by first | exact gz_ne rfl | decide))
        have t871 := p864 0 118 (fun q => absurd q.1 (by first | exact gz_ne rfl | decide))
        have t872 := p864 0 119 (fun q => absurd q.1 (by first | exact gz_ne rfl | decide))
        have t873 := p864 0 3 (fun q => absurd q.1 (by first | exact gz_ne rfl | decide))
        have t874 := p864 19 (Int.toNat ((I 0 6))) (fun q => absurd q.1 (by first | exact gz_ne rfl | decide))
        have f875 := (gr_b_0_71 hI863)
        have f876 := (gr_b_0_72 hI863)
        have f877 := (gr_b_0_73 hI863)
        have f878 := (gr_b_0_69 hI863)
        have f879 := (gr_b_0_6 hI863)
        have f880 := (gr_b_0_59 hI863)
        have f881 := (gr_b_0_118 hI863)
        have f882 := (gr_b_0_119 hI863)
        have f883 := (gr_b_0_3 hI863)
        have KLN_I863 := gr_LN_fr KLN_I24 (fun k => p864 19 k (fun q => absurd q.1 (by first | exact gz_ne rfl | decide))) (by exact gz_m 629 (by omega)) (by exact gz_m 630 (by omega))
        have KGR_I863 := gr_GR_fr KGR_I24 (fun k => p864 19 k (fun q => absurd q.1 (by first | exact gz_ne rfl | decide))) (fun k => p864 18 k (fun q => absurd q.1 (by first | exact gz_ne rfl | decide))) (fun k => p864 36 k (fun q => absurd q.1 (by first | exact gz_ne rfl | decide))) (fun k => p864 41 k (fun q => absurd q.1 (by first | exact gz_ne rfl | decide))) (fun k => p864 42 k (fun q => absurd q.1 (by first | exact gz_ne rfl | decide))) (fun k => p864 43 k (fun q => absurd q.1 (by first | exact gz_ne rfl | decide))) (fun k => p864 45 k (fun q => absurd q.1 (by first | exact gz_ne rfl | decide))) (fun k => p864 46 k (fun q => absurd q.1 (by first | exact gz_ne rfl | decide))) (fun k => p864 47 k (fun q => absurd q.1 (by first | exact gz_ne rfl | decide))) (fun k => p864 6 k (fun q => absurd q.1 (by first | exact gz_ne rfl | decide))) (fun k => p864 7 k (fun q => absurd q.1 (by first | exact gz_ne rfl | decide))) (fun k => p864 8 k (fun q => absurd q.1 (by first | exact gz_ne rfl | decide))) (p864 0 3 (fun q => absurd q.1 (by first | exact gz_ne rfl | decide)))
        have KST_I863 := gr_ST_fr KST_I24 (fun k => p864 6 k (fun q => absurd q.1 (by first | exact gz_ne rfl | decide))) (fun k => p864 19 k (fun q => absurd q.1 (by first | exact gz_ne rfl | decide))) (fun k => p864 18 k (fun q => absurd q.1 (by first | exact gz_ne rfl | decide))) (fun k => p864 41 k (fun q => absurd q.1 (by first | exact gz_ne rfl | decide))) (fun k => p864 36 k (fun q => absurd q.1 (by first | exact gz_ne rfl | decide))) (p864 0 3 (fun q => absurd q.1 (by first | exact gz_ne rfl | decide)))
        have KLK_I863 := gr_LKs_fr KLK_I24 (fun k => p864 51 k (fun q => absurd q.1 (by first | exact gz_ne rfl | decide))) (p864 0 59 (fun q => absurd q.1 (by first | exact gz_ne rfl | decide)))
        have t884 := KLN_I863 (Int.toNat ((I 0 6))) (by exact gz_m 631 (by omega))
        have A885 := gr_ATp_sr e7_26 p864 rfl
        refine gv_run 2 true hD (pcₚ := 83) (lvₚ := [(4, .inl (v4_26 + 1)), (0, .inr (.inr (some 0))), (1, .inl (I 0 6)), (2, .inl v2_12), (3, .inl v3_12)]) (stₚ := []) (hₚ := gr_h I863 J25) (C := ((True ∧ True) ∧ True)) rfl ⟨⟨trivial, trivial⟩, trivial⟩ ?_
        refine gv_pick [1, 2, 3, 4, 0] rfl ?_
        exact ih83 I863 J25 (v4_26 + 1) p_26 (by exact gz_m 632 (by omega)) hI863 FI863 FJ25 KLN_I863 KGR_I863 KST_I863 KLK_I863 (by exact gz_m 633 (by omega)) (gr_A1_nx e5_26 (by exact gz_m 634 (by omega)) p864 q864) A885 e8_26 e9_26 (fun j hj => by by_cases c : j = Int.toNat v4_26; (rw [show j = (Int.toNat v4_26) from by exact gz_m 635 (by omega), q864]); exact (p864 74 j (fun h => c (by have h9 := h.2; exact gz_m 636 (by omega)))).trans (e10_26 j (by exact gz_m 637 (by omega)))) ⟨(fun k => ((p864 19 k (fun q => absurd q.1 (by first | exact gz_ne rfl | decide))).trans (e11_26.1 k))), (fun k => ((p864 41 k (fun q => absurd q.1 (by first | exact gz_ne rfl | decide))).trans (e11_26.2 k)))⟩
  refine gv_run 3 true hD (pcₚ := 75) (lvₚ := [(0, .inr (.inr (some 0))), (1, .inl (I 0 6)), (2, .inl v2_12), (3, .inl v3_12)]) (stₚ := []) (hₚ := gz_up (gr_h I10 J11) 0 118 (.inl 0)) (C := (((True ∧ True) ∧ True) ∧ True)) rfl ⟨⟨⟨trivial, trivial⟩, trivial⟩, trivial⟩ ?_
  refine gr_st hI10 FI10 rfl rfl ⟨⟨by show 0 ≤ _; exact gz_m 638 (by omega), by show _ ≤ 6; exact gz_m 639 (by omega)⟩, trivial⟩ (fun I886 hI886 FI886 q887 p887 => ?_)
  have t888 := p887 0 71 (by decide)
  have t889 := p887 0 72 (by decide)
  have t890 := p887 0 73 (by decide)
  have t891 := p887 0 69 (by decide)
  have t892 := p887 0 6 (by decide)
  have t893 := p887 0 59 (by decide)
  have t894 := p887 0 119 (by decide)
  have t895 := p887 0 3 (by decide)
  have t896 := p887 19 (Int.toNat ((I 0 6))) (fun q => absurd q.1 (by first | exact gz_ne rfl | decide))
  have f897 := (gr_b_0_71 hI886)
  have f898 := (gr_b_0_72 hI886)
  have f899 := (gr_b_0_73 hI886)
  have f900 := (gr_b_0_69 hI886)
  have f901 := (gr_b_0_6 hI886)
  have f902 := (gr_b_0_59 hI886)
  have f903 := (gr_b_0_118 hI886)
  have f904 := (gr_b_0_119 hI886)
  have f905 := (gr_b_0_3 hI886)
  have KLN_I886 := gr_LN_fr KLN_I10 (fun k => p887 19 k (fun q => absurd q.1 (by first | exact gz_ne rfl | decide))) (by exact gz_m 640 (by omega)) (by exact gz_m 641 (by omega))
  have KGR_I886 := gr_GR_fr KGR_I10 (fun k => p887 19 k (fun q => absurd q.1 (by first | exact gz_ne rfl | decide))) (fun k => p887 18 k (fun q => absurd q.1 (by first | exact gz_ne rfl | decide))) (fun k => p887 36 k (fun q => absurd q.1 (by first | exact gz_ne rfl | decide))) (fun k => p887 41 k (fun q => absurd q.1 (by first | exact gz_ne rfl | decide))) (fun k => p887 42 k (fun q => absurd q.1 (by first | exact gz_ne rfl | decide))) (fun k => p887 43 k (fun q => absurd q.1 (by first | exact gz_ne rfl | decide))) (fun k => p887 45 k (fun q => absurd q.1 (by first | exact gz_ne rfl | decide))) (fun k => p887 46 k (fun q => absurd q.1 (by first | exact gz_ne rfl | decide))) (fun k => p887 47 k (fun q => absurd q.1 (by first | exact gz_ne rfl | decide))) (fun k => p887 6 k (fun q => absurd q.1 (by first | exact gz_ne rfl | decide))) (fun k => p887 7 k (fun q => absurd q.1 (by first | exact gz_ne rfl | decide))) (fun k => p887 8 k (fun q => absurd q.1 (by first | exact gz_ne rfl | decide))) (p887 0 3 (by decide))
  have KST_I886 := gr_ST_fr KST_I10 (fun k => p887 6 k (fun q => absurd q.1 (by first | exact gz_ne rfl | decide))) (fun k => p887 19 k (fun q => absurd q.1 (by first | exact gz_ne rfl | decide))) (fun k => p887 18 k (fun q => absurd q.1 (by first | exact gz_ne rfl | decide))) (fun k => p887 41 k (fun q => absurd q.1 (by first | exact gz_ne rfl | decide))) (fun k => p887 36 k (fun q => absurd q.1 (by first | exact gz_ne rfl | decide))) (p887 0 3 (by decide))
  have KLK_I886 := gr_LKs_fr KLK_I10 (fun k => p887 51 k (fun q => absurd q.1 (by first | exact gz_ne rfl | decide))) (p887 0 59 (by decide))
  have t906 := KLN_I886 (Int.toNat ((I 0 6))) (by exact gz_m 642 (by omega))
  have A907 := gr_ATp_sf e4_12 p887 rfl
  refine gv_run 3 true hD (pcₚ := 80) (lvₚ := [(0, .inr (.inr (some 0))), (1, .inl (I 0 6)), (2, .inl v2_12), (3, .inl v3_12)]) (stₚ := []) (hₚ := gz_up (gr_h I886 J11) 0 119 (.inl 0)) (C := (((True ∧ True) ∧ True) ∧ True)) rfl ⟨⟨⟨trivial, trivial⟩, trivial⟩, trivial⟩ ?_
  refine gr_st hI886 FI886 rfl rfl ⟨⟨by show 0 ≤ _; exact gz_m 643 (by omega), by show _ ≤ 6; exact gz_m 644 (by omega)⟩, trivial⟩ (fun I908 hI908 FI908 q909 p909 => ?_)
  have t910 := p909 0 71 (by decide)
  have t911 := p909 0 72 (by decide)
  have t912 := p909 0 73 (by decide)
  have t913 := p909 0 69 (by decide)
  have t914 := p909 0 6 (by decide)
  have t915 := p909 0 59 (by decide)
  have t916 := p909 0 118 (by decide)
  have t917 := p909 0 3 (by decide)
  have t918 := p909 19 (Int.toNat ((I 0 6))) (fun q => absurd q.1 (by first | exact gz_ne rfl | decide))
  have f919 := (gr_b_0_71 hI908)
  have f920 := (gr_b_0_72 hI908)
  have f921 := (gr_b_0_73 hI908)
  have f922 := (gr_b_0_69 hI908)
  have f923 := (gr_b_0_6 hI908)
  have f924 := (gr_b_0_59 hI908)
  have f925 := (gr_b_0_118 hI908)
  have f926 := (gr_b_0_119 hI908)
  have f927 := (gr_b_0_3 hI908)
  have KLN_I908 := gr_LN_fr KLN_I886 (fun k => p909 19 k (fun q => absurd q.1 (by first | exact gz_ne rfl | decide))) (by exact gz_m 645 (by omega)) (by exact gz_m 646 (by omega))
  have KGR_I908 := gr_GR_fr KGR_I886 (fun k => p909 19 k (fun q => absurd q.1 (by first | exact gz_ne rfl | decide))) (fun k => p909 18 k (fun q => absurd q.1 (by first | exact gz_ne rfl | decide))) (fun k => p909 36 k (fun q => absurd q.1 (by first | exact gz_ne rfl | decide))) (fun k => p909 41 k (fun q => absurd q.1 (by first | exact gz_ne rfl | decide))) (fun k => p909 42 k (fun q => absurd q.1 (by first | exact gz_ne rfl | decide))) (fun k => p909 43 k (fun q => absurd q.1 (by first | exact gz_ne rfl | decide))) (fun k => p909 45 k (fun q => absurd q.1 (by first | exact gz_ne rfl | decide))) (fun k => p909 46 k (fun q => absurd q.1 (by first | exact gz_ne rfl | decide))) (fun k => p909 47 k (fun q => absurd q.1 (by first | exact gz_ne rfl | decide))) (fun k => p909 6 k (fun q => absurd q.1 (by first | exact gz_ne rfl | decide))) (fun k => p909 7 k (fun q => absurd q.1 (by first | exact gz_ne rfl | decide))) (fun k => p909 8 k (fun q => absurd q.1 (by first | exact gz_ne rfl | decide))) (p909 0 3 (by decide))
  have KST_I908 := gr_ST_fr KST_I886 (fun k => p909 6 k (fun q => absurd q.1 (by first | exact gz_ne rfl | decide))) (fun k => p909 19 k (fun q => absurd q.1 (by first | exact gz_ne rfl | decide))) (fun k => p909 18 k (fun q => absurd q.1 (by first | exact gz_ne rfl | decide))) (fun k => p909 41 k (fun q => absurd q.1 (by first | exact gz_ne rfl | decide))) (fun k => p909 36 k (fun q => absurd q.1 (by first | exact gz_ne rfl | decide))) (p909 0 3 (by decide))
  have KLK_I908 := gr_LKs_fr KLK_I886 (fun k => p909 51 k (fun q => absurd q.1 (by first | exact gz_ne rfl | decide))) (p909 0 59 (by decide))
  have t928 := KLN_I908 (Int.toNat ((I 0 6))) (by exact gz_m 647 (by omega))
  have A929 := gr_ATp_sf A907 p909 rfl
  refine gv_run 2 true hD (pcₚ := 83) (lvₚ := [(4, .inl 0), (0, .inr (.inr (some 0))), (1, .inl (I 0 6)), (2, .inl v2_12), (3, .inl v3_12)]) (stₚ := []) (hₚ := gr_h I908 J11) (C := ((True ∧ True) ∧ True)) rfl ⟨⟨trivial, trivial⟩, trivial⟩ ?_
  refine gv_pick [1, 2, 3, 4, 0] rfl ?_
  exact L83 _ I908 J11 0 p_12 (Nat.lt_succ_self _) hI908 FI908 FJ11 KLN_I908 KGR_I908 KST_I908 KLK_I908 (by exact gz_m 648 (by omega)) (fun j hj => absurd hj (by exact gz_m 649 (by omega))) A929 e5_12 e6_12 (fun j hj => absurd hj (by exact gz_m 650 (by omega))) ⟨(fun k => (((p909 19 k (fun q => absurd q.1 (by first | exact gz_ne rfl | decide))).trans (p887 19 k (fun q => absurd q.1 (by first | exact gz_ne rfl | decide)))).trans (e8_12.1 k))), (fun k => (((p909 41 k (fun q => absurd q.1 (by first | exact gz_ne rfl | decide))).trans (p887 41 k (fun q => absurd q.1 (by first | exact gz_ne rfl | decide)))).trans (e8_12.2 k)))⟩
set_option maxHeartbeats 32000000 in
set_option maxRecDepth 100000 in
theorem r_lin_p {ws0 : List Cond} {tb : String → gz_T} (hws : ∀ w ∈ gr_ws, w ∈ ws0) (htb : tb RX13 = gr_T) (ext : gz_Sh) (B : Int) (hB : B ≤ 1500) (I9 : gr_I) (β : Int → Int) (N9 : Int) (p9 : Int) (I : gr_I) (J : gr_J) (hI : gr_Inv I)   (x0 : I 0 71 = 5 ∨ I 0 73 ≤ I 0 69) (x1 : I 0 72 ≤ I 0 69) (x2 : I 0 71 = 0 ∨ (I 0 72 < I 0 73 ∧ I 0 72 < I 0 69)) (x3 : I 0 71 = 3 → 2 ≤ I 0 73 - I 0 72 ∧ I 0 73 - I 0 72 ≤ 14) (x4 : I 0 72 ≤ I 0 73) (x5 : 0 ≤ I 0 6) (x6 : I 0 59 + I 0 69 - I 0 72 ≤ 1900) (x7 : gr_ATp β N9 p9 I J) (x8 : 0 ≤ p9) (x9 : gr_KW J) (KLN_I : gr_LN B I) (KGR_I : gr_GR I) (KST_I : gr_ST I9 I) : ∃ r hₚ, gz_Ev ws0 tb 13 (yX13_lin, cX13_lin, 7, (some .boolean)) [.inr (.inr (some 0))] (gr_sh ++ ext) (gr_h I J) r (gr_sh ++ ext) hₚ 0 0 ∧ (∃ (Iₚ : gr_I) (Jₚ : gr_J), hₚ = gr_h Iₚ Jₚ ∧ gr_Inv Iₚ ∧ gr_fr [59, 71, 72, 73, 74, 75, 76, 77, 101, 106, 118, 119, 120] [19, 41, 42, 43, 44, 45, 46, 47, 48, 49, 50, 51, 68, 69, 70, 71, 72, 73, 74] I Iₚ ∧ gr_fj [59, 71, 72, 73, 74, 75, 76, 77, 101, 106, 118, 119, 120] [19, 41, 42, 43, 44, 45, 46, 47, 48, 49, 50, 51, 68, 69, 70, 71, 72, 73, 74] J Jₚ ∧ gr_LN B Iₚ ∧ gr_GR Iₚ ∧ gr_ST I9 Iₚ ∧ (∃ z : Int, r = some (.inl z) ∧ 0 ≤ z ∧ z ≤ 1 ∧ (Iₚ 0 71 = 5 ∨ Iₚ 0 73 ≤ Iₚ 0 69) ∧ (Iₚ 0 72 ≤ Iₚ 0 69) ∧ (Iₚ 0 71 = 0 ∨ (Iₚ 0 72 < Iₚ 0 73 ∧ Iₚ 0 72 < Iₚ 0 69)) ∧ (Iₚ 0 71 = 3 → 2 ≤ Iₚ 0 73 - Iₚ 0 72 ∧ Iₚ 0 73 - Iₚ 0 72 ≤ 14) ∧ (Iₚ 0 72 ≤ Iₚ 0 73) ∧ (Iₚ 0 69 = I 0 69) ∧ (I 0 73 ≤ Iₚ 0 73) ∧ (I 0 72 ≤ Iₚ 0 72) ∧ (Iₚ 0 59 - Iₚ 0 72 ≤ I 0 59 - I 0 72) ∧ (gr_LKs I Iₚ) ∧ (gs_Or z (0 ≤ (gs_lin β N9 I J (I 0 78) p9) ∧ gr_ATp β N9 (gs_lin β N9 I J (I 0 78) p9) Iₚ Jₚ ∧ gs_Uln (gs_lk I J 3 3 (gs_rn β N9 p9)) I Iₚ) ((gs_lin β N9 I J (I 0 78) p9) < 0 ∧ Iₚ 0 77 = -1 - (gs_lin β N9 I J (I 0 78) p9) ∧ gs_Sln I Iₚ)))) := by
  have FI : gr_fr [59, 71, 72, 73, 74, 75, 76, 77, 101, 106, 118, 119, 120] [19, 41, 42, 43, 44, 45, 46, 47, 48, 49, 50, 51, 68, 69, 70, 71, 72, 73, 74] I I := fun _ _ _ => rfl
  have FJ : gr_fj [59, 71, 72, 73, 74, 75, 76, 77, 101, 106, 118, 119, 120] [19, 41, 42, 43, 44, 45, 46, 47, 48, 49, 50, 51, 68, 69, 70, 71, 72, 73, 74] J J := fun _ _ _ => rfl
  have hD : gv_D (gr_E ws0 tb 12 (yX13_lin, cX13_lin, 7, (some .boolean)) kX13_lin) := gq_of oX13_lin
  refine gr_ev (d := 12) (l := kX13_lin) (Po := fun r hₚ => (∃ (Iₚ : gr_I) (Jₚ : gr_J), hₚ = gr_h Iₚ Jₚ ∧ gr_Inv Iₚ ∧ gr_fr [59, 71, 72, 73, 74, 75, 76, 77, 101, 106, 118, 119, 120] [19, 41, 42, 43, 44, 45, 46, 47, 48, 49, 50, 51, 68, 69, 70, 71, 72, 73, 74] I Iₚ ∧ gr_fj [59, 71, 72, 73, 74, 75, 76, 77, 101, 106, 118, 119, 120] [19, 41, 42, 43, 44, 45, 46, 47, 48, 49, 50, 51, 68, 69, 70, 71, 72, 73, 74] J Jₚ ∧ gr_LN B Iₚ ∧ gr_GR Iₚ ∧ gr_ST I9 Iₚ ∧ (∃ z : Int, r = some (.inl z) ∧ 0 ≤ z ∧ z ≤ 1 ∧ (Iₚ 0 71 = 5 ∨ Iₚ 0 73 ≤ Iₚ 0 69) ∧ (Iₚ 0 72 ≤ Iₚ 0 69) ∧ (Iₚ 0 71 = 0 ∨ (Iₚ 0 72 < Iₚ 0 73 ∧ Iₚ 0 72 < Iₚ 0 69)) ∧ (Iₚ 0 71 = 3 → 2 ≤ Iₚ 0 73 - Iₚ 0 72 ∧ Iₚ 0 73 - Iₚ 0 72 ≤ 14) ∧ (Iₚ 0 72 ≤ Iₚ 0 73) ∧ (Iₚ 0 69 = I 0 69) ∧ (I 0 73 ≤ Iₚ 0 73) ∧ (I 0 72 ≤ Iₚ 0 72) ∧ (Iₚ 0 59 - Iₚ 0 72 ≤ I 0 59 - I 0 72) ∧ (gr_LKs I Iₚ) ∧ (gs_Or z (0 ≤ (gs_lin β N9 I J (I 0 78) p9) ∧ gr_ATp β N9 (gs_lin β N9 I J (I 0 78) p9) Iₚ Jₚ ∧ gs_Uln (gs_lk I J 3 3 (gs_rn β N9 p9)) I Iₚ) ((gs_lin β N9 I J (I 0 78) p9) < 0 ∧ Iₚ 0 77 = -1 - (gs_lin β N9 I J (I 0 78) p9) ∧ gs_Sln I Iₚ))))) htb rfl (Nat.le_of_ble_eq_true rfl) ?_
  have tAT := gr_ATp_l x7
  clear x0 x2 x3
  have KW := x9
  have f1 := (gr_b_0_71 hI)
  have f2 := (gr_b_0_72 hI)
  have f3 := (gr_b_0_73 hI)
  have f4 := (gr_b_0_69 hI)
  have f5 := (gr_b_0_6 hI)
  have f6 := (gr_b_0_59 hI)
  have f7 := (gr_b_0_118 hI)
  have f8 := (gr_b_0_119 hI)
  have f9 := (gr_b_0_3 hI)
  have KLK_I : gr_LKs I I := gr_LKs_rf
  have L70 : ∀ (I10 : gr_I) (J11 : gr_J) (v1_12 : Int) (v2_12 : Int) (v3_12 : Int) (p_12 : Int), gr_Inv I10 → gr_fr [59, 71, 72, 73, 74, 75, 76, 77, 101, 106, 118, 119, 120] [19, 41, 42, 43, 44, 45, 46, 47, 48, 49, 50, 51, 68, 69, 70, 71, 72, 73, 74] I I10 → gr_fj [59, 71, 72, 73, 74, 75, 76, 77, 101, 106, 118, 119, 120] [19, 41, 42, 43, 44, 45, 46, 47, 48, 49, 50, 51, 68, 69, 70, 71, 72, 73, 74] J J11 → gr_LN B I10 → gr_GR I10 → gr_ST I9 I10 → gr_LKs I I10 → ((0 ≤ v1_12 ∧ v1_12 ≤ 7) ∧ (0 ≤ v2_12 ∧ v2_12 ≤ 1000) ∧ (0 ≤ v3_12 ∧ v3_12 ≤ 95) ∧ (I 0 72 + 2 ≤ I10 0 72) ∧ (I10 19 (Int.toNat v1_12) = I 19 (Int.toNat v1_12)) ∧ (v3_12 < I10 0 3) ∧ (0 ≤ p_12) ∧ (I10 0 72 ≤ I10 0 69) ∧ (I10 0 72 ≤ I10 0 73) ∧ (I10 0 69 = I 0 69) ∧ (I 0 73 ≤ I10 0 73) ∧ (I 0 72 ≤ I10 0 72) ∧ (I10 0 6 = I 0 6) ∧ (I10 0 59 - I10 0 72 ≤ I 0 59 - I 0 72)) → (gr_ATp β N9 p_12 I10 J11) → ((gs_lin β N9 I J (I 0 78) p9) = gs_ln1 β N9 I J (I 0 78) v3_12 v2_12 p_12) → (v3_12 = gs_lk I J 3 3 (gs_rn β N9 p9)) → (v1_12 = I 0 6) → ((∀ k, I10 19 k = I 19 k) ∧ (∀ k, I10 41 k = I 41 k)) → gv_X (gr_E ws0 tb 12 (yX13_lin, cX13_lin, 7, (some .boolean)) kX13_lin) (gv_Q cX13_lin (some .boolean) (gr_sh ++ ext) (fun r hₚ => (∃ (Iₚ : gr_I) (Jₚ : gr_J), hₚ = gr_h Iₚ Jₚ ∧ gr_Inv Iₚ ∧ gr_fr [59, 71, 72, 73, 74, 75, 76, 77, 101, 106, 118, 119, 120] [19, 41, 42, 43, 44, 45, 46, 47, 48, 49, 50, 51, 68, 69, 70, 71, 72, 73, 74] I Iₚ ∧ gr_fj [59, 71, 72, 73, 74, 75, 76, 77, 101, 106, 118, 119, 120] [19, 41, 42, 43, 44, 45, 46, 47, 48, 49, 50, 51, 68, 69, 70, 71, 72, 73, 74] J Jₚ ∧ gr_LN B Iₚ ∧ gr_GR Iₚ ∧ gr_ST I9 Iₚ ∧ (∃ z : Int, r = some (.inl z) ∧ 0 ≤ z ∧ z ≤ 1 ∧ (Iₚ 0 71 = 5 ∨ Iₚ 0 73 ≤ Iₚ 0 69) ∧ (Iₚ 0 72 ≤ Iₚ 0 69) ∧ (Iₚ 0 71 = 0 ∨ (Iₚ 0 72 < Iₚ 0 73 ∧ Iₚ 0 72 < Iₚ 0 69)) ∧ (Iₚ 0 71 = 3 → 2 ≤ Iₚ 0 73 - Iₚ 0 72 ∧ Iₚ 0 73 - Iₚ 0 72 ≤ 14) ∧ (Iₚ 0 72 ≤ Iₚ 0 73) ∧ (Iₚ 0 69 = I 0 69) ∧ (I 0 73 ≤ Iₚ 0 73) ∧ (I 0 72 ≤ Iₚ 0 72) ∧ (Iₚ 0 59 - Iₚ 0 72 ≤ I 0 59 - I 0 72) ∧ (gr_LKs I Iₚ) ∧ (gs_Or z (0 ≤ (gs_lin β N9 I J (I 0 78) p9) ∧ gr_ATp β N9 (gs_lin β N9 I J (I 0 78) p9) Iₚ Jₚ ∧ gs_Uln (gs_lk I J 3 3 (gs_rn β N9 p9)) I Iₚ) ((gs_lin β N9 I J (I 0 78) p9) < 0 ∧ Iₚ 0 77 = -1 - (gs_lin β N9 I J (I 0 78) p9) ∧ gs_Sln I Iₚ)))))) (70, [(0, .inr (.inr (some 0))), (1, .inl v1_12), (2, .inl v2_12), (3, .inl v3_12)], [], gr_sh ++ ext, gr_h I10 J11) := r_lin_p_L70 (ws0 := ws0) (tb := tb) hws htb ext B hB I9 β N9 p9 I J hI x1 x4 x5 x6 x7 x8 x9 KLN_I KGR_I KST_I
  have f930 := (gr_b_0_6 hI)
  refine gv_run 4 true hD (pcₚ := 6) (lvₚ := [(1, .inl (I 0 6)), (0, .inr (.inr (some 0)))]) (stₚ := [.inr (.inr (some 0))]) (hₚ := gr_h I J) (C := ((((True ∧ True) ∧ True) ∧ True) ∧ True)) rfl ⟨⟨⟨⟨trivial, trivial⟩, trivial⟩, trivial⟩, trivial⟩ ?_
  obtain ⟨r931, h931, E931, P931⟩ := r_name_p (ws0 := ws0) (tb := tb) hws htb ext β N9 p9 I J hI   x7 (by exact gz_m 651 (by omega))
  obtain ⟨I932, J933, rfl, hI932, g931, k931, ⟨z931, rfl, q931⟩⟩ := P931
  have FI932 := gr_frt FI g931 rfl rfl
  have FJ933 := gr_fjt FJ k931 rfl rfl
  have t934 := g931 0 71 rfl
  have t935 := g931 0 72 rfl
  have t936 := g931 0 73 rfl
  have t937 := g931 0 69 rfl
  have t938 := g931 0 6 rfl
  have t939 := g931 0 59 rfl
  have t940 := g931 0 118 rfl
  have t941 := g931 0 119 rfl
  have t942 := g931 0 3 rfl
  have t943 := g931 19 (Int.toNat ((I 0 6))) rfl
  have f944 := (gr_b_0_71 hI932)
  have f945 := (gr_b_0_72 hI932)
  have f946 := (gr_b_0_73 hI932)
  have f947 := (gr_b_0_69 hI932)
  have f948 := (gr_b_0_6 hI932)
  have f949 := (gr_b_0_59 hI932)
  have f950 := (gr_b_0_118 hI932)
  have f951 := (gr_b_0_119 hI932)
  have f952 := (gr_b_0_3 hI932)
  have KLN_I932 := gr_LN_fr KLN_I (fun k => g931 19 k rfl) (by exact gz_m 652 (by omega)) (by exact gz_m 653 (by omega))
  have KGR_I932 := gr_GR_fr KGR_I (fun k => g931 19 k rfl) (fun k => g931 18 k rfl) (fun k => g931 36 k rfl) (fun k => g931 41 k rfl) (fun k => g931 42 k rfl) (fun k => g931 43 k rfl) (fun k => g931 45 k rfl) (fun k => g931 46 k rfl) (fun k => g931 47 k rfl) (fun k => g931 6 k rfl) (fun k => g931 7 k rfl) (fun k => g931 8 k rfl) (g931 0 3 rfl)
  have KST_I932 := gr_ST_fr KST_I (fun k => g931 6 k rfl) (fun k => g931 19 k rfl) (fun k => g931 18 k rfl) (fun k => g931 41 k rfl) (fun k => g931 36 k rfl) (g931 0 3 rfl)
  have KLK_I932 := gr_LKs_fr KLK_I (fun k => g931 51 k rfl) (g931 0 59 rfl)
  have t953 := KLN_I932 (Int.toNat ((I 0 6))) (by exact gz_m 654 (by omega))
  have V931 := gs_or_mk q931.2.2.2
  have A954 := gr_ATp_F x7 g931 k931 rfl
  have t955 := gr_ATp_l A954
  obtain ⟨_, _, o931, -⟩ := q931
  refine gv_callV hD rfl (As := []) (st := []) rfl (by decide) rfl rfl (gr_lV hws rfl) (Nat.le_of_ble_eq_true rfl) (gz_Ev_mono (d := 3) (by decide) E931) ?_
  show gv_X _ _ (9, [(1, .inl (I 0 6)), (0, .inr (.inr (some 0)))], [.inl z931], gr_sh ++ ext, gr_h I932 J933)
  refine gv_if_ne (t := 14) hD rfl rfl ⟨by exact gz_m 655 (by omega), by exact gz_m 656 (by omega)⟩ (fun c956 => ?_) (fun c956 => ?_)
  · have u957 := gs_or1 V931 (by exact gz_m 657 (by omega))
    have t958 := o931.resolve_left (by exact gz_m 658 (by omega))
    have t959 := (gr_ATp_rr A954).2.2.1.resolve_left (by exact gz_m 659 (by omega))
    clear o931 V931
    have f960 := (gr_b_0_72 hI932)
    refine gv_run 7 true hD (pcₚ := 25) (lvₚ := [(2, .inl (I932 0 72)), (1, .inl (I 0 6)), (0, .inr (.inr (some 0)))]) (stₚ := [.inr (.inr (some 0)), .inl 0, .inr (.inr (some 3))]) (hₚ := gr_h I932 J933) (C := (((((((True ∧ True) ∧ True) ∧ True) ∧ True) ∧ True) ∧ True) ∧ True)) rfl ⟨⟨⟨⟨⟨⟨⟨trivial, trivial⟩, trivial⟩, trivial⟩, trivial⟩, trivial⟩, trivial⟩, trivial⟩ ?_
    have f961 := (gr_b_0_3 hI932)
    refine gv_run 3 true hD (pcₚ := 32) (lvₚ := [(2, .inl (I932 0 72)), (1, .inl (I 0 6)), (0, .inr (.inr (some 0)))]) (stₚ := [.inr (.inl (J933 0 75)), .inl (I932 0 3), .inl 0, .inr (.inr (some 3))]) (hₚ := gr_h I932 J933) (C := (((True ∧ True) ∧ True) ∧ True)) rfl ⟨⟨⟨trivial, trivial⟩, trivial⟩, trivial⟩ ?_
    obtain ⟨r962, h962, E962, P962⟩ := r_find_3_p (ws0 := ws0) (tb := tb) hws htb ext I932 J933 hI932 0 (I932 0 3) (J933 0 75) ⟨by exact gz_m 660 (by omega), by exact gz_m 661 (by omega)⟩ ⟨by exact gz_m 662 (by omega), by exact gz_m 663 (by omega)⟩ (by exact gz_m 664 (by omega))
    obtain ⟨rfl, ⟨z962, rfl, q962⟩⟩ := P962
    have t963 := q962.2.2.2.trans (gs_lk_eq (I := I) (J := J) (w := gs_rn β N9 p9) (fun k => (FJ933 3 k rfl)) (FI932 0 3 rfl) (gr_ATp_w A954))
    refine gv_callS hD rfl (As := [.inr (.inr (some 3)), .inl 0, .inl (I932 0 3), .inr (.inl (J933 0 75))]) (st := []) rfl (gr_lS hws rfl) (Nat.le_of_ble_eq_true rfl) (gz_Ev_mono (d := 1) (by decide) E962) ?_
    show gv_X _ _ (35, [(2, .inl (I932 0 72)), (1, .inl (I 0 6)), (0, .inr (.inr (some 0)))], [.inl z962], gr_sh ++ ext, gr_h I932 J933)
    refine gv_run 2 true hD (pcₚ := 37) (lvₚ := [(3, .inl z962), (2, .inl (I932 0 72)), (1, .inl (I 0 6)), (0, .inr (.inr (some 0)))]) (stₚ := [.inl z962]) (hₚ := gr_h I932 J933) (C := ((True ∧ True) ∧ True)) rfl ⟨⟨trivial, trivial⟩, trivial⟩ ?_
    refine gv_if_lt (t := 49) hD rfl rfl ⟨by exact gz_m 665 (by omega), by exact gz_m 666 (by omega)⟩ (fun c964 => ?_) (fun c964 => ?_)
    · refine gv_run 2 true hD (pcₚ := 51) (lvₚ := [(3, .inl z962), (2, .inl (I932 0 72)), (1, .inl (I 0 6)), (0, .inr (.inr (some 0)))]) (stₚ := [.inl 5, .inr (.inr (some 0))]) (hₚ := gr_h I932 J933) (C := ((True ∧ True) ∧ True)) rfl ⟨⟨trivial, trivial⟩, trivial⟩ ?_
      obtain ⟨r965, h965, E965, P965⟩ := r_no__p (ws0 := ws0) (tb := tb) hws htb ext β N9 p9 I932 J933 hI932 5 ⟨by exact gz_m 667 (by omega), by exact gz_m 668 (by omega)⟩ A954 (by exact gz_m 669 (by omega))
      obtain ⟨I966, J967, rfl, hI966, g965, k965, ⟨z965, rfl, q965⟩⟩ := P965
      have FI966 := gr_frt FI932 g965 rfl rfl
      have FJ967 := gr_fjt FJ933 k965 rfl rfl
      have t968 := g965 0 71 rfl
      have t969 := g965 0 72 rfl
      have t970 := g965 0 73 rfl
      have t971 := g965 0 69 rfl
      have t972 := g965 0 6 rfl
      have t973 := g965 0 59 rfl
      have t974 := g965 0 118 rfl
      have t975 := g965 0 119 rfl
      have t976 := g965 0 3 rfl
      have t977 := g965 19 (Int.toNat ((I 0 6))) rfl
      have f978 := (gr_b_0_71 hI966)
      have f979 := (gr_b_0_72 hI966)
      have f980 := (gr_b_0_73 hI966)
      have f981 := (gr_b_0_69 hI966)
      have f982 := (gr_b_0_6 hI966)
      have f983 := (gr_b_0_59 hI966)
      have f984 := (gr_b_0_118 hI966)
      have f985 := (gr_b_0_119 hI966)
      have f986 := (gr_b_0_3 hI966)
      have KLN_I966 := gr_LN_fr KLN_I932 (fun k => g965 19 k rfl) (by exact gz_m 670 (by omega)) (by exact gz_m 671 (by omega))
      have KGR_I966 := gr_GR_fr KGR_I932 (fun k => g965 19 k rfl) (fun k => g965 18 k rfl) (fun k => g965 36 k rfl) (fun k => g965 41 k rfl) (fun k => g965 42 k rfl) (fun k => g965 43 k rfl) (fun k => g965 45 k rfl) (fun k => g965 46 k rfl) (fun k => g965 47 k rfl) (fun k => g965 6 k rfl) (fun k => g965 7 k rfl) (fun k => g965 8 k rfl) (g965 0 3 rfl)
      have KST_I966 := gr_ST_fr KST_I932 (fun k => g965 6 k rfl) (fun k => g965 19 k rfl) (fun k => g965 18 k rfl) (fun k => g965 41 k rfl) (fun k => g965 36 k rfl) (g965 0 3 rfl)
      have KLK_I966 := gr_LKs_fr KLK_I932 (fun k => g965 51 k rfl) (g965 0 59 rfl)
      have t987 := KLN_I966 (Int.toNat ((I 0 6))) (by exact gz_m 672 (by omega))
      have A988 := gr_ATp_F A954 g965 k965 rfl
      have t989 := gr_ATp_l A988
      refine gv_callV hD rfl (As := [.inl 5]) (st := []) rfl (by decide) rfl rfl (gr_lV hws rfl) (Nat.le_of_ble_eq_true rfl) (gz_Ev_mono (d := 2) (by decide) E965) ?_
      show gv_X _ _ (54, [(3, .inl z962), (2, .inl (I932 0 72)), (1, .inl (I 0 6)), (0, .inr (.inr (some 0)))], [.inl z965], gr_sh ++ ext, gr_h I966 J967)
      have b990 : (I966 0 69 = I 0 69) ∧ (I 0 73 ≤ I966 0 73) ∧ (I 0 72 ≤ I966 0 72) ∧ (I966 0 59 - I966 0 72 ≤ I 0 59 - I 0 72) := by exact gz_m 673 (by omega)
      exact gv_zret hD rfl (by exact gz_m 674 (by omega)) ⟨I966, J967, rfl, hI966, FI966, FJ967, KLN_I966, KGR_I966, KST_I966, ⟨_, rfl, by exact gz_m 675 (by omega), by exact gz_m 676 (by omega), (gr_ATp_rr A988).1, (gr_ATp_rr A988).2.1, (gr_ATp_rr A988).2.2.1, (gr_ATp_rr A988).2.2.2.1, (gr_ATp_rr A988).2.2.2.2, b990.1, b990.2.1, b990.2.2.1, b990.2.2.2, KLK_I966, (Or.inr ⟨by exact gz_m 677 (by omega), by first | (exfalso; exact gz_m 678 (by omega)) | (unfold gs_lin; rw [if_pos (by exact gz_m 679 (by omega)), show gs_lk I J 3 3 (gs_rn β N9 p9) = z962 from by exact gz_m 680 (by omega)]; unfold gs_ln0 gs_ln1; (repeat first | rw [if_pos (by exact gz_m 681 (by omega))] | rw [if_neg (by exact gz_m 682 (by omega))]); exact ⟨by exact gz_m 683 (by omega), by exact gz_m 684 (by omega), (fun j => ⟨((g965 19 j rfl).trans (g931 19 j rfl)), ((g965 41 j rfl).trans (g931 41 j rfl))⟩)⟩)⟩)⟩⟩
    · have f991 := (gr_b_6 hI932 (Int.toNat z962))
      refine gv_run 4 true hD (pcₚ := 46) (lvₚ := [(3, .inl z962), (2, .inl (I932 0 72)), (1, .inl (I 0 6)), (0, .inr (.inr (some 0)))]) (stₚ := [.inl (I932 6 (Int.toNat z962))]) (hₚ := gr_h I932 J933) (C := ((((True ∧ True) ∧ True) ∧ True) ∧ (0 ≤ z962 ∧ z962 < ((96 : Nat) : Int)))) rfl ⟨⟨⟨⟨trivial, trivial⟩, trivial⟩, trivial⟩, ⟨by exact gz_m 685 (by omega), by exact gz_m 686 (by omega)⟩⟩ ?_
      have t992 := (show I932 6 (Int.toNat z962) = I 6 (Int.toNat z962) from (FI932 6 _ rfl))
      refine gv_if_ne (t := 55) hD rfl rfl ⟨by exact gz_m 687 (by omega), by exact gz_m 688 (by omega)⟩ (fun c993 => ?_) (fun c993 => ?_)
      · refine gv_run 1 true hD (pcₚ := 56) (lvₚ := [(3, .inl z962), (2, .inl (I932 0 72)), (1, .inl (I 0 6)), (0, .inr (.inr (some 0)))]) (stₚ := [.inr (.inr (some 0))]) (hₚ := gr_h I932 J933) (C := (True ∧ True)) rfl ⟨trivial, trivial⟩ ?_
        obtain ⟨r994, h994, E994, P994⟩ := r_next_p (ws0 := ws0) (tb := tb) hws htb ext β N9 I932 J933 hI932   ((gr_ATp_rr A954).1.resolve_left (by exact gz_m 689 (by omega))) A954.1.1 A954.1.2
        obtain ⟨I995, J996, rfl, hI995, g994, k994, ⟨rfl, q994⟩⟩ := P994
        have FI995 := gr_frt FI932 g994 rfl rfl
        have FJ996 := gr_fjt FJ933 k994 rfl rfl
        have t997 := g994 0 69 rfl
        have t998 := g994 0 6 rfl
        have t999 := g994 0 59 rfl
        have t1000 := g994 0 118 rfl
        have t1001 := g994 0 119 rfl
        have t1002 := g994 0 3 rfl
        have t1003 := g994 19 (Int.toNat ((I 0 6))) rfl
        have f1004 := (gr_b_0_71 hI995)
        have f1005 := (gr_b_0_72 hI995)
        have f1006 := (gr_b_0_73 hI995)
        have f1007 := (gr_b_0_69 hI995)
        have f1008 := (gr_b_0_6 hI995)
        have f1009 := (gr_b_0_59 hI995)
        have f1010 := (gr_b_0_118 hI995)
        have f1011 := (gr_b_0_119 hI995)
        have f1012 := (gr_b_0_3 hI995)
        have KLN_I995 := gr_LN_fr KLN_I932 (fun k => g994 19 k rfl) (by exact gz_m 690 (by omega)) (by exact gz_m 691 (by omega))
        have KGR_I995 := gr_GR_fr KGR_I932 (fun k => g994 19 k rfl) (fun k => g994 18 k rfl) (fun k => g994 36 k rfl) (fun k => g994 41 k rfl) (fun k => g994 42 k rfl) (fun k => g994 43 k rfl) (fun k => g994 45 k rfl) (fun k => g994 46 k rfl) (fun k => g994 47 k rfl) (fun k => g994 6 k rfl) (fun k => g994 7 k rfl) (fun k => g994 8 k rfl) (g994 0 3 rfl)
        have KST_I995 := gr_ST_fr KST_I932 (fun k => g994 6 k rfl) (fun k => g994 19 k rfl) (fun k => g994 18 k rfl) (fun k => g994 41 k rfl) (fun k => g994 36 k rfl) (g994 0 3 rfl)
        have KLK_I995 := gr_LKs_fr KLK_I932 (fun k => g994 51 k rfl) (g994 0 59 rfl)
        have t1013 := KLN_I995 (Int.toNat ((I 0 6))) (by exact gz_m 692 (by omega))
        have t1014 := (gr_ATp_rr A954).2.2.1.resolve_left (by exact gz_m 693 (by omega))
        have A1015 := gr_ATp_nx A954 q994.2.2.2.2.2
        have t1016 := gr_ATp_l A1015
        obtain ⟨_, _, -, -, -, -⟩ := q994
        refine gv_callV hD rfl (As := []) (st := []) rfl (by decide) rfl rfl (gr_lV hws rfl) (Nat.le_of_ble_eq_true rfl) (gz_Ev_mono (d := 10) (by decide) E994) ?_
        show gv_X _ _ (59, [(3, .inl z962), (2, .inl (I932 0 72)), (1, .inl (I 0 6)), (0, .inr (.inr (some 0)))], [], gr_sh ++ ext, gr_h I995 J996)
        refine gv_run 2 true hD (pcₚ := 62) (lvₚ := [(3, .inl z962), (2, .inl (I932 0 72)), (1, .inl (I 0 6)), (0, .inr (.inr (some 0)))]) (stₚ := [.inl 61, .inr (.inr (some 0))]) (hₚ := gr_h I995 J996) (C := ((True ∧ True) ∧ True)) rfl ⟨⟨trivial, trivial⟩, trivial⟩ ?_
        obtain ⟨r1017, h1017, E1017, P1017⟩ := r_need_p (ws0 := ws0) (tb := tb) hws htb ext β N9 (gs_X β N9 p9) I995 J996 hI995 61 ⟨by exact gz_m 694 (by omega), by exact gz_m 695 (by omega)⟩ (gr_ATp_rr A1015).1 (gr_ATp_rr A1015).2.1 (gr_ATp_rr A1015).2.2.1 (gr_ATp_rr A1015).2.2.2.1 (gr_ATp_rr A1015).2.2.2.2 A1015 (by exact gz_m 696 (by omega))
        obtain ⟨I1018, J1019, rfl, hI1018, g1017, k1017, ⟨z1017, rfl, q1017⟩⟩ := P1017
        have FI1018 := gr_frt FI995 g1017 rfl rfl
        have FJ1019 := gr_fjt FJ996 k1017 rfl rfl
        have t1020 := g1017 0 69 rfl
        have t1021 := g1017 0 6 rfl
        have t1022 := g1017 0 59 rfl
        have t1023 := g1017 0 118 rfl
        have t1024 := g1017 0 119 rfl
        have t1025 := g1017 0 3 rfl
        have t1026 := g1017 19 (Int.toNat ((I 0 6))) rfl
        have f1027 := (gr_b_0_71 hI1018)
        have f1028 := (gr_b_0_72 hI1018)
        have f1029 := (gr_b_0_73 hI1018)
        have f1030 := (gr_b_0_69 hI1018)
        have f1031 := (gr_b_0_6 hI1018)
        have f1032 := (gr_b_0_59 hI1018)
        have f1033 := (gr_b_0_118 hI1018)
        have f1034 := (gr_b_0_119 hI1018)
        have f1035 := (gr_b_0_3 hI1018)
        have KLN_I1018 := gr_LN_fr KLN_I995 (fun k => g1017 19 k rfl) (by exact gz_m 697 (by omega)) (by exact gz_m 698 (by omega))
        have KGR_I1018 := gr_GR_fr KGR_I995 (fun k => g1017 19 k rfl) (fun k => g1017 18 k rfl) (fun k => g1017 36 k rfl) (fun k => g1017 41 k rfl) (fun k => g1017 42 k rfl) (fun k => g1017 43 k rfl) (fun k => g1017 45 k rfl) (fun k => g1017 46 k rfl) (fun k => g1017 47 k rfl) (fun k => g1017 6 k rfl) (fun k => g1017 7 k rfl) (fun k => g1017 8 k rfl) (g1017 0 3 rfl)
        have KST_I1018 := gr_ST_fr KST_I995 (fun k => g1017 6 k rfl) (fun k => g1017 19 k rfl) (fun k => g1017 18 k rfl) (fun k => g1017 41 k rfl) (fun k => g1017 36 k rfl) (g1017 0 3 rfl)
        have KLK_I1018 := gr_LKs_fr KLK_I995 (fun k => g1017 51 k rfl) (g1017 0 59 rfl)
        have t1036 := KLN_I1018 (Int.toNat ((I 0 6))) (by exact gz_m 699 (by omega))
        refine gv_callV hD rfl (As := [.inl 61]) (st := []) rfl (by decide) rfl rfl (gr_lV hws rfl) (Nat.le_of_ble_eq_true rfl) (gz_Ev_mono (d := 11) (by decide) E1017) ?_
        show gv_X _ _ (65, [(3, .inl z962), (2, .inl (I932 0 72)), (1, .inl (I 0 6)), (0, .inr (.inr (some 0)))], [.inl z1017], gr_sh ++ ext, gr_h I1018 J1019)
        refine gv_if_ne (t := 70) hD rfl rfl ⟨by exact gz_m 700 (by omega), by exact gz_m 701 (by omega)⟩ (fun c1037 => ?_) (fun c1037 => ?_)
        · obtain ⟨u1038, A1038⟩ := gs_or1 q1017.2.2.2.2.2.2.2.2.2.2.2 (by exact gz_m 702 (by omega))
          have t1039 := gr_ATp_l A1038
          have t1040 := (q1017.2.2.2.2.2.2.2.2.2.2.1).resolve_left (by exact gz_m 703 (by omega))
          obtain ⟨_, _, -, _, -, -, _, _, _, _, -, -⟩ := q1017
          have t1041 := (gr_ATp_rr A1015).2.2.1.resolve_left (by exact gz_m 704 (by omega))
          refine gv_pick [3, 2, 1, 0] rfl ?_
          exact L70 I1018 J1019 (I 0 6) (I932 0 72) z962 ((gs_need β N9 61 (gs_X β N9 p9))) hI1018 FI1018 FJ1019 KLN_I1018 KGR_I1018 KST_I1018 KLK_I1018 (by exact gz_m 705 (by omega)) A1038 (by unfold gs_lin; rw [if_pos (by exact gz_m 706 (by omega)), show gs_lk I J 3 3 (gs_rn β N9 p9) = z962 from by exact gz_m 707 (by omega)]; unfold gs_ln0; rw [if_neg (by exact gz_m 708 (by omega)), show gs_A β N9 p9 = (I932 0 72) from by exact gz_m 709 (by omega)]) (by exact gz_m 710 (by omega)) rfl ⟨(fun k => (((g1017 19 k rfl).trans (g994 19 k rfl)).trans (g931 19 k rfl))), (fun k => (((g1017 41 k rfl).trans (g994 41 k rfl)).trans (g931 41 k rfl)))⟩
        · obtain ⟨u1042, u1042_⟩ := gs_or0 q1017.2.2.2.2.2.2.2.2.2.2.2 (by exact gz_m 711 (by omega))
          refine gv_run 1 true hD (pcₚ := 69) (lvₚ := [(3, .inl z962), (2, .inl (I932 0 72)), (1, .inl (I 0 6)), (0, .inr (.inr (some 0)))]) (stₚ := [.inl 0]) (hₚ := gr_h I1018 J1019) (C := (True ∧ True)) rfl ⟨trivial, trivial⟩ ?_
          have b1043 : (I1018 0 71 = 5 ∨ I1018 0 73 ≤ I1018 0 69) ∧ (I1018 0 72 ≤ I1018 0 69) ∧ (I1018 0 71 = 0 ∨ (I1018 0 72 < I1018 0 73 ∧ I1018 0 72 < I1018 0 69)) ∧ (I1018 0 71 = 3 → 2 ≤ I1018 0 73 - I1018 0 72 ∧ I1018 0 73 - I1018 0 72 ≤ 14) ∧ (I1018 0 72 ≤ I1018 0 73) ∧ (I1018 0 69 = I 0 69) ∧ (I 0 73 ≤ I1018 0 73) ∧ (I 0 72 ≤ I1018 0 72) ∧ (I1018 0 59 - I1018 0 72 ≤ I 0 59 - I 0 72) := by exact gz_m 712 (by omega)
          exact gv_zret hD rfl (by exact gz_m 713 (by omega)) ⟨I1018, J1019, rfl, hI1018, FI1018, FJ1019, KLN_I1018, KGR_I1018, KST_I1018, ⟨_, rfl, by exact gz_m 714 (by omega), by exact gz_m 715 (by omega), b1043.1, b1043.2.1, b1043.2.2.1, b1043.2.2.2.1, b1043.2.2.2.2.1, b1043.2.2.2.2.2.1, b1043.2.2.2.2.2.2.1, b1043.2.2.2.2.2.2.2.1, b1043.2.2.2.2.2.2.2.2, KLK_I1018, (Or.inr ⟨by exact gz_m 716 (by omega), by first | (exfalso; exact gz_m 717 (by omega)) | (unfold gs_lin; rw [if_pos (by exact gz_m 718 (by omega)), show gs_lk I J 3 3 (gs_rn β N9 p9) = z962 from by exact gz_m 719 (by omega)]; unfold gs_ln0 gs_ln1; (repeat first | rw [if_pos (by exact gz_m 720 (by omega))] | rw [if_neg (by exact gz_m 721 (by omega))]); exact ⟨by exact gz_m 722 (by omega), by exact gz_m 723 (by omega), (fun j => ⟨(((g1017 19 j rfl).trans (g994 19 j rfl)).trans (g931 19 j rfl)), (((g1017 41 j rfl).trans (g994 41 j rfl)).trans (g931 41 j rfl))⟩)⟩)⟩)⟩⟩
      · refine gv_run 2 true hD (pcₚ := 51) (lvₚ := [(3, .inl z962), (2, .inl (I932 0 72)), (1, .inl (I 0 6)), (0, .inr (.inr (some 0)))]) (stₚ := [.inl 5, .inr (.inr (some 0))]) (hₚ := gr_h I932 J933) (C := ((True ∧ True) ∧ True)) rfl ⟨⟨trivial, trivial⟩, trivial⟩ ?_
        obtain ⟨r1044, h1044, E1044, P1044⟩ := r_no__p (ws0 := ws0) (tb := tb) hws htb ext β N9 p9 I932 J933 hI932 5 ⟨by exact gz_m 724 (by omega), by exact gz_m 725 (by omega)⟩ A954 (by exact gz_m 726 (by omega))
        obtain ⟨I1045, J1046, rfl, hI1045, g1044, k1044, ⟨z1044, rfl, q1044⟩⟩ := P1044
        have FI1045 := gr_frt FI932 g1044 rfl rfl
        have FJ1046 := gr_fjt FJ933 k1044 rfl rfl
        have t1047 := g1044 0 71 rfl
        have t1048 := g1044 0 72 rfl
        have t1049 := g1044 0 73 rfl
        have t1050 := g1044 0 69 rfl
        have t1051 := g1044 0 6 rfl
        have t1052 := g1044 0 59 rfl
        have t1053 := g1044 0 118 rfl
        have t1054 := g1044 0 119 rfl
        have t1055 := g1044 0 3 rfl
        have t1056 := g1044 19 (Int.toNat ((I 0 6))) rfl
        have f1057 := (gr_b_0_71 hI1045)
        have f1058 := (gr_b_0_72 hI1045)
        have f1059 := (gr_b_0_73 hI1045)
        have f1060 := (gr_b_0_69 hI1045)
        have f1061 := (gr_b_0_6 hI1045)
        have f1062 := (gr_b_0_59 hI1045)
        have f1063 := (gr_b_0_118 hI1045)
        have f1064 := (gr_b_0_119 hI1045)
        have f1065 := (gr_b_0_3 hI1045)
        have KLN_I1045 := gr_LN_fr KLN_I932 (fun k => g1044 19 k rfl) (by exact gz_m 727 (by omega)) (by exact gz_m 728 (by omega))
        have KGR_I1045 := gr_GR_fr KGR_I932 (fun k => g1044 19 k rfl) (fun k => g1044 18 k rfl) (fun k => g1044 36 k rfl) (fun k => g1044 41 k rfl) (fun k => g1044 42 k rfl) (fun k => g1044 43 k rfl) (fun k => g1044 45 k rfl) (fun k => g1044 46 k rfl) (fun k => g1044 47 k rfl) (fun k => g1044 6 k rfl) (fun k => g1044 7 k rfl) (fun k => g1044 8 k rfl) (g1044 0 3 rfl)
        have KST_I1045 := gr_ST_fr KST_I932 (fun k => g1044 6 k rfl) (fun k => g1044 19 k rfl) (fun k => g1044 18 k rfl) (fun k => g1044 41 k rfl) (fun k => g1044 36 k rfl) (g1044 0 3 rfl)
        have KLK_I1045 := gr_LKs_fr KLK_I932 (fun k => g1044 51 k rfl) (g1044 0 59 rfl)
        have t1066 := KLN_I1045 (Int.toNat ((I 0 6))) (by exact gz_m 729 (by omega))
        have A1067 := gr_ATp_F A954 g1044 k1044 rfl
        have t1068 := gr_ATp_l A1067
        refine gv_callV hD rfl (As := [.inl 5]) (st := []) rfl (by decide) rfl rfl (gr_lV hws rfl) (Nat.le_of_ble_eq_true rfl) (gz_Ev_mono (d := 2) (by decide) E1044) ?_
        show gv_X _ _ (54, [(3, .inl z962), (2, .inl (I932 0 72)), (1, .inl (I 0 6)), (0, .inr (.inr (some 0)))], [.inl z1044], gr_sh ++ ext, gr_h I1045 J1046)
        have b1069 : (I1045 0 69 = I 0 69) ∧ (I 0 73 ≤ I1045 0 73) ∧ (I 0 72 ≤ I1045 0 72) ∧ (I1045 0 59 - I1045 0 72 ≤ I 0 59 - I 0 72) := by exact gz_m 730 (by omega)
        exact gv_zret hD rfl (by exact gz_m 731 (by omega)) ⟨I1045, J1046, rfl, hI1045, FI1045, FJ1046, KLN_I1045, KGR_I1045, KST_I1045, ⟨_, rfl, by exact gz_m 732 (by omega), by exact gz_m 733 (by omega), (gr_ATp_rr A1067).1, (gr_ATp_rr A1067).2.1, (gr_ATp_rr A1067).2.2.1, (gr_ATp_rr A1067).2.2.2.1, (gr_ATp_rr A1067).2.2.2.2, b1069.1, b1069.2.1, b1069.2.2.1, b1069.2.2.2, KLK_I1045, (Or.inr ⟨by exact gz_m 734 (by omega), by first | (exfalso; exact gz_m 735 (by omega)) | (unfold gs_lin; rw [if_pos (by exact gz_m 736 (by omega)), show gs_lk I J 3 3 (gs_rn β N9 p9) = z962 from by exact gz_m 737 (by omega)]; unfold gs_ln0 gs_ln1; (repeat first | rw [if_pos (by exact gz_m 738 (by omega))] | rw [if_neg (by exact gz_m 739 (by omega))]); exact ⟨by exact gz_m 740 (by omega), by exact gz_m 741 (by omega), (fun j => ⟨((g1044 19 j rfl).trans (g931 19 j rfl)), ((g1044 41 j rfl).trans (g931 41 j rfl))⟩)⟩)⟩)⟩⟩
  · have u1070 := gs_or0 V931 (by exact gz_m 742 (by omega))
    clear o931 V931
    refine gv_run 1 true hD (pcₚ := 13) (lvₚ := [(1, .inl (I 0 6)), (0, .inr (.inr (some 0)))]) (stₚ := [.inl 0]) (hₚ := gr_h I932 J933) (C := (True ∧ True)) rfl ⟨trivial, trivial⟩ ?_
    have b1071 : (I932 0 69 = I 0 69) ∧ (I 0 73 ≤ I932 0 73) ∧ (I 0 72 ≤ I932 0 72) ∧ (I932 0 59 - I932 0 72 ≤ I 0 59 - I 0 72) := by exact gz_m 743 (by omega)
    exact gv_zret hD rfl (by exact gz_m 744 (by omega)) ⟨I932, J933, rfl, hI932, FI932, FJ933, KLN_I932, KGR_I932, KST_I932, ⟨_, rfl, by exact gz_m 745 (by omega), by exact gz_m 746 (by omega), (gr_ATp_rr A954).1, (gr_ATp_rr A954).2.1, (gr_ATp_rr A954).2.2.1, (gr_ATp_rr A954).2.2.2.1, (gr_ATp_rr A954).2.2.2.2, b1071.1, b1071.2.1, b1071.2.2.1, b1071.2.2.2, KLK_I932, (Or.inr ⟨by exact gz_m 747 (by omega), by first | (exfalso; exact gz_m 748 (by omega)) | (unfold gs_lin; (repeat first | rw [if_pos (by exact gz_m 749 (by omega))] | rw [if_neg (by exact gz_m 750 (by omega))]); exact ⟨by exact gz_m 751 (by omega), by exact gz_m 752 (by omega), (fun j => ⟨(g931 19 j rfl), (g931 41 j rfl)⟩)⟩)⟩)⟩⟩
