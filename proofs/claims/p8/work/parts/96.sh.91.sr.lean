/-! THE CHART. -/
def gr_SZ (i j k : Int) (I : gr_I) : Prop := ∀ a b c : Nat, (a : Int) ≤ I 0 143 → (b : Int) ≤ I 0 143 → c < 32 → ((a : Int) < i ∨ ((a : Int) = i ∧ ((b : Int) < j ∨ ((b : Int) = j ∧ (c : Int) < k)))) → I 93 ((25 * a + b) * 32 + c) = -1
set_option maxHeartbeats 8000000 in
theorem gr_SZ_st {i j k : Int} {I Iₚ : gr_I} {z : Nat} (h : gr_SZ i j k I) (hz : (z : Int) = (25 * i + j) * 32 + k) (p : ∀ b j, ¬ (b = 93 ∧ j = z) → Iₚ b j = I b j) (q : Iₚ 93 z = -1) : gr_SZ i j (k + 1) Iₚ := fun a b c ha hb hc hq => by
  have e := p 0 143 (fun q => absurd q.1 (by first | exact gz_ne rfl | decide))
  by_cases y : (25 * a + b) * 32 + c = z
  · rw [y]
    exact q
  · rw [p _ _ (fun q => y q.2)]
    refine h a b c (by exact gz_m 0 (by omega)) (by exact gz_m 1 (by omega)) hc ?_
    rcases hq with hq | ⟨h1, h2 | ⟨h3, h4⟩⟩
    · exact Or.inl hq
    · exact Or.inr ⟨h1, Or.inl h2⟩
    · exact Or.inr ⟨h1, Or.inr ⟨h3, by exact gz_m 2 (by omega)⟩⟩
theorem gr_SZ_j {i j k : Int} {I : gr_I} (h : gr_SZ i j k I) (hk : 32 ≤ k) : gr_SZ i (j + 1) 0 I := fun a b c ha hb hc hq => by
  refine h a b c ha hb hc ?_
  rcases hq with hq | ⟨h1, h2 | ⟨h3, h4⟩⟩
  · exact Or.inl hq
  · by_cases e : (b : Int) < j
    · exact Or.inr ⟨h1, Or.inl e⟩
    · exact Or.inr ⟨h1, Or.inr ⟨by exact gz_m 0 (by omega), by exact gz_m 1 (by omega)⟩⟩
  · exact gz_m 2 (by omega)
theorem gr_SZ_i {i j k : Int} {I : gr_I} (h : gr_SZ i j k I) (hj : I 0 143 < j) : gr_SZ (i + 1) 0 0 I := fun a b c ha hb hc hq => by
  refine h a b c ha hb hc ?_
  rcases hq with hq | ⟨h1, h2 | ⟨h3, h4⟩⟩
  · by_cases e : (a : Int) < i
    · exact Or.inl e
    · exact Or.inr ⟨by exact gz_m 0 (by omega), Or.inl (by exact gz_m 1 (by omega))⟩
  · exact gz_m 2 (by omega)
  · exact gz_m 3 (by omega)
theorem gr_SZ_0 (I : gr_I) : gr_SZ 0 0 0 I := fun a b c _ _ _ hq => by omega
set_option maxHeartbeats 8000000 in
theorem gr_FO_0 {t o i : Int} {I : gr_I} (h : gr_SZ i 0 0 I) (hi : I 0 143 < i) (hN : I 0 157 = 0) (hY : I 0 158 = 0) : gr_FO t o I := by
  have sp : ∀ a b c : Nat, (a : Int) ≤ I 0 143 → (b : Int) ≤ I 0 143 → c < 32 → I 93 ((25 * a + b) * 32 + c) = -1 := fun a b c ha hb hc => h a b c ha hb hc (Or.inl (by exact gz_m 0 (by omega)))
  refine ⟨⟨fun _ => 0, fun x hx => by exact gz_m 1 (by omega)⟩, fun a b c ha hb hc => by rw [sp a b c ha hb hc]; exact gz_m 2 (by omega), ⟨fun y hy => by exact gz_m 3 (by omega), fun x hx => by exact gz_m 4 (by omega)⟩, ⟨fun x hx => by exact gz_m 5 (by omega), fun x hx => by exact gz_m 6 (by omega), fun a b c ha hb hc => Or.inl (by rw [sp a b c ha hb hc]; exact gz_m 7 (by omega))⟩, fun x y _ hy => by exact gz_m 8 (by omega), fun x hx => by exact gz_m 9 (by omega), fun y hy => by exact gz_m 10 (by omega)⟩
theorem gr_FO_w {t o o' : Int} {I : gr_I} (h : gr_FO t o I) (ho : o ≤ o') : gr_FO t o' I := ⟨h.1, h.2.1, h.2.2.1, h.2.2.2.1, h.2.2.2.2.1, fun x hx => Int.le_trans (h.2.2.2.2.2.1 x hx) ho, h.2.2.2.2.2.2⟩
/-- a forest that is ready to be counted and read -/
def gr_CH (t : Int) (I : gr_I) : Prop := gr_NX I ∧ gr_SB I ∧ gr_LS I ∧ gr_MO I ∧ gr_OR I ∧ gr_FW t (I 0 158) I ∧ ∀ y : Nat, (y : Int) < I 0 158 → 0 ≤ I 94 y ∧ I 94 y < I 0 157
theorem gr_CH_of {t o : Int} {I Iₚ : gr_I} (h : gr_FO t o I) (hI : gr_Inv I) (ho : gr_OR Iₚ) (h1 : ∀ k, Iₚ 87 k = I 87 k) (h2 : ∀ k, Iₚ 88 k = I 88 k) (h3 : ∀ k, Iₚ 104 k = I 104 k) (h4 : ∀ k, Iₚ 90 k = I 90 k) (h5 : ∀ k, Iₚ 93 k = I 93 k) (h7 : ∀ k, Iₚ 94 k = I 94 k) (h8 : ∀ k, Iₚ 95 k = I 95 k) (h9 : ∀ k, Iₚ 97 k = I 97 k) (h10 : ∀ k, Iₚ 98 k = I 98 k) (h11 : ∀ k, Iₚ 19 k = I 19 k) (h12 : ∀ k, Iₚ 18 k = I 18 k) (h13 : ∀ k, Iₚ 41 k = I 41 k) (h14 : ∀ k, Iₚ 6 k = I 6 k) (hN : Iₚ 0 157 = I 0 157) (hY : Iₚ 0 158 = I 0 158) (hW : Iₚ 0 143 = I 0 143) : gr_CH t Iₚ :=
  ⟨gr_NX_fr h.1 h4 hN, gr_SB_fr h.2.1 h5 (by omega) hW, gr_LS_fr h.2.2.2.1 h1 h2 h3 h4 h5 hN hW, gr_MO_fr h.2.2.2.2.1 h1 h2 h3 hN, ho, by rw [hY]; exact gr_FW_x h.2.2.2.2.2.2 (Int.le_refl _) h.2.2.1 (gr_XT_sm h1 h2 h3 h7 h8 h9 h10 hN hY) hI ⟨h11 _, h12 _, h13, h14⟩, fun y hy => by rw [h7, hN]; exact h.2.2.1.1 y (by omega)⟩
set_option maxHeartbeats 8000000 in
set_option maxRecDepth 100000 in
theorem r_chart_L105 {ws0 : List Cond} {tb : String → gz_T} (hws : ∀ w ∈ gr_ws, w ∈ ws0) (htb : tb RX13 = gr_T) (ext : gz_Sh) (I : gr_I) (J : gr_J) (hI : gr_Inv I) (a1 : Int) (ha1 : 0 ≤ a1 ∧ a1 ≤ 7) (x0 : gr_GR I) : ∀ (n : Nat) (I87 : gr_I) (J88 : gr_J) (v2_89 : Int), (26 - v2_89).toNat < n → gr_Inv I87 → gr_fr [126, 127, 128, 157, 158, 160, 161, 166, 167, 168, 169, 170] [76, 77, 78, 79, 87, 88, 89, 90, 91, 92, 93, 94, 95, 96, 97, 98, 99, 100, 101, 103, 104] I I87 → gr_fj [126, 127, 128, 157, 158, 160, 161, 166, 167, 168, 169, 170] [76, 77, 78, 79, 87, 88, 89, 90, 91, 92, 93, 94, 95, 96, 97, 98, 99, 100, 101, 103, 104] J J88 → gr_KR I I87 → ((0 ≤ a1 ∧ a1 ≤ 7) ∧ (1 ≤ v2_89 ∧ v2_89 ≤ 25) ∧ (I87 0 160 = 0 → I87 0 161 ≤ 400000) ∧ (1 ≤ v2_89)) → (gr_FO a1 (v2_89 * 25 * 32 - 1) I87) → gv_X (gr_E ws0 tb 10 (yX13_chart, cX13_chart, 7, (some .boolean)) kX13_chart) (gv_Q cX13_chart (some .boolean) (gr_sh ++ ext) (fun r hₚ => (∃ (Iₚ : gr_I) (Jₚ : gr_J), hₚ = gr_h Iₚ Jₚ ∧ gr_Inv Iₚ ∧ gr_fr [126, 127, 128, 157, 158, 160, 161, 166, 167, 168, 169, 170] [76, 77, 78, 79, 87, 88, 89, 90, 91, 92, 93, 94, 95, 96, 97, 98, 99, 100, 101, 103, 104] I Iₚ ∧ gr_fj [126, 127, 128, 157, 158, 160, 161, 166, 167, 168, 169, 170] [76, 77, 78, 79, 87, 88, 89, 90, 91, 92, 93, 94, 95, 96, 97, 98, 99, 100, 101, 103, 104] J Jₚ ∧ (∃ z : Int, r = some (.inl z) ∧ 0 ≤ z ∧ z ≤ 1 ∧ (gr_o (z = 0) (gr_CH a1 Iₚ)) ∧ (gr_KR I Iₚ))))) (105, [(0, .inr (.inr (some 0))), (1, .inl a1), (2, .inl v2_89)], [], gr_sh ++ ext, gr_h I87 J88) := by
  have FI : gr_fr [126, 127, 128, 157, 158, 160, 161, 166, 167, 168, 169, 170] [76, 77, 78, 79, 87, 88, 89, 90, 91, 92, 93, 94, 95, 96, 97, 98, 99, 100, 101, 103, 104] I I := fun _ _ _ => rfl
  have FJ : gr_fj [126, 127, 128, 157, 158, 160, 161, 166, 167, 168, 169, 170] [76, 77, 78, 79, 87, 88, 89, 90, 91, 92, 93, 94, 95, 96, 97, 98, 99, 100, 101, 103, 104] J J := fun _ _ _ => rfl
  have hD : gv_D (gr_E ws0 tb 10 (yX13_chart, cX13_chart, 7, (some .boolean)) kX13_chart) := gq_of oX13_chart
  have f1 := (gr_b_0_157 hI)
  have f2 := (gr_b_0_143 hI)
  have f3 := (gr_b_0_158 hI)
  have f4 := (gr_b_0_161 hI)
  have f5 := (gr_b_0_160 hI)
  have f6 := (gr_b_0_167 hI)
  have f7 := (gr_b_0_168 hI)
  have f8 := (gr_b_0_169 hI)
  have f9 := (gr_b_0_170 hI)
  have f10 := (gr_b_0_2 hI)
  have KKR_I : gr_KR I I := gr_KR_rf
  intro n
  induction n with
  | zero => intro I87 J88 v2_89 hn; exact gz_m 25 (by omega)
  | succ n ih105 =>
    intro I87 J88 v2_89 hn hI87 FI87 FJ88 KKR_I87 m_89 e0_89
    obtain ⟨ha1_89, hv2_89, e1_89, e2_89⟩ := m_89
    have f90 := (gr_b_0_157 hI87)
    have f91 := (gr_b_0_143 hI87)
    have f92 := (gr_b_0_158 hI87)
    have f93 := (gr_b_0_161 hI87)
    have f94 := (gr_b_0_160 hI87)
    have f95 := (gr_b_0_167 hI87)
    have f96 := (gr_b_0_168 hI87)
    have f97 := (gr_b_0_169 hI87)
    have f98 := (gr_b_0_170 hI87)
    have f99 := (gr_b_0_2 hI87)
    have t100 := (gr_b_19 hI (Int.toNat a1))
    have t101 := FI87 0 143 rfl
    have t102 := FI87 19 (Int.toNat a1) rfl
    have L115 : ∀ (n : Nat) (I103 : gr_I) (J104 : gr_J) (v3_105 : Int), (25 - v3_105).toNat < n → gr_Inv I103 → gr_fr [126, 127, 128, 157, 158, 160, 161, 166, 167, 168, 169, 170] [76, 77, 78, 79, 87, 88, 89, 90, 91, 92, 93, 94, 95, 96, 97, 98, 99, 100, 101, 103, 104] I I103 → gr_fj [126, 127, 128, 157, 158, 160, 161, 166, 167, 168, 169, 170] [76, 77, 78, 79, 87, 88, 89, 90, 91, 92, 93, 94, 95, 96, 97, 98, 99, 100, 101, 103, 104] J J104 → gr_KR I I103 → ((0 ≤ a1 ∧ a1 ≤ 7) ∧ (1 ≤ v2_89 ∧ v2_89 ≤ 24) ∧ (0 ≤ v3_105 ∧ v3_105 ≤ 24) ∧ (I103 0 160 = 0 → I103 0 161 ≤ 400000) ∧ (1 ≤ v2_89)) → (gr_FO a1 ((v2_89 * 25 + v3_105) * 32 - 1) I103) → gv_X (gr_E ws0 tb 10 (yX13_chart, cX13_chart, 7, (some .boolean)) kX13_chart) (gv_Q cX13_chart (some .boolean) (gr_sh ++ ext) (fun r hₚ => (∃ (Iₚ : gr_I) (Jₚ : gr_J), hₚ = gr_h Iₚ Jₚ ∧ gr_Inv Iₚ ∧ gr_fr [126, 127, 128, 157, 158, 160, 161, 166, 167, 168, 169, 170] [76, 77, 78, 79, 87, 88, 89, 90, 91, 92, 93, 94, 95, 96, 97, 98, 99, 100, 101, 103, 104] I Iₚ ∧ gr_fj [126, 127, 128, 157, 158, 160, 161, 166, 167, 168, 169, 170] [76, 77, 78, 79, 87, 88, 89, 90, 91, 92, 93, 94, 95, 96, 97, 98, 99, 100, 101, 103, 104] J Jₚ ∧ (∃ z : Int, r = some (.inl z) ∧ 0 ≤ z ∧ z ≤ 1 ∧ (gr_o (z = 0) (gr_CH a1 Iₚ)) ∧ (gr_KR I Iₚ))))) (115, [(0, .inr (.inr (some 0))), (1, .inl a1), (2, .inl v2_89), (3, .inl v3_105)], [], gr_sh ++ ext, gr_h I103 J104) := by
      intro n
      induction n with
      | zero => intro I103 J104 v3_105 hn; exact gz_m 26 (by omega)
      | succ n ih115 =>
        intro I103 J104 v3_105 hn hI103 FI103 FJ104 KKR_I103 m_105 e0_105
        clear ha1_89 hv2_89 e1_89 e2_89 f90 f91 f92 f93 f94 f95 f96 f97 f98 f99 t100 t101 t102
        obtain ⟨ha1_105, hv2_89_105, hv3_105, e1_105, e2_105⟩ := m_105
        have f106 := (gr_b_0_157 hI103)
        have f107 := (gr_b_0_143 hI103)
        have f108 := (gr_b_0_158 hI103)
        have f109 := (gr_b_0_161 hI103)
        have f110 := (gr_b_0_160 hI103)
        have f111 := (gr_b_0_167 hI103)
        have f112 := (gr_b_0_168 hI103)
        have f113 := (gr_b_0_169 hI103)
        have f114 := (gr_b_0_170 hI103)
        have f115 := (gr_b_0_2 hI103)
        have t116 := (gr_b_19 hI (Int.toNat a1))
        have t117 := FI103 0 143 rfl
        have t118 := FI103 19 (Int.toNat a1) rfl
        have L128 : ∀ (n : Nat) (I119 : gr_I) (J120 : gr_J) (v4_121 : Int), (33 - v4_121).toNat < n → gr_Inv I119 → gr_fr [126, 127, 128, 157, 158, 160, 161, 166, 167, 168, 169, 170] [76, 77, 78, 79, 87, 88, 89, 90, 91, 92, 93, 94, 95, 96, 97, 98, 99, 100, 101, 103, 104] I I119 → gr_fj [126, 127, 128, 157, 158, 160, 161, 166, 167, 168, 169, 170] [76, 77, 78, 79, 87, 88, 89, 90, 91, 92, 93, 94, 95, 96, 97, 98, 99, 100, 101, 103, 104] J J120 → gr_KR I I119 → ((0 ≤ a1 ∧ a1 ≤ 7) ∧ (1 ≤ v2_89 ∧ v2_89 ≤ 24) ∧ (0 ≤ v3_105 ∧ v3_105 ≤ 23) ∧ (0 ≤ v4_121 ∧ v4_121 ≤ 32) ∧ (I119 0 160 = 0 → I119 0 161 ≤ 400000) ∧ (1 ≤ v2_89) ∧ (v3_105 + v2_89 ≤ I 0 143)) → (gr_FO a1 ((v2_89 * 25 + v3_105) * 32 + v4_121 - 1) I119) → gv_X (gr_E ws0 tb 10 (yX13_chart, cX13_chart, 7, (some .boolean)) kX13_chart) (gv_Q cX13_chart (some .boolean) (gr_sh ++ ext) (fun r hₚ => (∃ (Iₚ : gr_I) (Jₚ : gr_J), hₚ = gr_h Iₚ Jₚ ∧ gr_Inv Iₚ ∧ gr_fr [126, 127, 128, 157, 158, 160, 161, 166, 167, 168, 169, 170] [76, 77, 78, 79, 87, 88, 89, 90, 91, 92, 93, 94, 95, 96, 97, 98, 99, 100, 101, 103, 104] I Iₚ ∧ gr_fj [126, 127, 128, 157, 158, 160, 161, 166, 167, 168, 169, 170] [76, 77, 78, 79, 87, 88, 89, 90, 91, 92, 93, 94, 95, 96, 97, 98, 99, 100, 101, 103, 104] J Jₚ ∧ (∃ z : Int, r = some (.inl z) ∧ 0 ≤ z ∧ z ≤ 1 ∧ (gr_o (z = 0) (gr_CH a1 Iₚ)) ∧ (gr_KR I Iₚ))))) (128, [(0, .inr (.inr (some 0))), (1, .inl a1), (2, .inl v2_89), (3, .inl v3_105), (4, .inl v4_121)], [], gr_sh ++ ext, gr_h I119 J120) := by
          intro n
          induction n with
          | zero => intro I119 J120 v4_121 hn; exact gz_m 27 (by omega)
          | succ n ih128 =>
            intro I119 J120 v4_121 hn hI119 FI119 FJ120 KKR_I119 m_121 e0_121
            clear ha1_105 hv2_89_105 hv3_105 e1_105 e2_105 f106 f107 f108 f109 f110 f111 f112 f113 f114 f115 t116 t117 t118
            obtain ⟨ha1_121, hv2_89_121, hv3_105_121, hv4_121, e1_121, e2_121, e3_121⟩ := m_121
            have f122 := (gr_b_0_157 hI119)
            have f123 := (gr_b_0_143 hI119)
            have f124 := (gr_b_0_158 hI119)
            have f125 := (gr_b_0_161 hI119)
            have f126 := (gr_b_0_160 hI119)
            have f127 := (gr_b_0_167 hI119)
            have f128 := (gr_b_0_168 hI119)
            have f129 := (gr_b_0_169 hI119)
            have f130 := (gr_b_0_170 hI119)
            have f131 := (gr_b_0_2 hI119)
            have t132 := (gr_b_19 hI (Int.toNat a1))
            have t133 := FI119 0 143 rfl
            have t134 := FI119 19 (Int.toNat a1) rfl
            have L157 : ∀ (I135 : gr_I) (J136 : gr_J) , gr_Inv I135 → gr_fr [126, 127, 128, 157, 158, 160, 161, 166, 167, 168, 169, 170] [76, 77, 78, 79, 87, 88, 89, 90, 91, 92, 93, 94, 95, 96, 97, 98, 99, 100, 101, 103, 104] I I135 → gr_fj [126, 127, 128, 157, 158, 160, 161, 166, 167, 168, 169, 170] [76, 77, 78, 79, 87, 88, 89, 90, 91, 92, 93, 94, 95, 96, 97, 98, 99, 100, 101, 103, 104] J J136 → gr_KR I I135 → ((0 ≤ a1 ∧ a1 ≤ 7) ∧ (1 ≤ v2_89 ∧ v2_89 ≤ 24) ∧ (0 ≤ v3_105 ∧ v3_105 ≤ 23) ∧ (0 ≤ v4_121 ∧ v4_121 ≤ 31) ∧ (I135 0 160 = 0 → I135 0 161 ≤ 400000) ∧ (1 ≤ v2_89) ∧ (v3_105 + v2_89 ≤ I 0 143)) → (gr_FO a1 ((v2_89 * 25 + v3_105) * 32 + v4_121) I135) → gv_X (gr_E ws0 tb 10 (yX13_chart, cX13_chart, 7, (some .boolean)) kX13_chart) (gv_Q cX13_chart (some .boolean) (gr_sh ++ ext) (fun r hₚ => (∃ (Iₚ : gr_I) (Jₚ : gr_J), hₚ = gr_h Iₚ Jₚ ∧ gr_Inv Iₚ ∧ gr_fr [126, 127, 128, 157, 158, 160, 161, 166, 167, 168, 169, 170] [76, 77, 78, 79, 87, 88, 89, 90, 91, 92, 93, 94, 95, 96, 97, 98, 99, 100, 101, 103, 104] I Iₚ ∧ gr_fj [126, 127, 128, 157, 158, 160, 161, 166, 167, 168, 169, 170] [76, 77, 78, 79, 87, 88, 89, 90, 91, 92, 93, 94, 95, 96, 97, 98, 99, 100, 101, 103, 104] J Jₚ ∧ (∃ z : Int, r = some (.inl z) ∧ 0 ≤ z ∧ z ≤ 1 ∧ (gr_o (z = 0) (gr_CH a1 Iₚ)) ∧ (gr_KR I Iₚ))))) (157, [(0, .inr (.inr (some 0))), (1, .inl a1), (2, .inl v2_89), (3, .inl v3_105), (4, .inl v4_121)], [], gr_sh ++ ext, gr_h I135 J136) := by
              intro I135 J136 hI135 FI135 FJ136 KKR_I135 m_137 e0_137
              clear ha1_121 hv2_89_121 hv3_105_121 hv4_121 e1_121 e2_121 e3_121 f122 f123 f124 f125 f126 f127 f128 f129 f130 f131 t132 t133 t134
              obtain ⟨ha1_137, hv2_89_137, hv3_105_137, hv4_121_137, e1_137, e2_137, e3_137⟩ := m_137
              have f138 := (gr_b_0_157 hI135)
              have f139 := (gr_b_0_143 hI135)
              have f140 := (gr_b_0_158 hI135)
              have f141 := (gr_b_0_161 hI135)
              have f142 := (gr_b_0_160 hI135)
              have f143 := (gr_b_0_167 hI135)
              have f144 := (gr_b_0_168 hI135)
              have f145 := (gr_b_0_169 hI135)
              have f146 := (gr_b_0_170 hI135)
              have f147 := (gr_b_0_2 hI135)
              have t148 := (gr_b_19 hI (Int.toNat a1))
              have t149 := FI135 0 143 rfl
              have t150 := FI135 19 (Int.toNat a1) rfl
              have L164 : ∀ (n : Nat) (I151 : gr_I) (J152 : gr_J) (v5_153 : Int), (3073 - v5_153).toNat < n → gr_Inv I151 → gr_fr [126, 127, 128, 157, 158, 160, 161, 166, 167, 168, 169, 170] [76, 77, 78, 79, 87, 88, 89, 90, 91, 92, 93, 94, 95, 96, 97, 98, 99, 100, 101, 103, 104] I I151 → gr_fj [126, 127, 128, 157, 158, 160, 161, 166, 167, 168, 169, 170] [76, 77, 78, 79, 87, 88, 89, 90, 91, 92, 93, 94, 95, 96, 97, 98, 99, 100, 101, 103, 104] J J152 → gr_KR I I151 → ((0 ≤ a1 ∧ a1 ≤ 7) ∧ (1 ≤ v2_89 ∧ v2_89 ≤ 24) ∧ (0 ≤ v3_105 ∧ v3_105 ≤ 23) ∧ (0 ≤ v4_121 ∧ v4_121 ≤ 31) ∧ (0 ≤ v5_153 ∧ v5_153 ≤ 3072) ∧ (I151 0 160 = 0 → I151 0 161 ≤ 400000) ∧ (1 ≤ v2_89) ∧ (v3_105 + v2_89 ≤ I 0 143) ∧ (384 * a1 ≤ v5_153)) → (gr_FO a1 ((v2_89 * 25 + v3_105) * 32 + v4_121) I151) → gv_X (gr_E ws0 tb 10 (yX13_chart, cX13_chart, 7, (some .boolean)) kX13_chart) (gv_Q cX13_chart (some .boolean) (gr_sh ++ ext) (fun r hₚ => (∃ (Iₚ : gr_I) (Jₚ : gr_J), hₚ = gr_h Iₚ Jₚ ∧ gr_Inv Iₚ ∧ gr_fr [126, 127, 128, 157, 158, 160, 161, 166, 167, 168, 169, 170] [76, 77, 78, 79, 87, 88, 89, 90, 91, 92, 93, 94, 95, 96, 97, 98, 99, 100, 101, 103, 104] I Iₚ ∧ gr_fj [126, 127, 128, 157, 158, 160, 161, 166, 167, 168, 169, 170] [76, 77, 78, 79, 87, 88, 89, 90, 91, 92, 93, 94, 95, 96, 97, 98, 99, 100, 101, 103, 104] J Jₚ ∧ (∃ z : Int, r = some (.inl z) ∧ 0 ≤ z ∧ z ≤ 1 ∧ (gr_o (z = 0) (gr_CH a1 Iₚ)) ∧ (gr_KR I Iₚ))))) (164, [(0, .inr (.inr (some 0))), (1, .inl a1), (2, .inl v2_89), (3, .inl v3_105), (4, .inl v4_121), (5, .inl v5_153)], [], gr_sh ++ ext, gr_h I151 J152) := by
                intro n
                induction n with
                | zero => intro I151 J152 v5_153 hn; exact gz_m 28 (by omega)
                | succ n ih164 =>
                  intro I151 J152 v5_153 hn hI151 FI151 FJ152 KKR_I151 m_153 e0_153
                  clear ha1_137 hv2_89_137 hv3_105_137 hv4_121_137 e1_137 e2_137 e3_137 f138 f139 f140 f141 f142 f143 f144 f145 f146 f147 t148 t149 t150
                  obtain ⟨ha1_153, hv2_89_153, hv3_105_153, hv4_121_153, hv5_153, e1_153, e2_153, e3_153, e4_153⟩ := m_153
                  have f154 := (gr_b_0_157 hI151)
                  have f155 := (gr_b_0_143 hI151)
                  have f156 := (gr_b_0_158 hI151)
                  have f157 := (gr_b_0_161 hI151)
                  have f158 := (gr_b_0_160 hI151)
                  have f159 := (gr_b_0_167 hI151)
                  have f160 := (gr_b_0_168 hI151)
                  have f161 := (gr_b_0_169 hI151)
                  have f162 := (gr_b_0_170 hI151)
                  have f163 := (gr_b_0_2 hI151)
                  have t164 := (gr_b_19 hI (Int.toNat a1))
                  have t165 := FI151 0 143 rfl
                  have t166 := FI151 19 (Int.toNat a1) rfl
                  have L295 : ∀ (I167 : gr_I) (J168 : gr_J) , gr_Inv I167 → gr_fr [126, 127, 128, 157, 158, 160, 161, 166, 167, 168, 169, 170] [76, 77, 78, 79, 87, 88, 89, 90, 91, 92, 93, 94, 95, 96, 97, 98, 99, 100, 101, 103, 104] I I167 → gr_fj [126, 127, 128, 157, 158, 160, 161, 166, 167, 168, 169, 170] [76, 77, 78, 79, 87, 88, 89, 90, 91, 92, 93, 94, 95, 96, 97, 98, 99, 100, 101, 103, 104] J J168 → gr_KR I I167 → ((0 ≤ a1 ∧ a1 ≤ 7) ∧ (1 ≤ v2_89 ∧ v2_89 ≤ 24) ∧ (0 ≤ v3_105 ∧ v3_105 ≤ 23) ∧ (0 ≤ v4_121 ∧ v4_121 ≤ 31) ∧ (0 ≤ v5_153 ∧ v5_153 ≤ 3071) ∧ (I167 0 160 = 0 → I167 0 161 ≤ 400000) ∧ (1 ≤ v2_89) ∧ (v3_105 + v2_89 ≤ I 0 143) ∧ (384 * a1 ≤ v5_153)) → (gr_FO a1 ((v2_89 * 25 + v3_105) * 32 + v4_121) I167) → gv_X (gr_E ws0 tb 10 (yX13_chart, cX13_chart, 7, (some .boolean)) kX13_chart) (gv_Q cX13_chart (some .boolean) (gr_sh ++ ext) (fun r hₚ => (∃ (Iₚ : gr_I) (Jₚ : gr_J), hₚ = gr_h Iₚ Jₚ ∧ gr_Inv Iₚ ∧ gr_fr [126, 127, 128, 157, 158, 160, 161, 166, 167, 168, 169, 170] [76, 77, 78, 79, 87, 88, 89, 90, 91, 92, 93, 94, 95, 96, 97, 98, 99, 100, 101, 103, 104] I Iₚ ∧ gr_fj [126, 127, 128, 157, 158, 160, 161, 166, 167, 168, 169, 170] [76, 77, 78, 79, 87, 88, 89, 90, 91, 92, 93, 94, 95, 96, 97, 98, 99, 100, 101, 103, 104] J Jₚ ∧ (∃ z : Int, r = some (.inl z) ∧ 0 ≤ z ∧ z ≤ 1 ∧ (gr_o (z = 0) (gr_CH a1 Iₚ)) ∧ (gr_KR I Iₚ))))) (295, [(0, .inr (.inr (some 0))), (1, .inl a1), (2, .inl v2_89), (3, .inl v3_105), (4, .inl v4_121), (5, .inl v5_153)], [], gr_sh ++ ext, gr_h I167 J168) := by
                    intro I167 J168 hI167 FI167 FJ168 KKR_I167 m_169 e0_169
                    clear ha1_153 hv2_89_153 hv3_105_153 hv4_121_153 hv5_153 e1_153 e2_153 e3_153 e4_153 f154 f155 f156 f157 f158 f159 f160 f161 f162 f163 t164 t165 t166
                    obtain ⟨ha1_169, hv2_89_169, hv3_105_169, hv4_121_169, hv5_153_169, e1_169, e2_169, e3_169, e4_169⟩ := m_169
                    have f170 := (gr_b_0_157 hI167)
                    have f171 := (gr_b_0_143 hI167)
                    have f172 := (gr_b_0_158 hI167)
                    have f173 := (gr_b_0_161 hI167)
                    have f174 := (gr_b_0_160 hI167)
                    have f175 := (gr_b_0_167 hI167)
                    have f176 := (gr_b_0_168 hI167)
                    have f177 := (gr_b_0_169 hI167)
                    have f178 := (gr_b_0_170 hI167)
                    have f179 := (gr_b_0_2 hI167)
                    have t180 := (gr_b_19 hI (Int.toNat a1))
                    have t181 := FI167 0 143 rfl
                    have t182 := FI167 19 (Int.toNat a1) rfl
                    refine gv_run 2 true hD (pcₚ := 164) (lvₚ := [(5, .inl (v5_153 + 1)), (0, .inr (.inr (some 0))), (1, .inl a1), (2, .inl v2_89), (3, .inl v3_105), (4, .inl v4_121)]) (stₚ := []) (hₚ := gr_h I167 J168) (C := ((True ∧ True) ∧ True)) rfl ⟨⟨trivial, trivial⟩, trivial⟩ ?_
                    refine gv_pick [1, 2, 3, 4, 5, 0] rfl ?_
                    exact ih164 I167 J168 (v5_153 + 1) (by exact gz_m 29 (by omega)) hI167 FI167 FJ168 KKR_I167 (by exact gz_m 30 (by omega)) (gr_FO_w e0_169 (by exact gz_m 31 (by omega)))
                  have L249 : ∀ (n : Nat) (I183 : gr_I) (J184 : gr_J) (v6_185 : Int), (3072 - v6_185).toNat < n → gr_Inv I183 → gr_fr [126, 127, 128, 157, 158, 160, 161, 166, 167, 168, 169, 170] [76, 77, 78, 79, 87, 88, 89, 90, 91, 92, 93, 94, 95, 96, 97, 98, 99, 100, 101, 103, 104] I I183 → gr_fj [126, 127, 128, 157, 158, 160, 161, 166, 167, 168, 169, 170] [76, 77, 78, 79, 87, 88, 89, 90, 91, 92, 93, 94, 95, 96, 97, 98, 99, 100, 101, 103, 104] J J184 → gr_KR I I183 → ((0 ≤ a1 ∧ a1 ≤ 7) ∧ (1 ≤ v2_89 ∧ v2_89 ≤ 24) ∧ (0 ≤ v3_105 ∧ v3_105 ≤ 23) ∧ (0 ≤ v4_121 ∧ v4_121 ≤ 31) ∧ (0 ≤ v5_153 ∧ v5_153 ≤ 3071) ∧ (0 ≤ v6_185 ∧ v6_185 ≤ 3071) ∧ (I183 0 161 ≤ 400000) ∧ (1 ≤ v2_89) ∧ (v3_105 + v2_89 ≤ I 0 143) ∧ (384 * a1 ≤ v5_153) ∧ (v5_153 < 384 * a1 + I 19 (Int.toNat a1)) ∧ (I 8 (Int.toNat (I 41 (Int.toNat v5_153))) = v4_121) ∧ (I183 0 167 = v5_153) ∧ (I183 0 168 = v3_105) ∧ (I183 0 169 = v3_105 + v2_89) ∧ (384 * a1 ≤ v6_185) ∧ (I183 0 170 ≤ v6_185 - 384 * a1)) → (gr_FO a1 ((v2_89 * 25 + v3_105) * 32 + v4_121) I183) → gv_X (gr_E ws0 tb 10 (yX13_chart, cX13_chart, 7, (some .boolean)) kX13_chart) (gv_Q cX13_chart (some .boolean) (gr_sh ++ ext) (fun r hₚ => (∃ (Iₚ : gr_I) (Jₚ : gr_J), hₚ = gr_h Iₚ Jₚ ∧ gr_Inv Iₚ ∧ gr_fr [126, 127, 128, 157, 158, 160, 161, 166, 167, 168, 169, 170] [76, 77, 78, 79, 87, 88, 89, 90, 91, 92, 93, 94, 95, 96, 97, 98, 99, 100, 101, 103, 104] I Iₚ ∧ gr_fj [126, 127, 128, 157, 158, 160, 161, 166, 167, 168, 169, 170] [76, 77, 78, 79, 87, 88, 89, 90, 91, 92, 93, 94, 95, 96, 97, 98, 99, 100, 101, 103, 104] J Jₚ ∧ (∃ z : Int, r = some (.inl z) ∧ 0 ≤ z ∧ z ≤ 1 ∧ (gr_o (z = 0) (gr_CH a1 Iₚ)) ∧ (gr_KR I Iₚ))))) (249, [(0, .inr (.inr (some 0))), (1, .inl a1), (2, .inl v2_89), (3, .inl v3_105), (4, .inl v4_121), (5, .inl v5_153), (6, .inl v6_185)], [], gr_sh ++ ext, gr_h I183 J184) := by
                    intro n
                    induction n with
                    | zero => intro I183 J184 v6_185 hn; exact gz_m 32 (by omega)
                    | succ n ih249 =>
                      intro I183 J184 v6_185 hn hI183 FI183 FJ184 KKR_I183 m_185 e0_185
                      clear ha1_153 hv2_89_153 hv3_105_153 hv4_121_153 hv5_153 e1_153 e2_153 e3_153 e4_153 f154 f155 f156 f157 f158 f159 f160 f161 f162 f163 t164 t165 t166
                      obtain ⟨ha1_185, hv2_89_185, hv3_105_185, hv4_121_185, hv5_153_185, hv6_185, e1_185, e2_185, e3_185, e4_185, e5_185, e6_185, e7_185, e8_185, e9_185, e10_185, e11_185⟩ := m_185
                      have f186 := (gr_b_0_157 hI183)
                      have f187 := (gr_b_0_143 hI183)
                      have f188 := (gr_b_0_158 hI183)
                      have f189 := (gr_b_0_161 hI183)
                      have f190 := (gr_b_0_160 hI183)
                      have f191 := (gr_b_0_167 hI183)
                      have f192 := (gr_b_0_168 hI183)
                      have f193 := (gr_b_0_169 hI183)
                      have f194 := (gr_b_0_170 hI183)
                      have f195 := (gr_b_0_2 hI183)
                      have t196 := (gr_b_19 hI (Int.toNat a1))
                      have t197 := FI183 0 143 rfl
                      have t198 := FI183 19 (Int.toNat a1) rfl
                      have L283 : ∀ (I199 : gr_I) (J200 : gr_J) , gr_Inv I199 → gr_fr [126, 127, 128, 157, 158, 160, 161, 166, 167, 168, 169, 170] [76, 77, 78, 79, 87, 88, 89, 90, 91, 92, 93, 94, 95, 96, 97, 98, 99, 100, 101, 103, 104] I I199 → gr_fj [126, 127, 128, 157, 158, 160, 161, 166, 167, 168, 169, 170] [76, 77, 78, 79, 87, 88, 89, 90, 91, 92, 93, 94, 95, 96, 97, 98, 99, 100, 101, 103, 104] J J200 → gr_KR I I199 → ((0 ≤ a1 ∧ a1 ≤ 7) ∧ (1 ≤ v2_89 ∧ v2_89 ≤ 24) ∧ (0 ≤ v3_105 ∧ v3_105 ≤ 23) ∧ (0 ≤ v4_121 ∧ v4_121 ≤ 31) ∧ (1 ≤ v5_153 ∧ v5_153 ≤ 3071) ∧ (0 ≤ v6_185 ∧ v6_185 ≤ 3070) ∧ (I199 0 161 ≤ 400000) ∧ (1 ≤ v2_89) ∧ (v3_105 + v2_89 ≤ I 0 143) ∧ (384 * a1 ≤ v5_153) ∧ (v5_153 < 384 * a1 + I 19 (Int.toNat a1)) ∧ (I 8 (Int.toNat (I 41 (Int.toNat v5_153))) = v4_121) ∧ (I199 0 167 = v5_153) ∧ (I199 0 168 = v3_105) ∧ (I199 0 169 = v3_105 + v2_89) ∧ (384 * a1 ≤ v6_185) ∧ (I199 0 170 ≤ v6_185 + 1 - 384 * a1) ∧ (v6_185 < v5_153)) → (gr_FO a1 ((v2_89 * 25 + v3_105) * 32 + v4_121) I199) → gv_X (gr_E ws0 tb 10 (yX13_chart, cX13_chart, 7, (some .boolean)) kX13_chart) (gv_Q cX13_chart (some .boolean) (gr_sh ++ ext) (fun r hₚ => (∃ (Iₚ : gr_I) (Jₚ : gr_J), hₚ = gr_h Iₚ Jₚ ∧ gr_Inv Iₚ ∧ gr_fr [126, 127, 128, 157, 158, 160, 161, 166, 167, 168, 169, 170] [76, 77, 78, 79, 87, 88, 89, 90, 91, 92, 93, 94, 95, 96, 97, 98, 99, 100, 101, 103, 104] I Iₚ ∧ gr_fj [126, 127, 128, 157, 158, 160, 161, 166, 167, 168, 169, 170] [76, 77, 78, 79, 87, 88, 89, 90, 91, 92, 93, 94, 95, 96, 97, 98, 99, 100, 101, 103, 104] J Jₚ ∧ (∃ z : Int, r = some (.inl z) ∧ 0 ≤ z ∧ z ≤ 1 ∧ (gr_o (z = 0) (gr_CH a1 Iₚ)) ∧ (gr_KR I Iₚ))))) (283, [(0, .inr (.inr (some 0))), (1, .inl a1), (2, .inl v2_89), (3, .inl v3_105), (4, .inl v4_121), (5, .inl v5_153), (6, .inl v6_185)], [], gr_sh ++ ext, gr_h I199 J200) := by
                        intro I199 J200 hI199 FI199 FJ200 KKR_I199 m_201 e0_201
                        clear ha1_185 hv2_89_185 hv3_105_185 hv4_121_185 hv5_153_185 hv6_185 e1_185 e2_185 e3_185 e4_185 e5_185 e6_185 e7_185 e8_185 e9_185 e10_185 e11_185 f186 f187 f188 f189 f190 f191 f192 f193 f194 f195 t196 t197 t198
                        obtain ⟨ha1_201, hv2_89_201, hv3_105_201, hv4_121_201, hv5_153_201, hv6_185_201, e1_201, e2_201, e3_201, e4_201, e5_201, e6_201, e7_201, e8_201, e9_201, e10_201, e11_201, e12_201⟩ := m_201
                        have f202 := (gr_b_0_157 hI199)
                        have f203 := (gr_b_0_143 hI199)
                        have f204 := (gr_b_0_158 hI199)
                        have f205 := (gr_b_0_161 hI199)
                        have f206 := (gr_b_0_160 hI199)
                        have f207 := (gr_b_0_167 hI199)
                        have f208 := (gr_b_0_168 hI199)
                        have f209 := (gr_b_0_169 hI199)
                        have f210 := (gr_b_0_170 hI199)
                        have f211 := (gr_b_0_2 hI199)
                        have t212 := (gr_b_19 hI (Int.toNat a1))
                        have t213 := FI199 0 143 rfl
                        have t214 := FI199 19 (Int.toNat a1) rfl
                        refine gv_run 2 true hD (pcₚ := 249) (lvₚ := [(6, .inl (v6_185 + 1)), (0, .inr (.inr (some 0))), (1, .inl a1), (2, .inl v2_89), (3, .inl v3_105), (4, .inl v4_121), (5, .inl v5_153)]) (stₚ := []) (hₚ := gr_h I199 J200) (C := ((True ∧ True) ∧ True)) rfl ⟨⟨trivial, trivial⟩, trivial⟩ ?_
                        refine gv_pick [1, 2, 3, 4, 5, 6, 0] rfl ?_
                        exact ih249 I199 J200 (v6_185 + 1) (by exact gz_m 33 (by omega)) hI199 FI199 FJ200 KKR_I199 (by exact gz_m 34 (by omega)) (gr_FO_w e0_201 (by exact gz_m 35 (by omega)))
                      refine gv_run 2 true hD (pcₚ := 253) (lvₚ := [(0, .inr (.inr (some 0))), (1, .inl a1), (2, .inl v2_89), (3, .inl v3_105), (4, .inl v4_121), (5, .inl v5_153), (6, .inl v6_185)]) (stₚ := [.inl v5_153, .inl v6_185]) (hₚ := gr_h I183 J184) (C := ((True ∧ True) ∧ True)) rfl ⟨⟨trivial, trivial⟩, trivial⟩ ?_
                      refine gv_icmp_ge (t := 289) hD rfl rfl ⟨⟨by exact gz_m 36 (by omega), by exact gz_m 37 (by omega)⟩, ⟨by exact gz_m 38 (by omega), by exact gz_m 39 (by omega)⟩⟩ (fun c215 => ?_) (fun c215 => ?_)
                      · refine gv_run 3 true hD (pcₚ := 292) (lvₚ := [(0, .inr (.inr (some 0))), (1, .inl a1), (2, .inl v2_89), (3, .inl v3_105), (4, .inl v4_121), (5, .inl v5_153), (6, .inl v6_185)]) (stₚ := [.inl v3_105, .inl 0, .inr (.inr (some 0))]) (hₚ := gr_h I183 J184) (C := (((True ∧ True) ∧ True) ∧ True)) rfl ⟨⟨⟨trivial, trivial⟩, trivial⟩, trivial⟩ ?_
                        obtain ⟨r216, h216, E216, P216⟩ := r_match (ws0 := ws0) (tb := tb) hws htb ext a1 ((v2_89 * 25 + v3_105) * 32 + v4_121) 7 I183 J184 hI183 0 v3_105 ⟨by exact gz_m 40 (by omega), by exact gz_m 41 (by omega)⟩ ⟨by exact gz_m 42 (by omega), by exact gz_m 43 (by omega)⟩ (gr_GR_F x0 FI183) e0_185 ⟨by exact gz_m 44 (by omega), fun k hk => absurd hk (by exact gz_m 45 (by omega))⟩ (by have u1 : I183 0 167 = v5_153 := (by exact gz_m 46 (by omega)); rw [u1, FI183 41 _ rfl, FI183 8 _ rfl]; exact gz_m 47 (by omega)) (by exact gz_m 48 (by omega)) (by exact gz_m 49 (by omega)) (by exact gz_m 50 (by omega)) (by exact gz_m 51 (by omega)) (by exact gz_m 52 (by omega)) (gr_b_42 hI183 (Int.toNat (I183 0 167))).1 (by exact gz_m 53 (by omega)) (by exact gz_m 54 (by omega)) (by exact gz_m 55 (by omega))
                        obtain ⟨I217, J218, rfl, hI217, g216, k216, ⟨rfl, q216⟩⟩ := P216
                        have FI217 := gr_frt FI183 g216 rfl rfl
                        have FJ218 := gr_fjt FJ184 k216 rfl rfl
                        have t219 := g216 0 143 rfl
                        have t220 := g216 0 167 rfl
                        have t221 := g216 0 168 rfl
                        have t222 := g216 0 169 rfl
                        have t223 := g216 0 170 rfl
                        have t224 := g216 0 2 rfl
                        have f225 := (gr_b_0_157 hI217)
                        have f226 := (gr_b_0_143 hI217)
                        have f227 := (gr_b_0_158 hI217)
                        have f228 := (gr_b_0_161 hI217)
                        have f229 := (gr_b_0_160 hI217)
                        have f230 := (gr_b_0_167 hI217)
                        have f231 := (gr_b_0_168 hI217)
                        have f232 := (gr_b_0_169 hI217)
                        have f233 := (gr_b_0_170 hI217)
                        have f234 := (gr_b_0_2 hI217)
                        have KKR_I217 := gr_KR_g KKR_I183 g216 (by decide)
                        have t235 := q216.2.1.1
                        refine gv_callV hD rfl (As := [.inl 0, .inl v3_105]) (st := []) rfl (by decide) rfl rfl (gr_lV hws rfl) (Nat.le_of_ble_eq_true rfl) (gz_Ev_mono (d := 10) (by decide) E216) ?_
                        show gv_X _ _ (295, [(0, .inr (.inr (some 0))), (1, .inl a1), (2, .inl v2_89), (3, .inl v3_105), (4, .inl v4_121), (5, .inl v5_153), (6, .inl v6_185)], [], gr_sh ++ ext, gr_h I217 J218)
                        refine gv_pick [0, 1, 2, 3, 4, 5] rfl ?_
                        exact L295 I217 J218 hI217 FI217 FJ218 KKR_I217 (by exact gz_m 56 (by omega)) (gr_FO_w q216.1 (by exact gz_m 57 (by omega)))
                      · have f236 := (gr_b_41 hI183 (Int.toNat v6_185))
                        refine gv_run 4 true hD (pcₚ := 263) (lvₚ := [(0, .inr (.inr (some 0))), (1, .inl a1), (2, .inl v2_89), (3, .inl v3_105), (4, .inl v4_121), (5, .inl v5_153), (6, .inl v6_185)]) (stₚ := [.inl (I183 41 (Int.toNat v6_185))]) (hₚ := gr_h I183 J184) (C := ((((True ∧ True) ∧ True) ∧ True) ∧ (0 ≤ v6_185 ∧ v6_185 < ((3072 : Nat) : Int)))) rfl ⟨⟨⟨⟨trivial, trivial⟩, trivial⟩, trivial⟩, ⟨by exact gz_m 58 (by omega), by exact gz_m 59 (by omega)⟩⟩ ?_
                        have f237 := (gr_b_41 hI183 (Int.toNat v5_153))
                        refine gv_run 4 true hD (pcₚ := 270) (lvₚ := [(0, .inr (.inr (some 0))), (1, .inl a1), (2, .inl v2_89), (3, .inl v3_105), (4, .inl v4_121), (5, .inl v5_153), (6, .inl v6_185)]) (stₚ := [.inl (I183 41 (Int.toNat v5_153)), .inl (I183 41 (Int.toNat v6_185))]) (hₚ := gr_h I183 J184) (C := ((((True ∧ True) ∧ True) ∧ True) ∧ (0 ≤ v5_153 ∧ v5_153 < ((3072 : Nat) : Int)))) rfl ⟨⟨⟨⟨trivial, trivial⟩, trivial⟩, trivial⟩, ⟨by exact gz_m 60 (by omega), by exact gz_m 61 (by omega)⟩⟩ ?_
                        refine gv_icmp_ne (t := 283) hD rfl rfl ⟨⟨by exact gz_m 62 (by omega), by exact gz_m 63 (by omega)⟩, ⟨by exact gz_m 64 (by omega), by exact gz_m 65 (by omega)⟩⟩ (fun c238 => ?_) (fun c238 => ?_)
                        · exact L283 I183 J184 hI183 FI183 FJ184 KKR_I183 (by exact gz_m 66 (by omega)) (gr_FO_w e0_185 (by exact gz_m 67 (by omega)))
                        · have f239 := (gr_b_0_170 hI183)
                          refine gv_run 5 true hD (pcₚ := 280) (lvₚ := [(0, .inr (.inr (some 0))), (1, .inl a1), (2, .inl v2_89), (3, .inl v3_105), (4, .inl v4_121), (5, .inl v5_153), (6, .inl v6_185)]) (stₚ := [.inl ((I183 0 170) + 1), .inr (.inr (some 0))]) (hₚ := gr_h I183 J184) (C := (((((True ∧ True) ∧ True) ∧ True) ∧ True) ∧ True)) rfl ⟨⟨⟨⟨⟨trivial, trivial⟩, trivial⟩, trivial⟩, trivial⟩, trivial⟩ ?_
                          refine gv_run 1 true hD (pcₚ := 283) (lvₚ := [(0, .inr (.inr (some 0))), (1, .inl a1), (2, .inl v2_89), (3, .inl v3_105), (4, .inl v4_121), (5, .inl v5_153), (6, .inl v6_185)]) (stₚ := []) (hₚ := gz_up (gr_h I183 J184) 0 170 (.inl (((I183 0 170) + 1)))) (C := (True ∧ True)) rfl ⟨trivial, trivial⟩ ?_
                          refine gr_st hI183 FI183 rfl rfl ⟨⟨by show 0 ≤ _; exact gz_m 68 (by omega), by show _ ≤ 384; exact gz_m 69 (by omega)⟩, trivial⟩ (fun I240 hI240 FI240 q241 p241 => ?_)
                          have t242 := p241 0 157 (by decide)
                          have t243 := p241 0 143 (by decide)
                          have t244 := p241 0 158 (by decide)
                          have t245 := p241 0 161 (by decide)
                          have t246 := p241 0 160 (by decide)
                          have t247 := p241 0 167 (by decide)
                          have t248 := p241 0 168 (by decide)
                          have t249 := p241 0 169 (by decide)
                          have t250 := p241 0 2 (by decide)
                          have f251 := (gr_b_0_157 hI240)
                          have f252 := (gr_b_0_143 hI240)
                          have f253 := (gr_b_0_158 hI240)
                          have f254 := (gr_b_0_161 hI240)
                          have f255 := (gr_b_0_160 hI240)
                          have f256 := (gr_b_0_167 hI240)
                          have f257 := (gr_b_0_168 hI240)
                          have f258 := (gr_b_0_169 hI240)
                          have f259 := (gr_b_0_170 hI240)
                          have f260 := (gr_b_0_2 hI240)
                          have KKR_I240 := gr_KR_f KKR_I183 p241 (by decide)
                          have t261 := (gr_b_19 hI (Int.toNat a1))
                          have t262 := FI240 0 143 rfl
                          have t263 := FI240 19 (Int.toNat a1) rfl
                          exact L283 I240 J184 hI240 FI240 FJ184 KKR_I240 (by exact gz_m 70 (by omega)) (gr_FO_w (gr_FO_fr e0_185 hI183 (fun k => p241 87 k (fun q => absurd q.1 (by first | exact gz_ne rfl | decide))) (fun k => p241 88 k (fun q => absurd q.1 (by first | exact gz_ne rfl | decide))) (fun k => p241 104 k (fun q => absurd q.1 (by first | exact gz_ne rfl | decide))) (fun k => p241 90 k (fun q => absurd q.1 (by first | exact gz_ne rfl | decide))) (fun k => p241 93 k (fun q => absurd q.1 (by first | exact gz_ne rfl | decide))) (fun k => p241 92 k (fun q => absurd q.1 (by first | exact gz_ne rfl | decide))) (fun k => p241 94 k (fun q => absurd q.1 (by first | exact gz_ne rfl | decide))) (fun k => p241 95 k (fun q => absurd q.1 (by first | exact gz_ne rfl | decide))) (fun k => p241 97 k (fun q => absurd q.1 (by first | exact gz_ne rfl | decide))) (fun k => p241 98 k (fun q => absurd q.1 (by first | exact gz_ne rfl | decide))) (fun k => p241 19 k (fun q => absurd q.1 (by first | exact gz_ne rfl | decide))) (fun k => p241 18 k (fun q => absurd q.1 (by first | exact gz_ne rfl | decide))) (fun k => p241 41 k (fun q => absurd q.1 (by first | exact gz_ne rfl | decide))) (fun k => p241 6 k (fun q => absurd q.1 (by first | exact gz_ne rfl | decide))) (by exact gz_m 71 (by omega)) (by exact gz_m 72 (by omega)) (by exact gz_m 73 (by omega))) (by exact gz_m 74 (by omega)))
                  have L301 : ((0 ≤ a1 ∧ a1 ≤ 7) ∧ (1 ≤ v2_89 ∧ v2_89 ≤ 24) ∧ (0 ≤ v3_105 ∧ v3_105 ≤ 23) ∧ (0 ≤ v4_121 ∧ v4_121 ≤ 31) ∧ (I151 0 160 = 0 → I151 0 161 ≤ 400000) ∧ (1 ≤ v2_89) ∧ (v3_105 + v2_89 ≤ I 0 143)) → (gr_FO a1 ((v2_89 * 25 + v3_105) * 32 + v4_121) I151) → gv_X (gr_E ws0 tb 10 (yX13_chart, cX13_chart, 7, (some .boolean)) kX13_chart) (gv_Q cX13_chart (some .boolean) (gr_sh ++ ext) (fun r hₚ => (∃ (Iₚ : gr_I) (Jₚ : gr_J), hₚ = gr_h Iₚ Jₚ ∧ gr_Inv Iₚ ∧ gr_fr [126, 127, 128, 157, 158, 160, 161, 166, 167, 168, 169, 170] [76, 77, 78, 79, 87, 88, 89, 90, 91, 92, 93, 94, 95, 96, 97, 98, 99, 100, 101, 103, 104] I Iₚ ∧ gr_fj [126, 127, 128, 157, 158, 160, 161, 166, 167, 168, 169, 170] [76, 77, 78, 79, 87, 88, 89, 90, 91, 92, 93, 94, 95, 96, 97, 98, 99, 100, 101, 103, 104] J Jₚ ∧ (∃ z : Int, r = some (.inl z) ∧ 0 ≤ z ∧ z ≤ 1 ∧ (gr_o (z = 0) (gr_CH a1 Iₚ)) ∧ (gr_KR I Iₚ))))) (301, [(0, .inr (.inr (some 0))), (1, .inl a1), (2, .inl v2_89), (3, .inl v3_105), (4, .inl v4_121)], [], gr_sh ++ ext, gr_h I151 J152) := by
                    intro m_264 e0_264
                    obtain ⟨ha1_264, hv2_89_264, hv3_105_264, hv4_121_264, e1_264, e2_264, e3_264⟩ := m_264
                    have f265 := (gr_b_0_157 hI151)
                    have f266 := (gr_b_0_143 hI151)
                    have f267 := (gr_b_0_158 hI151)
                    have f268 := (gr_b_0_161 hI151)
                    have f269 := (gr_b_0_160 hI151)
                    have f270 := (gr_b_0_167 hI151)
                    have f271 := (gr_b_0_168 hI151)
                    have f272 := (gr_b_0_169 hI151)
                    have f273 := (gr_b_0_170 hI151)
                    have f274 := (gr_b_0_2 hI151)
                    have t275 := (gr_b_19 hI (Int.toNat a1))
                    have t276 := FI151 0 143 rfl
                    have t277 := FI151 19 (Int.toNat a1) rfl
                    refine gv_run 2 true hD (pcₚ := 128) (lvₚ := [(4, .inl (v4_121 + 1)), (0, .inr (.inr (some 0))), (1, .inl a1), (2, .inl v2_89), (3, .inl v3_105)]) (stₚ := []) (hₚ := gr_h I151 J152) (C := ((True ∧ True) ∧ True)) rfl ⟨⟨trivial, trivial⟩, trivial⟩ ?_
                    refine gv_pick [1, 2, 3, 4, 0] rfl ?_
                    exact ih128 I151 J152 (v4_121 + 1) (by exact gz_m 75 (by omega)) hI151 FI151 FJ152 KKR_I151 (by exact gz_m 76 (by omega)) (gr_FO_w e0_264 (by exact gz_m 77 (by omega)))
                  refine gv_run 7 true hD (pcₚ := 176) (lvₚ := [(0, .inr (.inr (some 0))), (1, .inl a1), (2, .inl v2_89), (3, .inl v3_105), (4, .inl v4_121), (5, .inl v5_153)]) (stₚ := [.inl a1, .inr (.inr (some 19)), .inl (384 * a1), .inl v5_153]) (hₚ := gr_h I151 J152) (C := (((((((True ∧ True) ∧ True) ∧ True) ∧ True) ∧ True) ∧ True) ∧ True)) rfl ⟨⟨⟨⟨⟨⟨⟨trivial, trivial⟩, trivial⟩, trivial⟩, trivial⟩, trivial⟩, trivial⟩, trivial⟩ ?_
                  have f278 := (gr_b_19 hI151 (Int.toNat a1))
                  refine gv_run 1 true hD (pcₚ := 177) (lvₚ := [(0, .inr (.inr (some 0))), (1, .inl a1), (2, .inl v2_89), (3, .inl v3_105), (4, .inl v4_121), (5, .inl v5_153)]) (stₚ := [.inl (I151 19 (Int.toNat a1)), .inl (384 * a1), .inl v5_153]) (hₚ := gr_h I151 J152) (C := (True ∧ (0 ≤ a1 ∧ a1 < ((8 : Nat) : Int)))) rfl ⟨trivial, ⟨by exact gz_m 78 (by omega), by exact gz_m 79 (by omega)⟩⟩ ?_
                  refine gv_run 1 true hD (pcₚ := 178) (lvₚ := [(0, .inr (.inr (some 0))), (1, .inl a1), (2, .inl v2_89), (3, .inl v3_105), (4, .inl v4_121), (5, .inl v5_153)]) (stₚ := [.inl ((384 * a1) + (I151 19 (Int.toNat a1))), .inl v5_153]) (hₚ := gr_h I151 J152) (C := (True ∧ True)) rfl ⟨trivial, trivial⟩ ?_
                  refine gv_icmp_ge (t := 301) hD rfl rfl ⟨⟨by exact gz_m 80 (by omega), by exact gz_m 81 (by omega)⟩, ⟨by exact gz_m 82 (by omega), by exact gz_m 83 (by omega)⟩⟩ (fun c279 => ?_) (fun c279 => ?_)
                  · refine gv_pick [0, 1, 2, 3, 4] rfl ?_
                    exact L301 (by exact gz_m 84 (by omega)) (gr_FO_w e0_153 (by exact gz_m 85 (by omega)))
                  · have f280 := (gr_b_0_160 hI151)
                    refine gv_run 2 true hD (pcₚ := 185) (lvₚ := [(0, .inr (.inr (some 0))), (1, .inl a1), (2, .inl v2_89), (3, .inl v3_105), (4, .inl v4_121), (5, .inl v5_153)]) (stₚ := [.inl (I151 0 160)]) (hₚ := gr_h I151 J152) (C := ((True ∧ True) ∧ True)) rfl ⟨⟨trivial, trivial⟩, trivial⟩ ?_
                    refine gv_if_ne (t := 301) hD rfl rfl ⟨by exact gz_m 86 (by omega), by exact gz_m 87 (by omega)⟩ (fun c281 => ?_) (fun c281 => ?_)
                    · refine gv_pick [0, 1, 2, 3, 4] rfl ?_
                      exact L301 (by exact gz_m 88 (by omega)) (gr_FO_w e0_153 (by exact gz_m 89 (by omega)))
                    · have f282 := (gr_b_41 hI151 (Int.toNat v5_153))
                      refine gv_run 6 true hD (pcₚ := 199) (lvₚ := [(0, .inr (.inr (some 0))), (1, .inl a1), (2, .inl v2_89), (3, .inl v3_105), (4, .inl v4_121), (5, .inl v5_153)]) (stₚ := [.inl (I151 41 (Int.toNat v5_153)), .inr (.inr (some 8))]) (hₚ := gr_h I151 J152) (C := ((((((True ∧ True) ∧ True) ∧ True) ∧ True) ∧ True) ∧ (0 ≤ v5_153 ∧ v5_153 < ((3072 : Nat) : Int)))) rfl ⟨⟨⟨⟨⟨⟨trivial, trivial⟩, trivial⟩, trivial⟩, trivial⟩, trivial⟩, ⟨by exact gz_m 90 (by omega), by exact gz_m 91 (by omega)⟩⟩ ?_
                      have f283 := (gr_b_8 hI151 (Int.toNat ((I151 41 (Int.toNat v5_153)))))
                      refine gv_run 1 true hD (pcₚ := 200) (lvₚ := [(0, .inr (.inr (some 0))), (1, .inl a1), (2, .inl v2_89), (3, .inl v3_105), (4, .inl v4_121), (5, .inl v5_153)]) (stₚ := [.inl (I151 8 (Int.toNat ((I151 41 (Int.toNat v5_153)))))]) (hₚ := gr_h I151 J152) (C := (True ∧ (0 ≤ ((I151 41 (Int.toNat v5_153))) ∧ ((I151 41 (Int.toNat v5_153))) < ((96 : Nat) : Int)))) rfl ⟨trivial, ⟨by exact gz_m 92 (by omega), by exact gz_m 93 (by omega)⟩⟩ ?_
                      refine gv_run 1 true hD (pcₚ := 202) (lvₚ := [(0, .inr (.inr (some 0))), (1, .inl a1), (2, .inl v2_89), (3, .inl v3_105), (4, .inl v4_121), (5, .inl v5_153)]) (stₚ := [.inl v4_121, .inl (I151 8 (Int.toNat ((I151 41 (Int.toNat v5_153)))))]) (hₚ := gr_h I151 J152) (C := (True ∧ True)) rfl ⟨trivial, trivial⟩ ?_
                      have t284 := (show I151 8 (Int.toNat (I151 41 (Int.toNat v5_153))) = I 8 (Int.toNat (I 41 (Int.toNat v5_153))) from by rw [FI151 41 _ rfl, FI151 8 _ rfl])
                      refine gv_icmp_ne (t := 295) hD rfl rfl ⟨⟨by exact gz_m 94 (by omega), by exact gz_m 95 (by omega)⟩, ⟨by exact gz_m 96 (by omega), by exact gz_m 97 (by omega)⟩⟩ (fun c285 => ?_) (fun c285 => ?_)
                      · exact L295 I151 J152 hI151 FI151 FJ152 KKR_I151 (by exact gz_m 98 (by omega)) (gr_FO_w e0_153 (by exact gz_m 99 (by omega)))
                      · have f286 := (gr_b_42 hI151 (Int.toNat v5_153))
                        refine gv_run 4 true hD (pcₚ := 212) (lvₚ := [(0, .inr (.inr (some 0))), (1, .inl a1), (2, .inl v2_89), (3, .inl v3_105), (4, .inl v4_121), (5, .inl v5_153)]) (stₚ := [.inl (I151 42 (Int.toNat v5_153))]) (hₚ := gr_h I151 J152) (C := ((((True ∧ True) ∧ True) ∧ True) ∧ (0 ≤ v5_153 ∧ v5_153 < ((3072 : Nat) : Int)))) rfl ⟨⟨⟨⟨trivial, trivial⟩, trivial⟩, trivial⟩, ⟨by exact gz_m 100 (by omega), by exact gz_m 101 (by omega)⟩⟩ ?_
                        refine gv_run 1 true hD (pcₚ := 213) (lvₚ := [(0, .inr (.inr (some 0))), (1, .inl a1), (2, .inl v2_89), (3, .inl v3_105), (4, .inl v4_121), (5, .inl v5_153)]) (stₚ := [.inl v2_89, .inl (I151 42 (Int.toNat v5_153))]) (hₚ := gr_h I151 J152) (C := (True ∧ True)) rfl ⟨trivial, trivial⟩ ?_
                        refine gv_icmp_le (t := 219) hD rfl rfl ⟨⟨by exact gz_m 102 (by omega), by exact gz_m 103 (by omega)⟩, ⟨by exact gz_m 104 (by omega), by exact gz_m 105 (by omega)⟩⟩ (fun c287 => ?_) (fun c287 => ?_)
                        · refine gv_run 3 true hD (pcₚ := 225) (lvₚ := [(0, .inr (.inr (some 0))), (1, .inl a1), (2, .inl v2_89), (3, .inl v3_105), (4, .inl v4_121), (5, .inl v5_153)]) (stₚ := []) (hₚ := gz_up (gr_h I151 J152) 0 167 (.inl v5_153)) (C := (((True ∧ True) ∧ True) ∧ True)) rfl ⟨⟨⟨trivial, trivial⟩, trivial⟩, trivial⟩ ?_
                          refine gr_st hI151 FI151 rfl rfl ⟨⟨by show 0 ≤ _; exact gz_m 106 (by omega), by show _ ≤ 3071; exact gz_m 107 (by omega)⟩, trivial⟩ (fun I288 hI288 FI288 q289 p289 => ?_)
                          have t290 := p289 0 157 (by decide)
                          have t291 := p289 0 143 (by decide)
                          have t292 := p289 0 158 (by decide)
                          have t293 := p289 0 161 (by decide)
                          have t294 := p289 0 160 (by decide)
                          have t295 := p289 0 168 (by decide)
                          have t296 := p289 0 169 (by decide)
                          have t297 := p289 0 170 (by decide)
                          have t298 := p289 0 2 (by decide)
                          have f299 := (gr_b_0_157 hI288)
                          have f300 := (gr_b_0_143 hI288)
                          have f301 := (gr_b_0_158 hI288)
                          have f302 := (gr_b_0_161 hI288)
                          have f303 := (gr_b_0_160 hI288)
                          have f304 := (gr_b_0_167 hI288)
                          have f305 := (gr_b_0_168 hI288)
                          have f306 := (gr_b_0_169 hI288)
                          have f307 := (gr_b_0_170 hI288)
                          have f308 := (gr_b_0_2 hI288)
                          have KKR_I288 := gr_KR_f KKR_I151 p289 (by decide)
                          have t309 := (gr_b_19 hI (Int.toNat a1))
                          have t310 := FI288 0 143 rfl
                          have t311 := FI288 19 (Int.toNat a1) rfl
                          refine gv_run 3 true hD (pcₚ := 230) (lvₚ := [(0, .inr (.inr (some 0))), (1, .inl a1), (2, .inl v2_89), (3, .inl v3_105), (4, .inl v4_121), (5, .inl v5_153)]) (stₚ := []) (hₚ := gz_up (gr_h I288 J152) 0 168 (.inl v3_105)) (C := (((True ∧ True) ∧ True) ∧ True)) rfl ⟨⟨⟨trivial, trivial⟩, trivial⟩, trivial⟩ ?_
                          refine gr_st hI288 FI288 rfl rfl ⟨⟨by show 0 ≤ _; exact gz_m 108 (by omega), by show _ ≤ 24; exact gz_m 109 (by omega)⟩, trivial⟩ (fun I312 hI312 FI312 q313 p313 => ?_)
                          have t314 := p313 0 157 (by decide)
                          have t315 := p313 0 143 (by decide)
                          have t316 := p313 0 158 (by decide)
                          have t317 := p313 0 161 (by decide)
                          have t318 := p313 0 160 (by decide)
                          have t319 := p313 0 167 (by decide)
                          have t320 := p313 0 169 (by decide)
                          have t321 := p313 0 170 (by decide)
                          have t322 := p313 0 2 (by decide)
                          have f323 := (gr_b_0_157 hI312)
                          have f324 := (gr_b_0_143 hI312)
                          have f325 := (gr_b_0_158 hI312)
                          have f326 := (gr_b_0_161 hI312)
                          have f327 := (gr_b_0_160 hI312)
                          have f328 := (gr_b_0_167 hI312)
                          have f329 := (gr_b_0_168 hI312)
                          have f330 := (gr_b_0_169 hI312)
                          have f331 := (gr_b_0_170 hI312)
                          have f332 := (gr_b_0_2 hI312)
                          have KKR_I312 := gr_KR_f KKR_I288 p313 (by decide)
                          have t333 := (gr_b_19 hI (Int.toNat a1))
                          have t334 := FI312 0 143 rfl
                          have t335 := FI312 19 (Int.toNat a1) rfl
                          refine gv_run 4 true hD (pcₚ := 234) (lvₚ := [(0, .inr (.inr (some 0))), (1, .inl a1), (2, .inl v2_89), (3, .inl v3_105), (4, .inl v4_121), (5, .inl v5_153)]) (stₚ := [.inl (v3_105 + v2_89), .inr (.inr (some 0))]) (hₚ := gr_h I312 J152) (C := ((((True ∧ True) ∧ True) ∧ True) ∧ True)) rfl ⟨⟨⟨⟨trivial, trivial⟩, trivial⟩, trivial⟩, trivial⟩ ?_
                          refine gv_run 1 true hD (pcₚ := 237) (lvₚ := [(0, .inr (.inr (some 0))), (1, .inl a1), (2, .inl v2_89), (3, .inl v3_105), (4, .inl v4_121), (5, .inl v5_153)]) (stₚ := []) (hₚ := gz_up (gr_h I312 J152) 0 169 (.inl (v3_105 + v2_89))) (C := (True ∧ True)) rfl ⟨trivial, trivial⟩ ?_
                          refine gr_st hI312 FI312 rfl rfl ⟨⟨by show 0 ≤ _; exact gz_m 110 (by omega), by show _ ≤ 24; exact gz_m 111 (by omega)⟩, trivial⟩ (fun I336 hI336 FI336 q337 p337 => ?_)
                          have t338 := p337 0 157 (by decide)
                          have t339 := p337 0 143 (by decide)
                          have t340 := p337 0 158 (by decide)
                          have t341 := p337 0 161 (by decide)
                          have t342 := p337 0 160 (by decide)
                          have t343 := p337 0 167 (by decide)
                          have t344 := p337 0 168 (by decide)
                          have t345 := p337 0 170 (by decide)
                          have t346 := p337 0 2 (by decide)
                          have f347 := (gr_b_0_157 hI336)
                          have f348 := (gr_b_0_143 hI336)
                          have f349 := (gr_b_0_158 hI336)
                          have f350 := (gr_b_0_161 hI336)
                          have f351 := (gr_b_0_160 hI336)
                          have f352 := (gr_b_0_167 hI336)
                          have f353 := (gr_b_0_168 hI336)
                          have f354 := (gr_b_0_169 hI336)
                          have f355 := (gr_b_0_170 hI336)
                          have f356 := (gr_b_0_2 hI336)
                          have KKR_I336 := gr_KR_f KKR_I312 p337 (by decide)
                          have t357 := (gr_b_19 hI (Int.toNat a1))
                          have t358 := FI336 0 143 rfl
                          have t359 := FI336 19 (Int.toNat a1) rfl
                          refine gv_run 3 true hD (pcₚ := 242) (lvₚ := [(0, .inr (.inr (some 0))), (1, .inl a1), (2, .inl v2_89), (3, .inl v3_105), (4, .inl v4_121), (5, .inl v5_153)]) (stₚ := []) (hₚ := gz_up (gr_h I336 J152) 0 170 (.inl 0)) (C := (((True ∧ True) ∧ True) ∧ True)) rfl ⟨⟨⟨trivial, trivial⟩, trivial⟩, trivial⟩ ?_
                          refine gr_st hI336 FI336 rfl rfl ⟨⟨by show 0 ≤ _; exact gz_m 112 (by omega), by show _ ≤ 384; exact gz_m 113 (by omega)⟩, trivial⟩ (fun I360 hI360 FI360 q361 p361 => ?_)
                          have t362 := p361 0 157 (by decide)
                          have t363 := p361 0 143 (by decide)
                          have t364 := p361 0 158 (by decide)
                          have t365 := p361 0 161 (by decide)
                          have t366 := p361 0 160 (by decide)
                          have t367 := p361 0 167 (by decide)
                          have t368 := p361 0 168 (by decide)
                          have t369 := p361 0 169 (by decide)
                          have t370 := p361 0 2 (by decide)
                          have f371 := (gr_b_0_157 hI360)
                          have f372 := (gr_b_0_143 hI360)
                          have f373 := (gr_b_0_158 hI360)
                          have f374 := (gr_b_0_161 hI360)
                          have f375 := (gr_b_0_160 hI360)
                          have f376 := (gr_b_0_167 hI360)
                          have f377 := (gr_b_0_168 hI360)
                          have f378 := (gr_b_0_169 hI360)
                          have f379 := (gr_b_0_170 hI360)
                          have f380 := (gr_b_0_2 hI360)
                          have KKR_I360 := gr_KR_f KKR_I336 p361 (by decide)
                          have t381 := (gr_b_19 hI (Int.toNat a1))
                          have t382 := FI360 0 143 rfl
                          have t383 := FI360 19 (Int.toNat a1) rfl
                          refine gv_run 4 true hD (pcₚ := 249) (lvₚ := [(6, .inl (384 * a1)), (0, .inr (.inr (some 0))), (1, .inl a1), (2, .inl v2_89), (3, .inl v3_105), (4, .inl v4_121), (5, .inl v5_153)]) (stₚ := []) (hₚ := gr_h I360 J152) (C := ((((True ∧ True) ∧ True) ∧ True) ∧ True)) rfl ⟨⟨⟨⟨trivial, trivial⟩, trivial⟩, trivial⟩, trivial⟩ ?_
                          refine gv_pick [1, 2, 3, 4, 5, 6, 0] rfl ?_
                          exact L249 _ I360 J152 (384 * a1) (Nat.lt_succ_self _) hI360 FI360 FJ152 KKR_I360 (by exact gz_m 114 (by omega)) (gr_FO_w (gr_FO_fr (gr_FO_fr (gr_FO_fr (gr_FO_fr e0_153 hI151 (fun k => p289 87 k (fun q => absurd q.1 (by first | exact gz_ne rfl | decide))) (fun k => p289 88 k (fun q => absurd q.1 (by first | exact gz_ne rfl | decide))) (fun k => p289 104 k (fun q => absurd q.1 (by first | exact gz_ne rfl | decide))) (fun k => p289 90 k (fun q => absurd q.1 (by first | exact gz_ne rfl | decide))) (fun k => p289 93 k (fun q => absurd q.1 (by first | exact gz_ne rfl | decide))) (fun k => p289 92 k (fun q => absurd q.1 (by first | exact gz_ne rfl | decide))) (fun k => p289 94 k (fun q => absurd q.1 (by first | exact gz_ne rfl | decide))) (fun k => p289 95 k (fun q => absurd q.1 (by first | exact gz_ne rfl | decide))) (fun k => p289 97 k (fun q => absurd q.1 (by first | exact gz_ne rfl | decide))) (fun k => p289 98 k (fun q => absurd q.1 (by first | exact gz_ne rfl | decide))) (fun k => p289 19 k (fun q => absurd q.1 (by first | exact gz_ne rfl | decide))) (fun k => p289 18 k (fun q => absurd q.1 (by first | exact gz_ne rfl | decide))) (fun k => p289 41 k (fun q => absurd q.1 (by first | exact gz_ne rfl | decide))) (fun k => p289 6 k (fun q => absurd q.1 (by first | exact gz_ne rfl | decide))) (by exact gz_m 115 (by omega)) (by exact gz_m 116 (by omega)) (by exact gz_m 117 (by omega))) hI288 (fun k => p313 87 k (fun q => absurd q.1 (by first | exact gz_ne rfl | decide))) (fun k => p313 88 k (fun q => absurd q.1 (by first | exact gz_ne rfl | decide))) (fun k => p313 104 k (fun q => absurd q.1 (by first | exact gz_ne rfl | decide))) (fun k => p313 90 k (fun q => absurd q.1 (by first | exact gz_ne rfl | decide))) (fun k => p313 93 k (fun q => absurd q.1 (by first | exact gz_ne rfl | decide))) (fun k => p313 92 k (fun q => absurd q.1 (by first | exact gz_ne rfl | decide))) (fun k => p313 94 k (fun q => absurd q.1 (by first | exact gz_ne rfl | decide))) (fun k => p313 95 k (fun q => absurd q.1 (by first | exact gz_ne rfl | decide))) (fun k => p313 97 k (fun q => absurd q.1 (by first | exact gz_ne rfl | decide))) (fun k => p313 98 k (fun q => absurd q.1 (by first | exact gz_ne rfl | decide))) (fun k => p313 19 k (fun q => absurd q.1 (by first | exact gz_ne rfl | decide))) (fun k => p313 18 k (fun q => absurd q.1 (by first | exact gz_ne rfl | decide))) (fun k => p313 41 k (fun q => absurd q.1 (by first | exact gz_ne rfl | decide))) (fun k => p313 6 k (fun q => absurd q.1 (by first | exact gz_ne rfl | decide))) (by exact gz_m 118 (by omega)) (by exact gz_m 119 (by omega)) (by exact gz_m 120 (by omega))) hI312 (fun k => p337 87 k (fun q => absurd q.1 (by first | exact gz_ne rfl | decide))) (fun k => p337 88 k (fun q => absurd q.1 (by first | exact gz_ne rfl | decide))) (fun k => p337 104 k (fun q => absurd q.1 (by first | exact gz_ne rfl | decide))) (fun k => p337 90 k (fun q => absurd q.1 (by first | exact gz_ne rfl | decide))) (fun k => p337 93 k (fun q => absurd q.1 (by first | exact gz_ne rfl | decide))) (fun k => p337 92 k (fun q => absurd q.1 (by first | exact gz_ne rfl | decide))) (fun k => p337 94 k (fun q => absurd q.1 (by first | exact gz_ne rfl | decide))) (fun k => p337 95 k (fun q => absurd q.1 (by first | exact gz_ne rfl | decide))) (fun k => p337 97 k (fun q => absurd q.1 (by first | exact gz_ne rfl | decide))) (fun k => p337 98 k (fun q => absurd q.1 (by first | exact gz_ne rfl | decide))) (fun k => p337 19 k (fun q => absurd q.1 (by first | exact gz_ne rfl | decide))) (fun k => p337 18 k (fun q => absurd q.1 (by first | exact gz_ne rfl | decide))) (fun k => p337 41 k (fun q => absurd q.1 (by first | exact gz_ne rfl | decide))) (fun k => p337 6 k (fun q => absurd q.1 (by first | exact gz_ne rfl | decide))) (by exact gz_m 121 (by omega)) (by exact gz_m 122 (by omega)) (by exact gz_m 123 (by omega))) hI336 (fun k => p361 87 k (fun q => absurd q.1 (by first | exact gz_ne rfl | decide))) (fun k => p361 88 k (fun q => absurd q.1 (by first | exact gz_ne rfl | decide))) (fun k => p361 104 k (fun q => absurd q.1 (by first | exact gz_ne rfl | decide))) (fun k => p361 90 k (fun q => absurd q.1 (by first | exact gz_ne rfl | decide))) (fun k => p361 93 k (fun q => absurd q.1 (by first | exact gz_ne rfl | decide))) (fun k => p361 92 k (fun q => absurd q.1 (by first | exact gz_ne rfl | decide))) (fun k => p361 94 k (fun q => absurd q.1 (by first | exact gz_ne rfl | decide))) (fun k => p361 95 k (fun q => absurd q.1 (by first | exact gz_ne rfl | decide))) (fun k => p361 97 k (fun q => absurd q.1 (by first | exact gz_ne rfl | decide))) (fun k => p361 98 k (fun q => absurd q.1 (by first | exact gz_ne rfl | decide))) (fun k => p361 19 k (fun q => absurd q.1 (by first | exact gz_ne rfl | decide))) (fun k => p361 18 k (fun q => absurd q.1 (by first | exact gz_ne rfl | decide))) (fun k => p361 41 k (fun q => absurd q.1 (by first | exact gz_ne rfl | decide))) (fun k => p361 6 k (fun q => absurd q.1 (by first | exact gz_ne rfl | decide))) (by exact gz_m 124 (by omega)) (by exact gz_m 125 (by omega)) (by exact gz_m 126 (by omega))) (by exact gz_m 127 (by omega)))
                        · refine gv_run 1 true hD (pcₚ := 295) (lvₚ := [(0, .inr (.inr (some 0))), (1, .inl a1), (2, .inl v2_89), (3, .inl v3_105), (4, .inl v4_121), (5, .inl v5_153)]) (stₚ := []) (hₚ := gr_h I151 J152) (C := (True ∧ True)) rfl ⟨trivial, trivial⟩ ?_
                          exact L295 I151 J152 hI151 FI151 FJ152 KKR_I151 (by exact gz_m 128 (by omega)) (gr_FO_w e0_153 (by exact gz_m 129 (by omega)))
              refine gv_run 4 true hD (pcₚ := 164) (lvₚ := [(5, .inl (384 * a1)), (0, .inr (.inr (some 0))), (1, .inl a1), (2, .inl v2_89), (3, .inl v3_105), (4, .inl v4_121)]) (stₚ := []) (hₚ := gr_h I135 J136) (C := ((((True ∧ True) ∧ True) ∧ True) ∧ True)) rfl ⟨⟨⟨⟨trivial, trivial⟩, trivial⟩, trivial⟩, trivial⟩ ?_
              refine gv_pick [1, 2, 3, 4, 5, 0] rfl ?_
              exact L164 _ I135 J136 (384 * a1) (Nat.lt_succ_self _) hI135 FI135 FJ136 KKR_I135 (by exact gz_m 130 (by omega)) (gr_FO_w e0_137 (by exact gz_m 131 (by omega)))
            have L307 : ((0 ≤ a1 ∧ a1 ≤ 7) ∧ (1 ≤ v2_89 ∧ v2_89 ≤ 24) ∧ (0 ≤ v3_105 ∧ v3_105 ≤ 23) ∧ (I119 0 160 = 0 → I119 0 161 ≤ 400000) ∧ (1 ≤ v2_89) ∧ (v3_105 + v2_89 ≤ I 0 143)) → (gr_FO a1 ((v2_89 * 25 + v3_105) * 32 + 31) I119) → gv_X (gr_E ws0 tb 10 (yX13_chart, cX13_chart, 7, (some .boolean)) kX13_chart) (gv_Q cX13_chart (some .boolean) (gr_sh ++ ext) (fun r hₚ => (∃ (Iₚ : gr_I) (Jₚ : gr_J), hₚ = gr_h Iₚ Jₚ ∧ gr_Inv Iₚ ∧ gr_fr [126, 127, 128, 157, 158, 160, 161, 166, 167, 168, 169, 170] [76, 77, 78, 79, 87, 88, 89, 90, 91, 92, 93, 94, 95, 96, 97, 98, 99, 100, 101, 103, 104] I Iₚ ∧ gr_fj [126, 127, 128, 157, 158, 160, 161, 166, 167, 168, 169, 170] [76, 77, 78, 79, 87, 88, 89, 90, 91, 92, 93, 94, 95, 96, 97, 98, 99, 100, 101, 103, 104] J Jₚ ∧ (∃ z : Int, r = some (.inl z) ∧ 0 ≤ z ∧ z ≤ 1 ∧ (gr_o (z = 0) (gr_CH a1 Iₚ)) ∧ (gr_KR I Iₚ))))) (307, [(0, .inr (.inr (some 0))), (1, .inl a1), (2, .inl v2_89), (3, .inl v3_105)], [], gr_sh ++ ext, gr_h I119 J120) := by
              intro m_384 e0_384
              obtain ⟨ha1_384, hv2_89_384, hv3_105_384, e1_384, e2_384, e3_384⟩ := m_384
              have f385 := (gr_b_0_157 hI119)
              have f386 := (gr_b_0_143 hI119)
              have f387 := (gr_b_0_158 hI119)
              have f388 := (gr_b_0_161 hI119)
              have f389 := (gr_b_0_160 hI119)
              have f390 := (gr_b_0_167 hI119)
              have f391 := (gr_b_0_168 hI119)
              have f392 := (gr_b_0_169 hI119)
              have f393 := (gr_b_0_170 hI119)
              have f394 := (gr_b_0_2 hI119)
              have t395 := (gr_b_19 hI (Int.toNat a1))
              have t396 := FI119 0 143 rfl
              have t397 := FI119 19 (Int.toNat a1) rfl
              have f398 := (gr_b_0_160 hI119)
              refine gv_run 2 true hD (pcₚ := 311) (lvₚ := [(0, .inr (.inr (some 0))), (1, .inl a1), (2, .inl v2_89), (3, .inl v3_105)]) (stₚ := [.inl (I119 0 160)]) (hₚ := gr_h I119 J120) (C := ((True ∧ True) ∧ True)) rfl ⟨⟨trivial, trivial⟩, trivial⟩ ?_
              refine gv_if_eq (t := 316) hD rfl rfl ⟨by exact gz_m 132 (by omega), by exact gz_m 133 (by omega)⟩ (fun c399 => ?_) (fun c399 => ?_)
              · refine gv_run 2 true hD (pcₚ := 115) (lvₚ := [(3, .inl (v3_105 + 1)), (0, .inr (.inr (some 0))), (1, .inl a1), (2, .inl v2_89)]) (stₚ := []) (hₚ := gr_h I119 J120) (C := ((True ∧ True) ∧ True)) rfl ⟨⟨trivial, trivial⟩, trivial⟩ ?_
                refine gv_pick [1, 2, 3, 0] rfl ?_
                exact ih115 I119 J120 (v3_105 + 1) (by exact gz_m 134 (by omega)) hI119 FI119 FJ120 KKR_I119 (by exact gz_m 135 (by omega)) (gr_FO_w e0_384 (by exact gz_m 136 (by omega)))
              · refine gv_run 1 true hD (pcₚ := 315) (lvₚ := [(0, .inr (.inr (some 0))), (1, .inl a1), (2, .inl v2_89), (3, .inl v3_105)]) (stₚ := [.inl 0]) (hₚ := gr_h I119 J120) (C := (True ∧ True)) rfl ⟨trivial, trivial⟩ ?_
                exact gv_zret hD rfl (by exact gz_m 137 (by omega)) ⟨I119, J120, rfl, hI119, FI119, FJ120, ⟨_, rfl, by exact gz_m 138 (by omega), by exact gz_m 139 (by omega), (gr_o_a (by exact gz_m 140 (by omega))), KKR_I119⟩⟩
            have f400 := (gr_b_0_2 hI119)
            refine gv_run 3 true hD (pcₚ := 134) (lvₚ := [(0, .inr (.inr (some 0))), (1, .inl a1), (2, .inl v2_89), (3, .inl v3_105), (4, .inl v4_121)]) (stₚ := [.inl (I119 0 2), .inl v4_121]) (hₚ := gr_h I119 J120) (C := (((True ∧ True) ∧ True) ∧ True)) rfl ⟨⟨⟨trivial, trivial⟩, trivial⟩, trivial⟩ ?_
            refine gv_icmp_ge (t := 307) hD rfl rfl ⟨⟨by exact gz_m 141 (by omega), by exact gz_m 142 (by omega)⟩, ⟨by exact gz_m 143 (by omega), by exact gz_m 144 (by omega)⟩⟩ (fun c401 => ?_) (fun c401 => ?_)
            · refine gv_pick [0, 1, 2, 3] rfl ?_
              exact L307 (by exact gz_m 145 (by omega)) (gr_FO_w e0_121 (by exact gz_m 146 (by omega)))
            · have f402 := (gr_b_0_160 hI119)
              refine gv_run 2 true hD (pcₚ := 141) (lvₚ := [(0, .inr (.inr (some 0))), (1, .inl a1), (2, .inl v2_89), (3, .inl v3_105), (4, .inl v4_121)]) (stₚ := [.inl (I119 0 160)]) (hₚ := gr_h I119 J120) (C := ((True ∧ True) ∧ True)) rfl ⟨⟨trivial, trivial⟩, trivial⟩ ?_
              refine gv_if_ne (t := 307) hD rfl rfl ⟨by exact gz_m 147 (by omega), by exact gz_m 148 (by omega)⟩ (fun c403 => ?_) (fun c403 => ?_)
              · refine gv_pick [0, 1, 2, 3] rfl ?_
                exact L307 (by exact gz_m 149 (by omega)) (gr_FO_w e0_121 (by exact gz_m 150 (by omega)))
              · refine gv_run 2 true hD (pcₚ := 146) (lvₚ := [(0, .inr (.inr (some 0))), (1, .inl a1), (2, .inl v2_89), (3, .inl v3_105), (4, .inl v4_121)]) (stₚ := [.inl 1, .inl v2_89]) (hₚ := gr_h I119 J120) (C := ((True ∧ True) ∧ True)) rfl ⟨⟨trivial, trivial⟩, trivial⟩ ?_
                refine gv_icmp_ne (t := 157) hD rfl rfl ⟨⟨by exact gz_m 151 (by omega), by exact gz_m 152 (by omega)⟩, ⟨by exact gz_m 153 (by omega), by exact gz_m 154 (by omega)⟩⟩ (fun c404 => ?_) (fun c404 => ?_)
                · exact L157 I119 J120 hI119 FI119 FJ120 KKR_I119 (by exact gz_m 155 (by omega)) (gr_FO_w e0_121 (by exact gz_m 156 (by omega)))
                · refine gv_run 4 true hD (pcₚ := 154) (lvₚ := [(0, .inr (.inr (some 0))), (1, .inl a1), (2, .inl v2_89), (3, .inl v3_105), (4, .inl v4_121)]) (stₚ := [.inl v3_105, .inl v4_121, .inl a1, .inr (.inr (some 0))]) (hₚ := gr_h I119 J120) (C := ((((True ∧ True) ∧ True) ∧ True) ∧ True)) rfl ⟨⟨⟨⟨trivial, trivial⟩, trivial⟩, trivial⟩, trivial⟩ ?_
                  obtain ⟨r405, h405, E405, P405⟩ := r_leaves_f (ws0 := ws0) (tb := tb) hws htb ext I119 J120 hI119 a1 v4_121 v3_105 ⟨by exact gz_m 157 (by omega), by exact gz_m 158 (by omega)⟩ ⟨by exact gz_m 159 (by omega), by exact gz_m 160 (by omega)⟩ ⟨by exact gz_m 161 (by omega), by exact gz_m 162 (by omega)⟩ (gr_FO_w e0_121 (by exact gz_m 163 (by omega))) (by exact gz_m 164 (by omega))
                  obtain ⟨I406, J407, rfl, hI406, g405, k405, ⟨rfl, q405⟩⟩ := P405
                  have FI406 := gr_frt FI119 g405 rfl rfl
                  have FJ407 := gr_fjt FJ120 k405 rfl rfl
                  have t408 := g405 0 143 rfl
                  have t409 := g405 0 161 rfl
                  have t410 := g405 0 167 rfl
                  have t411 := g405 0 168 rfl
                  have t412 := g405 0 169 rfl
                  have t413 := g405 0 170 rfl
                  have t414 := g405 0 2 rfl
                  have f415 := (gr_b_0_157 hI406)
                  have f416 := (gr_b_0_143 hI406)
                  have f417 := (gr_b_0_158 hI406)
                  have f418 := (gr_b_0_161 hI406)
                  have f419 := (gr_b_0_160 hI406)
                  have f420 := (gr_b_0_167 hI406)
                  have f421 := (gr_b_0_168 hI406)
                  have f422 := (gr_b_0_169 hI406)
                  have f423 := (gr_b_0_170 hI406)
                  have f424 := (gr_b_0_2 hI406)
                  have KKR_I406 := gr_KR_g KKR_I119 g405 (by decide)
                  refine gv_callV hD rfl (As := [.inl a1, .inl v4_121, .inl v3_105]) (st := []) rfl (by decide) rfl rfl (gr_lV hws rfl) (Nat.le_of_ble_eq_true rfl) (gz_Ev_mono (d := 3) (by decide) E405) ?_
                  show gv_X _ _ (157, [(0, .inr (.inr (some 0))), (1, .inl a1), (2, .inl v2_89), (3, .inl v3_105), (4, .inl v4_121)], [], gr_sh ++ ext, gr_h I406 J407)
                  exact L157 I406 J407 hI406 FI406 FJ407 KKR_I406 (by exact gz_m 165 (by omega)) (gr_FO_w q405.1 (by exact gz_m 166 (by omega)))
        have f425 := (gr_b_0_143 hI103)
        refine gv_run 5 true hD (pcₚ := 122) (lvₚ := [(0, .inr (.inr (some 0))), (1, .inl a1), (2, .inl v2_89), (3, .inl v3_105)]) (stₚ := [.inl (I103 0 143), .inl (v3_105 + v2_89)]) (hₚ := gr_h I103 J104) (C := (((((True ∧ True) ∧ True) ∧ True) ∧ True) ∧ True)) rfl ⟨⟨⟨⟨⟨trivial, trivial⟩, trivial⟩, trivial⟩, trivial⟩, trivial⟩ ?_
        refine gv_icmp_gt (t := 322) hD rfl rfl ⟨⟨by exact gz_m 167 (by omega), by exact gz_m 168 (by omega)⟩, ⟨by exact gz_m 169 (by omega), by exact gz_m 170 (by omega)⟩⟩ (fun c426 => ?_) (fun c426 => ?_)
        · refine gv_run 2 true hD (pcₚ := 105) (lvₚ := [(2, .inl (v2_89 + 1)), (0, .inr (.inr (some 0))), (1, .inl a1), (3, .inl v3_105)]) (stₚ := []) (hₚ := gr_h I103 J104) (C := ((True ∧ True) ∧ True)) rfl ⟨⟨trivial, trivial⟩, trivial⟩ ?_
          refine gv_pick [1, 2, 0] rfl ?_
          exact ih105 I103 J104 (v2_89 + 1) (by exact gz_m 171 (by omega)) hI103 FI103 FJ104 KKR_I103 (by exact gz_m 172 (by omega)) (gr_FO_w e0_105 (by exact gz_m 173 (by omega)))
        · refine gv_run 2 true hD (pcₚ := 128) (lvₚ := [(4, .inl 0), (0, .inr (.inr (some 0))), (1, .inl a1), (2, .inl v2_89), (3, .inl v3_105)]) (stₚ := []) (hₚ := gr_h I103 J104) (C := ((True ∧ True) ∧ True)) rfl ⟨⟨trivial, trivial⟩, trivial⟩ ?_
          refine gv_pick [1, 2, 3, 4, 0] rfl ?_
          exact L128 _ I103 J104 0 (Nat.lt_succ_self _) hI103 FI103 FJ104 KKR_I103 (by exact gz_m 174 (by omega)) (gr_FO_w e0_105 (by exact gz_m 175 (by omega)))
    have f427 := (gr_b_0_143 hI87)
    refine gv_run 3 true hD (pcₚ := 110) (lvₚ := [(0, .inr (.inr (some 0))), (1, .inl a1), (2, .inl v2_89)]) (stₚ := [.inl (I87 0 143), .inl v2_89]) (hₚ := gr_h I87 J88) (C := (((True ∧ True) ∧ True) ∧ True)) rfl ⟨⟨⟨trivial, trivial⟩, trivial⟩, trivial⟩ ?_
    refine gv_icmp_gt (t := 328) hD rfl rfl ⟨⟨by exact gz_m 176 (by omega), by exact gz_m 177 (by omega)⟩, ⟨by exact gz_m 178 (by omega), by exact gz_m 179 (by omega)⟩⟩ (fun c428 => ?_) (fun c428 => ?_)
    · refine gv_run 1 true hD (pcₚ := 329) (lvₚ := [(0, .inr (.inr (some 0))), (1, .inl a1), (2, .inl v2_89)]) (stₚ := [.inr (.inr (some 0))]) (hₚ := gr_h I87 J88) (C := (True ∧ True)) rfl ⟨trivial, trivial⟩ ?_
      obtain ⟨r429, h429, E429, P429⟩ := r_orderWays (ws0 := ws0) (tb := tb) hws htb ext I87 J88 hI87   e0_89.2.2.1
      obtain ⟨I430, J431, rfl, hI430, g429, k429, ⟨rfl, q429⟩⟩ := P429
      have FI430 := gr_frt FI87 g429 rfl rfl
      have FJ431 := gr_fjt FJ88 k429 rfl rfl
      have t432 := g429 0 157 rfl
      have t433 := g429 0 143 rfl
      have t434 := g429 0 158 rfl
      have t435 := g429 0 161 rfl
      have t436 := g429 0 160 rfl
      have t437 := g429 0 167 rfl
      have t438 := g429 0 168 rfl
      have t439 := g429 0 169 rfl
      have t440 := g429 0 170 rfl
      have t441 := g429 0 2 rfl
      have f442 := (gr_b_0_157 hI430)
      have f443 := (gr_b_0_143 hI430)
      have f444 := (gr_b_0_158 hI430)
      have f445 := (gr_b_0_161 hI430)
      have f446 := (gr_b_0_160 hI430)
      have f447 := (gr_b_0_167 hI430)
      have f448 := (gr_b_0_168 hI430)
      have f449 := (gr_b_0_169 hI430)
      have f450 := (gr_b_0_170 hI430)
      have f451 := (gr_b_0_2 hI430)
      have KKR_I430 := gr_KR_g KKR_I87 g429 (by decide)
      refine gv_callV hD rfl (As := []) (st := []) rfl (by decide) rfl rfl (gr_lV hws rfl) (Nat.le_of_ble_eq_true rfl) (gz_Ev_mono (d := 3) (by decide) E429) ?_
      show gv_X _ _ (332, [(0, .inr (.inr (some 0))), (1, .inl a1), (2, .inl v2_89)], [], gr_sh ++ ext, gr_h I430 J431)
      refine gv_run 1 true hD (pcₚ := 333) (lvₚ := [(0, .inr (.inr (some 0))), (1, .inl a1), (2, .inl v2_89)]) (stₚ := [.inl 1]) (hₚ := gr_h I430 J431) (C := (True ∧ True)) rfl ⟨trivial, trivial⟩ ?_
      exact gv_zret hD rfl (by exact gz_m 180 (by omega)) ⟨I430, J431, rfl, hI430, FI430, FJ431, ⟨_, rfl, by exact gz_m 181 (by omega), by exact gz_m 182 (by omega), (gr_o_b (gr_CH_of e0_89 hI87 q429 (fun k => g429 87 k rfl) (fun k => g429 88 k rfl) (fun k => g429 104 k rfl) (fun k => g429 90 k rfl) (fun k => g429 93 k rfl) (fun k => g429 94 k rfl) (fun k => g429 95 k rfl) (fun k => g429 97 k rfl) (fun k => g429 98 k rfl) (fun k => g429 19 k rfl) (fun k => g429 18 k rfl) (fun k => g429 41 k rfl) (fun k => g429 6 k rfl) (by exact gz_m 183 (by omega)) (by exact gz_m 184 (by omega)) (by exact gz_m 185 (by omega)))), KKR_I430⟩⟩
    · refine gv_run 2 true hD (pcₚ := 115) (lvₚ := [(3, .inl 0), (0, .inr (.inr (some 0))), (1, .inl a1), (2, .inl v2_89)]) (stₚ := []) (hₚ := gr_h I87 J88) (C := ((True ∧ True) ∧ True)) rfl ⟨⟨trivial, trivial⟩, trivial⟩ ?_
      refine gv_pick [1, 2, 3, 0] rfl ?_
      exact L115 _ I87 J88 0 (Nat.lt_succ_self _) hI87 FI87 FJ88 KKR_I87 (by exact gz_m 186 (by omega)) (gr_FO_w e0_89 (by exact gz_m 187 (by omega)))
set_option maxHeartbeats 8000000 in
set_option maxRecDepth 100000 in
theorem r_chart {ws0 : List Cond} {tb : String → gz_T} (hws : ∀ w ∈ gr_ws, w ∈ ws0) (htb : tb RX13 = gr_T) (ext : gz_Sh) (I : gr_I) (J : gr_J) (hI : gr_Inv I) (a1 : Int) (ha1 : 0 ≤ a1 ∧ a1 ≤ 7) (x0 : gr_GR I) : ∃ r hₚ, gz_Ev ws0 tb 11 (yX13_chart, cX13_chart, 7, (some .boolean)) [.inr (.inr (some 0)), .inl a1] (gr_sh ++ ext) (gr_h I J) r (gr_sh ++ ext) hₚ 0 0 ∧ (∃ (Iₚ : gr_I) (Jₚ : gr_J), hₚ = gr_h Iₚ Jₚ ∧ gr_Inv Iₚ ∧ gr_fr [126, 127, 128, 157, 158, 160, 161, 166, 167, 168, 169, 170] [76, 77, 78, 79, 87, 88, 89, 90, 91, 92, 93, 94, 95, 96, 97, 98, 99, 100, 101, 103, 104] I Iₚ ∧ gr_fj [126, 127, 128, 157, 158, 160, 161, 166, 167, 168, 169, 170] [76, 77, 78, 79, 87, 88, 89, 90, 91, 92, 93, 94, 95, 96, 97, 98, 99, 100, 101, 103, 104] J Jₚ ∧ (∃ z : Int, r = some (.inl z) ∧ 0 ≤ z ∧ z ≤ 1 ∧ (gr_o (z = 0) (gr_CH a1 Iₚ)) ∧ (gr_KR I Iₚ))) := by
  have FI : gr_fr [126, 127, 128, 157, 158, 160, 161, 166, 167, 168, 169, 170] [76, 77, 78, 79, 87, 88, 89, 90, 91, 92, 93, 94, 95, 96, 97, 98, 99, 100, 101, 103, 104] I I := fun _ _ _ => rfl
  have FJ : gr_fj [126, 127, 128, 157, 158, 160, 161, 166, 167, 168, 169, 170] [76, 77, 78, 79, 87, 88, 89, 90, 91, 92, 93, 94, 95, 96, 97, 98, 99, 100, 101, 103, 104] J J := fun _ _ _ => rfl
  have hD : gv_D (gr_E ws0 tb 10 (yX13_chart, cX13_chart, 7, (some .boolean)) kX13_chart) := gq_of oX13_chart
  refine gr_ev (d := 10) (l := kX13_chart) (Po := fun r hₚ => (∃ (Iₚ : gr_I) (Jₚ : gr_J), hₚ = gr_h Iₚ Jₚ ∧ gr_Inv Iₚ ∧ gr_fr [126, 127, 128, 157, 158, 160, 161, 166, 167, 168, 169, 170] [76, 77, 78, 79, 87, 88, 89, 90, 91, 92, 93, 94, 95, 96, 97, 98, 99, 100, 101, 103, 104] I Iₚ ∧ gr_fj [126, 127, 128, 157, 158, 160, 161, 166, 167, 168, 169, 170] [76, 77, 78, 79, 87, 88, 89, 90, 91, 92, 93, 94, 95, 96, 97, 98, 99, 100, 101, 103, 104] J Jₚ ∧ (∃ z : Int, r = some (.inl z) ∧ 0 ≤ z ∧ z ≤ 1 ∧ (gr_o (z = 0) (gr_CH a1 Iₚ)) ∧ (gr_KR I Iₚ)))) htb rfl (Nat.le_of_ble_eq_true rfl) ?_
  have f1 := (gr_b_0_157 hI)
  have f2 := (gr_b_0_143 hI)
  have f3 := (gr_b_0_158 hI)
  have f4 := (gr_b_0_161 hI)
  have f5 := (gr_b_0_160 hI)
  have f6 := (gr_b_0_167 hI)
  have f7 := (gr_b_0_168 hI)
  have f8 := (gr_b_0_169 hI)
  have f9 := (gr_b_0_170 hI)
  have f10 := (gr_b_0_2 hI)
  have KKR_I : gr_KR I I := gr_KR_rf
  have L39 : ∀ (n : Nat) (I11 : gr_I) (J12 : gr_J) (v2_13 : Int), (26 - v2_13).toNat < n → gr_Inv I11 → gr_fr [126, 127, 128, 157, 158, 160, 161, 166, 167, 168, 169, 170] [76, 77, 78, 79, 87, 88, 89, 90, 91, 92, 93, 94, 95, 96, 97, 98, 99, 100, 101, 103, 104] I I11 → gr_fj [126, 127, 128, 157, 158, 160, 161, 166, 167, 168, 169, 170] [76, 77, 78, 79, 87, 88, 89, 90, 91, 92, 93, 94, 95, 96, 97, 98, 99, 100, 101, 103, 104] J J12 → gr_KR I I11 → ((0 ≤ a1 ∧ a1 ≤ 7) ∧ (0 ≤ v2_13 ∧ v2_13 ≤ 25) ∧ (I11 0 161 ≤ 400000) ∧ (I11 0 157 = 0) ∧ (I11 0 158 = 0) ∧ (v2_13 ≤ I 0 143 + 1)) → (gr_SZ v2_13 0 0 I11) → gv_X (gr_E ws0 tb 10 (yX13_chart, cX13_chart, 7, (some .boolean)) kX13_chart) (gv_Q cX13_chart (some .boolean) (gr_sh ++ ext) (fun r hₚ => (∃ (Iₚ : gr_I) (Jₚ : gr_J), hₚ = gr_h Iₚ Jₚ ∧ gr_Inv Iₚ ∧ gr_fr [126, 127, 128, 157, 158, 160, 161, 166, 167, 168, 169, 170] [76, 77, 78, 79, 87, 88, 89, 90, 91, 92, 93, 94, 95, 96, 97, 98, 99, 100, 101, 103, 104] I Iₚ ∧ gr_fj [126, 127, 128, 157, 158, 160, 161, 166, 167, 168, 169, 170] [76, 77, 78, 79, 87, 88, 89, 90, 91, 92, 93, 94, 95, 96, 97, 98, 99, 100, 101, 103, 104] J Jₚ ∧ (∃ z : Int, r = some (.inl z) ∧ 0 ≤ z ∧ z ≤ 1 ∧ (gr_o (z = 0) (gr_CH a1 Iₚ)) ∧ (gr_KR I Iₚ))))) (39, [(0, .inr (.inr (some 0))), (1, .inl a1), (2, .inl v2_13)], [], gr_sh ++ ext, gr_h I11 J12) := by
    intro n
    induction n with
    | zero => intro I11 J12 v2_13 hn; exact gz_m 0 (by omega)
    | succ n ih39 =>
      intro I11 J12 v2_13 hn hI11 FI11 FJ12 KKR_I11 m_13 e0_13
      obtain ⟨ha1_13, hv2_13, e1_13, e2_13, e3_13, e4_13⟩ := m_13
      have f14 := (gr_b_0_157 hI11)
      have f15 := (gr_b_0_143 hI11)
      have f16 := (gr_b_0_158 hI11)
      have f17 := (gr_b_0_161 hI11)
      have f18 := (gr_b_0_160 hI11)
      have f19 := (gr_b_0_167 hI11)
      have f20 := (gr_b_0_168 hI11)
      have f21 := (gr_b_0_169 hI11)
      have f22 := (gr_b_0_170 hI11)
      have f23 := (gr_b_0_2 hI11)
      have t24 := (gr_b_19 hI (Int.toNat a1))
      have t25 := FI11 0 143 rfl
      have t26 := FI11 19 (Int.toNat a1) rfl
      have L49 : ∀ (n : Nat) (I27 : gr_I) (J28 : gr_J) (v3_29 : Int), (26 - v3_29).toNat < n → gr_Inv I27 → gr_fr [126, 127, 128, 157, 158, 160, 161, 166, 167, 168, 169, 170] [76, 77, 78, 79, 87, 88, 89, 90, 91, 92, 93, 94, 95, 96, 97, 98, 99, 100, 101, 103, 104] I I27 → gr_fj [126, 127, 128, 157, 158, 160, 161, 166, 167, 168, 169, 170] [76, 77, 78, 79, 87, 88, 89, 90, 91, 92, 93, 94, 95, 96, 97, 98, 99, 100, 101, 103, 104] J J28 → gr_KR I I27 → ((0 ≤ a1 ∧ a1 ≤ 7) ∧ (0 ≤ v2_13 ∧ v2_13 ≤ 24) ∧ (0 ≤ v3_29 ∧ v3_29 ≤ 25) ∧ (I27 0 161 ≤ 400000) ∧ (I27 0 157 = 0) ∧ (I27 0 158 = 0) ∧ (v2_13 ≤ I 0 143)) → (gr_SZ v2_13 v3_29 0 I27) → gv_X (gr_E ws0 tb 10 (yX13_chart, cX13_chart, 7, (some .boolean)) kX13_chart) (gv_Q cX13_chart (some .boolean) (gr_sh ++ ext) (fun r hₚ => (∃ (Iₚ : gr_I) (Jₚ : gr_J), hₚ = gr_h Iₚ Jₚ ∧ gr_Inv Iₚ ∧ gr_fr [126, 127, 128, 157, 158, 160, 161, 166, 167, 168, 169, 170] [76, 77, 78, 79, 87, 88, 89, 90, 91, 92, 93, 94, 95, 96, 97, 98, 99, 100, 101, 103, 104] I Iₚ ∧ gr_fj [126, 127, 128, 157, 158, 160, 161, 166, 167, 168, 169, 170] [76, 77, 78, 79, 87, 88, 89, 90, 91, 92, 93, 94, 95, 96, 97, 98, 99, 100, 101, 103, 104] J Jₚ ∧ (∃ z : Int, r = some (.inl z) ∧ 0 ≤ z ∧ z ≤ 1 ∧ (gr_o (z = 0) (gr_CH a1 Iₚ)) ∧ (gr_KR I Iₚ))))) (49, [(0, .inr (.inr (some 0))), (1, .inl a1), (2, .inl v2_13), (3, .inl v3_29)], [], gr_sh ++ ext, gr_h I27 J28) := by
        intro n
        induction n with
        | zero => intro I27 J28 v3_29 hn; exact gz_m 1 (by omega)
        | succ n ih49 =>
          intro I27 J28 v3_29 hn hI27 FI27 FJ28 KKR_I27 m_29 e0_29
          clear ha1_13 hv2_13 e1_13 e2_13 e3_13 e4_13 f14 f15 f16 f17 f18 f19 f20 f21 f22 f23 t24 t25 t26
          obtain ⟨ha1_29, hv2_13_29, hv3_29, e1_29, e2_29, e3_29, e4_29⟩ := m_29
          have f30 := (gr_b_0_157 hI27)
          have f31 := (gr_b_0_143 hI27)
          have f32 := (gr_b_0_158 hI27)
          have f33 := (gr_b_0_161 hI27)
          have f34 := (gr_b_0_160 hI27)
          have f35 := (gr_b_0_167 hI27)
          have f36 := (gr_b_0_168 hI27)
          have f37 := (gr_b_0_169 hI27)
          have f38 := (gr_b_0_170 hI27)
          have f39 := (gr_b_0_2 hI27)
          have t40 := (gr_b_19 hI (Int.toNat a1))
          have t41 := FI27 0 143 rfl
          have t42 := FI27 19 (Int.toNat a1) rfl
          have L60 : ∀ (n : Nat) (I43 : gr_I) (J44 : gr_J) (v4_45 : Int), (33 - v4_45).toNat < n → gr_Inv I43 → gr_fr [126, 127, 128, 157, 158, 160, 161, 166, 167, 168, 169, 170] [76, 77, 78, 79, 87, 88, 89, 90, 91, 92, 93, 94, 95, 96, 97, 98, 99, 100, 101, 103, 104] I I43 → gr_fj [126, 127, 128, 157, 158, 160, 161, 166, 167, 168, 169, 170] [76, 77, 78, 79, 87, 88, 89, 90, 91, 92, 93, 94, 95, 96, 97, 98, 99, 100, 101, 103, 104] J J44 → gr_KR I I43 → ((0 ≤ a1 ∧ a1 ≤ 7) ∧ (0 ≤ v2_13 ∧ v2_13 ≤ 24) ∧ (0 ≤ v3_29 ∧ v3_29 ≤ 24) ∧ (0 ≤ v4_45 ∧ v4_45 ≤ 32) ∧ (I43 0 161 ≤ 400000) ∧ (I43 0 157 = 0) ∧ (I43 0 158 = 0) ∧ (v2_13 ≤ I 0 143) ∧ (v3_29 ≤ I 0 143)) → (gr_SZ v2_13 v3_29 v4_45 I43) → gv_X (gr_E ws0 tb 10 (yX13_chart, cX13_chart, 7, (some .boolean)) kX13_chart) (gv_Q cX13_chart (some .boolean) (gr_sh ++ ext) (fun r hₚ => (∃ (Iₚ : gr_I) (Jₚ : gr_J), hₚ = gr_h Iₚ Jₚ ∧ gr_Inv Iₚ ∧ gr_fr [126, 127, 128, 157, 158, 160, 161, 166, 167, 168, 169, 170] [76, 77, 78, 79, 87, 88, 89, 90, 91, 92, 93, 94, 95, 96, 97, 98, 99, 100, 101, 103, 104] I Iₚ ∧ gr_fj [126, 127, 128, 157, 158, 160, 161, 166, 167, 168, 169, 170] [76, 77, 78, 79, 87, 88, 89, 90, 91, 92, 93, 94, 95, 96, 97, 98, 99, 100, 101, 103, 104] J Jₚ ∧ (∃ z : Int, r = some (.inl z) ∧ 0 ≤ z ∧ z ≤ 1 ∧ (gr_o (z = 0) (gr_CH a1 Iₚ)) ∧ (gr_KR I Iₚ))))) (60, [(0, .inr (.inr (some 0))), (1, .inl a1), (2, .inl v2_13), (3, .inl v3_29), (4, .inl v4_45)], [], gr_sh ++ ext, gr_h I43 J44) := by
            intro n
            induction n with
            | zero => intro I43 J44 v4_45 hn; exact gz_m 2 (by omega)
            | succ n ih60 =>
              intro I43 J44 v4_45 hn hI43 FI43 FJ44 KKR_I43 m_45 e0_45
              clear ha1_29 hv2_13_29 hv3_29 e1_29 e2_29 e3_29 e4_29 f30 f31 f32 f33 f34 f35 f36 f37 f38 f39 t40 t41 t42
              obtain ⟨ha1_45, hv2_13_45, hv3_29_45, hv4_45, e1_45, e2_45, e3_45, e4_45, e5_45⟩ := m_45
              have f46 := (gr_b_0_157 hI43)
              have f47 := (gr_b_0_143 hI43)
              have f48 := (gr_b_0_158 hI43)
              have f49 := (gr_b_0_161 hI43)
              have f50 := (gr_b_0_160 hI43)
              have f51 := (gr_b_0_167 hI43)
              have f52 := (gr_b_0_168 hI43)
              have f53 := (gr_b_0_169 hI43)
              have f54 := (gr_b_0_170 hI43)
              have f55 := (gr_b_0_2 hI43)
              have t56 := (gr_b_19 hI (Int.toNat a1))
              have t57 := FI43 0 143 rfl
              have t58 := FI43 19 (Int.toNat a1) rfl
              refine gv_run 2 true hD (pcₚ := 64) (lvₚ := [(0, .inr (.inr (some 0))), (1, .inl a1), (2, .inl v2_13), (3, .inl v3_29), (4, .inl v4_45)]) (stₚ := [.inl 32, .inl v4_45]) (hₚ := gr_h I43 J44) (C := ((True ∧ True) ∧ True)) rfl ⟨⟨trivial, trivial⟩, trivial⟩ ?_
              refine gv_icmp_ge (t := 91) hD rfl rfl ⟨⟨by exact gz_m 3 (by omega), by exact gz_m 4 (by omega)⟩, ⟨by exact gz_m 5 (by omega), by exact gz_m 6 (by omega)⟩⟩ (fun c59 => ?_) (fun c59 => ?_)
              · refine gv_run 2 true hD (pcₚ := 49) (lvₚ := [(3, .inl (v3_29 + 1)), (0, .inr (.inr (some 0))), (1, .inl a1), (2, .inl v2_13), (4, .inl v4_45)]) (stₚ := []) (hₚ := gr_h I43 J44) (C := ((True ∧ True) ∧ True)) rfl ⟨⟨trivial, trivial⟩, trivial⟩ ?_
                refine gv_pick [1, 2, 3, 0] rfl ?_
                exact ih49 I43 J44 (v3_29 + 1) (by exact gz_m 7 (by omega)) hI43 FI43 FJ44 KKR_I43 (by exact gz_m 8 (by omega)) (gr_SZ_j e0_45 (by exact gz_m 9 (by omega)))
              · refine gv_run 7 true hD (pcₚ := 77) (lvₚ := [(0, .inr (.inr (some 0))), (1, .inl a1), (2, .inl v2_13), (3, .inl v3_29), (4, .inl v4_45)]) (stₚ := [.inl ((25 * v2_13) + v3_29), .inr (.inr (some 93))]) (hₚ := gr_h I43 J44) (C := (((((((True ∧ True) ∧ True) ∧ True) ∧ True) ∧ True) ∧ True) ∧ True)) rfl ⟨⟨⟨⟨⟨⟨⟨trivial, trivial⟩, trivial⟩, trivial⟩, trivial⟩, trivial⟩, trivial⟩, trivial⟩ ?_
                refine gv_run 5 true hD (pcₚ := 84) (lvₚ := [(0, .inr (.inr (some 0))), (1, .inl a1), (2, .inl v2_13), (3, .inl v3_29), (4, .inl v4_45)]) (stₚ := [.inl (-1), .inl ((((25 * v2_13) + v3_29) * 32) + v4_45), .inr (.inr (some 93))]) (hₚ := gr_h I43 J44) (C := (((((True ∧ True) ∧ True) ∧ True) ∧ True) ∧ True)) rfl ⟨⟨⟨⟨⟨trivial, trivial⟩, trivial⟩, trivial⟩, trivial⟩, trivial⟩ ?_
                refine gv_run 1 true hD (pcₚ := 85) (lvₚ := [(0, .inr (.inr (some 0))), (1, .inl a1), (2, .inl v2_13), (3, .inl v3_29), (4, .inl v4_45)]) (stₚ := []) (hₚ := gz_up (gr_h I43 J44) 93 (Int.toNat (((((25 * v2_13) + v3_29) * 32) + v4_45))) (.inl (-1))) (C := (True ∧ (0 ≤ (((((25 * v2_13) + v3_29) * 32) + v4_45)) ∧ (((((25 * v2_13) + v3_29) * 32) + v4_45)) < ((20000 : Nat) : Int)))) rfl ⟨trivial, ⟨by exact gz_m 10 (by omega), by exact gz_m 11 (by omega)⟩⟩ ?_
                refine gr_st hI43 FI43 rfl rfl ⟨⟨by show (-1) ≤ _; exact gz_m 12 (by omega), by show _ ≤ 2999; exact gz_m 13 (by omega)⟩, trivial⟩ (fun I60 hI60 FI60 q61 p61 => ?_)
                have t62 := p61 0 157 (fun q => absurd q.1 (by first | exact gz_ne rfl | decide))
                have t63 := p61 0 143 (fun q => absurd q.1 (by first | exact gz_ne rfl | decide))
                have t64 := p61 0 158 (fun q => absurd q.1 (by first | exact gz_ne rfl | decide))
                have t65 := p61 0 161 (fun q => absurd q.1 (by first | exact gz_ne rfl | decide))
                have t66 := p61 0 160 (fun q => absurd q.1 (by first | exact gz_ne rfl | decide))
                have t67 := p61 0 167 (fun q => absurd q.1 (by first | exact gz_ne rfl | decide))
                have t68 := p61 0 168 (fun q => absurd q.1 (by first | exact gz_ne rfl | decide))
                have t69 := p61 0 169 (fun q => absurd q.1 (by first | exact gz_ne rfl | decide))
                have t70 := p61 0 170 (fun q => absurd q.1 (by first | exact gz_ne rfl | decide))
                have t71 := p61 0 2 (fun q => absurd q.1 (by first | exact gz_ne rfl | decide))
                have f72 := (gr_b_0_157 hI60)
                have f73 := (gr_b_0_143 hI60)
                have f74 := (gr_b_0_158 hI60)
                have f75 := (gr_b_0_161 hI60)
                have f76 := (gr_b_0_160 hI60)
                have f77 := (gr_b_0_167 hI60)
                have f78 := (gr_b_0_168 hI60)
                have f79 := (gr_b_0_169 hI60)
                have f80 := (gr_b_0_170 hI60)
                have f81 := (gr_b_0_2 hI60)
                have KKR_I60 := gr_KR_a (by decide) KKR_I43 p61 (by decide)
                have t82 := (gr_b_19 hI (Int.toNat a1))
                have t83 := FI60 0 143 rfl
                have t84 := FI60 19 (Int.toNat a1) rfl
                refine gv_run 2 true hD (pcₚ := 60) (lvₚ := [(4, .inl (v4_45 + 1)), (0, .inr (.inr (some 0))), (1, .inl a1), (2, .inl v2_13), (3, .inl v3_29)]) (stₚ := []) (hₚ := gr_h I60 J44) (C := ((True ∧ True) ∧ True)) rfl ⟨⟨trivial, trivial⟩, trivial⟩ ?_
                refine gv_pick [1, 2, 3, 4, 0] rfl ?_
                exact ih60 I60 J44 (v4_45 + 1) (by exact gz_m 14 (by omega)) hI60 FI60 FJ44 KKR_I60 (by exact gz_m 15 (by omega)) (gr_SZ_st e0_45 (by exact gz_m 16 (by omega)) p61 q61)
          have f85 := (gr_b_0_143 hI27)
          refine gv_run 3 true hD (pcₚ := 54) (lvₚ := [(0, .inr (.inr (some 0))), (1, .inl a1), (2, .inl v2_13), (3, .inl v3_29)]) (stₚ := [.inl (I27 0 143), .inl v3_29]) (hₚ := gr_h I27 J28) (C := (((True ∧ True) ∧ True) ∧ True)) rfl ⟨⟨⟨trivial, trivial⟩, trivial⟩, trivial⟩ ?_
          refine gv_icmp_gt (t := 97) hD rfl rfl ⟨⟨by exact gz_m 17 (by omega), by exact gz_m 18 (by omega)⟩, ⟨by exact gz_m 19 (by omega), by exact gz_m 20 (by omega)⟩⟩ (fun c86 => ?_) (fun c86 => ?_)
          · refine gv_run 2 true hD (pcₚ := 39) (lvₚ := [(2, .inl (v2_13 + 1)), (0, .inr (.inr (some 0))), (1, .inl a1), (3, .inl v3_29)]) (stₚ := []) (hₚ := gr_h I27 J28) (C := ((True ∧ True) ∧ True)) rfl ⟨⟨trivial, trivial⟩, trivial⟩ ?_
            refine gv_pick [1, 2, 0] rfl ?_
            exact ih39 I27 J28 (v2_13 + 1) (by exact gz_m 21 (by omega)) hI27 FI27 FJ28 KKR_I27 (by exact gz_m 22 (by omega)) (gr_SZ_i e0_29 (by exact gz_m 23 (by omega)))
          · refine gv_run 2 true hD (pcₚ := 60) (lvₚ := [(4, .inl 0), (0, .inr (.inr (some 0))), (1, .inl a1), (2, .inl v2_13), (3, .inl v3_29)]) (stₚ := []) (hₚ := gr_h I27 J28) (C := ((True ∧ True) ∧ True)) rfl ⟨⟨trivial, trivial⟩, trivial⟩ ?_
            refine gv_pick [1, 2, 3, 4, 0] rfl ?_
            exact L60 _ I27 J28 0 (Nat.lt_succ_self _) hI27 FI27 FJ28 KKR_I27 (by exact gz_m 24 (by omega)) e0_29
      have L105 : ∀ (n : Nat) (I87 : gr_I) (J88 : gr_J) (v2_89 : Int), (26 - v2_89).toNat < n → gr_Inv I87 → gr_fr [126, 127, 128, 157, 158, 160, 161, 166, 167, 168, 169, 170] [76, 77, 78, 79, 87, 88, 89, 90, 91, 92, 93, 94, 95, 96, 97, 98, 99, 100, 101, 103, 104] I I87 → gr_fj [126, 127, 128, 157, 158, 160, 161, 166, 167, 168, 169, 170] [76, 77, 78, 79, 87, 88, 89, 90, 91, 92, 93, 94, 95, 96, 97, 98, 99, 100, 101, 103, 104] J J88 → gr_KR I I87 → ((0 ≤ a1 ∧ a1 ≤ 7) ∧ (1 ≤ v2_89 ∧ v2_89 ≤ 25) ∧ (I87 0 160 = 0 → I87 0 161 ≤ 400000) ∧ (1 ≤ v2_89)) → (gr_FO a1 (v2_89 * 25 * 32 - 1) I87) → gv_X (gr_E ws0 tb 10 (yX13_chart, cX13_chart, 7, (some .boolean)) kX13_chart) (gv_Q cX13_chart (some .boolean) (gr_sh ++ ext) (fun r hₚ => (∃ (Iₚ : gr_I) (Jₚ : gr_J), hₚ = gr_h Iₚ Jₚ ∧ gr_Inv Iₚ ∧ gr_fr [126, 127, 128, 157, 158, 160, 161, 166, 167, 168, 169, 170] [76, 77, 78, 79, 87, 88, 89, 90, 91, 92, 93, 94, 95, 96, 97, 98, 99, 100, 101, 103, 104] I Iₚ ∧ gr_fj [126, 127, 128, 157, 158, 160, 161, 166, 167, 168, 169, 170] [76, 77, 78, 79, 87, 88, 89, 90, 91, 92, 93, 94, 95, 96, 97, 98, 99, 100, 101, 103, 104] J Jₚ ∧ (∃ z : Int, r = some (.inl z) ∧ 0 ≤ z ∧ z ≤ 1 ∧ (gr_o (z = 0) (gr_CH a1 Iₚ)) ∧ (gr_KR I Iₚ))))) (105, [(0, .inr (.inr (some 0))), (1, .inl a1), (2, .inl v2_89)], [], gr_sh ++ ext, gr_h I87 J88) := r_chart_L105 (ws0 := ws0) (tb := tb) hws htb ext I J hI a1 ha1 x0
      have f452 := (gr_b_0_143 hI11)
      refine gv_run 3 true hD (pcₚ := 44) (lvₚ := [(0, .inr (.inr (some 0))), (1, .inl a1), (2, .inl v2_13)]) (stₚ := [.inl (I11 0 143), .inl v2_13]) (hₚ := gr_h I11 J12) (C := (((True ∧ True) ∧ True) ∧ True)) rfl ⟨⟨⟨trivial, trivial⟩, trivial⟩, trivial⟩ ?_
      refine gv_icmp_gt (t := 103) hD rfl rfl ⟨⟨by exact gz_m 188 (by omega), by exact gz_m 189 (by omega)⟩, ⟨by exact gz_m 190 (by omega), by exact gz_m 191 (by omega)⟩⟩ (fun c453 => ?_) (fun c453 => ?_)
      · refine gv_run 2 true hD (pcₚ := 105) (lvₚ := [(2, .inl 1), (0, .inr (.inr (some 0))), (1, .inl a1)]) (stₚ := []) (hₚ := gr_h I11 J12) (C := ((True ∧ True) ∧ True)) rfl ⟨⟨trivial, trivial⟩, trivial⟩ ?_
        refine gv_pick [1, 2, 0] rfl ?_
        exact L105 _ I11 J12 1 (Nat.lt_succ_self _) hI11 FI11 FJ12 KKR_I11 (by exact gz_m 192 (by omega)) (gr_FO_0 e0_13 (by exact gz_m 193 (by omega)) (by exact gz_m 194 (by omega)) (by exact gz_m 195 (by omega)))
      · refine gv_run 2 true hD (pcₚ := 49) (lvₚ := [(3, .inl 0), (0, .inr (.inr (some 0))), (1, .inl a1), (2, .inl v2_13)]) (stₚ := []) (hₚ := gr_h I11 J12) (C := ((True ∧ True) ∧ True)) rfl ⟨⟨trivial, trivial⟩, trivial⟩ ?_
        refine gv_pick [1, 2, 3, 0] rfl ?_
        exact L49 _ I11 J12 0 (Nat.lt_succ_self _) hI11 FI11 FJ12 KKR_I11 (by exact gz_m 196 (by omega)) e0_13
  refine gv_run 2 true hD (pcₚ := 2) (lvₚ := [(0, .inr (.inr (some 0))), (1, .inl a1)]) (stₚ := [.inl a1, .inr (.inr (some 0))]) (hₚ := gr_h I J) (C := ((True ∧ True) ∧ True)) rfl ⟨⟨trivial, trivial⟩, trivial⟩ ?_
  obtain ⟨r454, h454, E454, P454⟩ := r_forms_k (ws0 := ws0) (tb := tb) hws htb ext I J hI a1 ⟨by exact gz_m 197 (by omega), by exact gz_m 198 (by omega)⟩ 
  obtain ⟨I455, J456, rfl, hI455, g454, k454, ⟨rfl, q454⟩⟩ := P454
  have FI455 := gr_frt FI g454 rfl rfl
  have FJ456 := gr_fjt FJ k454 rfl rfl
  have t457 := g454 0 157 rfl
  have t458 := g454 0 143 rfl
  have t459 := g454 0 158 rfl
  have t460 := g454 0 161 rfl
  have t461 := g454 0 160 rfl
  have t462 := g454 0 167 rfl
  have t463 := g454 0 168 rfl
  have t464 := g454 0 169 rfl
  have t465 := g454 0 170 rfl
  have t466 := g454 0 2 rfl
  have f467 := (gr_b_0_157 hI455)
  have f468 := (gr_b_0_143 hI455)
  have f469 := (gr_b_0_158 hI455)
  have f470 := (gr_b_0_161 hI455)
  have f471 := (gr_b_0_160 hI455)
  have f472 := (gr_b_0_167 hI455)
  have f473 := (gr_b_0_168 hI455)
  have f474 := (gr_b_0_169 hI455)
  have f475 := (gr_b_0_170 hI455)
  have f476 := (gr_b_0_2 hI455)
  have l454 := q454
  have KKR_I455 := gr_KR_tr KKR_I l454
  refine gv_callV hD rfl (As := [.inl a1]) (st := []) rfl (by decide) rfl rfl (gr_lV hws rfl) (Nat.le_of_ble_eq_true rfl) (gz_Ev_mono (d := 6) (by decide) E454) ?_
  show gv_X _ _ (5, [(0, .inr (.inr (some 0))), (1, .inl a1)], [], gr_sh ++ ext, gr_h I455 J456)
  refine gv_run 3 true hD (pcₚ := 10) (lvₚ := [(0, .inr (.inr (some 0))), (1, .inl a1)]) (stₚ := []) (hₚ := gz_up (gr_h I455 J456) 0 166 (.inl a1)) (C := (((True ∧ True) ∧ True) ∧ True)) rfl ⟨⟨⟨trivial, trivial⟩, trivial⟩, trivial⟩ ?_
  refine gr_st hI455 FI455 rfl rfl ⟨⟨by show 0 ≤ _; exact gz_m 199 (by omega), by show _ ≤ 7; exact gz_m 200 (by omega)⟩, trivial⟩ (fun I477 hI477 FI477 q478 p478 => ?_)
  have t479 := p478 0 157 (by decide)
  have t480 := p478 0 143 (by decide)
  have t481 := p478 0 158 (by decide)
  have t482 := p478 0 161 (by decide)
  have t483 := p478 0 160 (by decide)
  have t484 := p478 0 167 (by decide)
  have t485 := p478 0 168 (by decide)
  have t486 := p478 0 169 (by decide)
  have t487 := p478 0 170 (by decide)
  have t488 := p478 0 2 (by decide)
  have f489 := (gr_b_0_157 hI477)
  have f490 := (gr_b_0_143 hI477)
  have f491 := (gr_b_0_158 hI477)
  have f492 := (gr_b_0_161 hI477)
  have f493 := (gr_b_0_160 hI477)
  have f494 := (gr_b_0_167 hI477)
  have f495 := (gr_b_0_168 hI477)
  have f496 := (gr_b_0_169 hI477)
  have f497 := (gr_b_0_170 hI477)
  have f498 := (gr_b_0_2 hI477)
  have KKR_I477 := gr_KR_f KKR_I455 p478 (by decide)
  have t499 := (gr_b_19 hI (Int.toNat a1))
  have t500 := FI477 0 143 rfl
  have t501 := FI477 19 (Int.toNat a1) rfl
  refine gv_run 3 true hD (pcₚ := 15) (lvₚ := [(0, .inr (.inr (some 0))), (1, .inl a1)]) (stₚ := []) (hₚ := gz_up (gr_h I477 J456) 0 157 (.inl 0)) (C := (((True ∧ True) ∧ True) ∧ True)) rfl ⟨⟨⟨trivial, trivial⟩, trivial⟩, trivial⟩ ?_
  refine gr_st hI477 FI477 rfl rfl ⟨⟨by show 0 ≤ _; exact gz_m 201 (by omega), by show _ ≤ 3000; exact gz_m 202 (by omega)⟩, trivial⟩ (fun I502 hI502 FI502 q503 p503 => ?_)
  have t504 := p503 0 143 (by decide)
  have t505 := p503 0 158 (by decide)
  have t506 := p503 0 161 (by decide)
  have t507 := p503 0 160 (by decide)
  have t508 := p503 0 167 (by decide)
  have t509 := p503 0 168 (by decide)
  have t510 := p503 0 169 (by decide)
  have t511 := p503 0 170 (by decide)
  have t512 := p503 0 2 (by decide)
  have f513 := (gr_b_0_157 hI502)
  have f514 := (gr_b_0_143 hI502)
  have f515 := (gr_b_0_158 hI502)
  have f516 := (gr_b_0_161 hI502)
  have f517 := (gr_b_0_160 hI502)
  have f518 := (gr_b_0_167 hI502)
  have f519 := (gr_b_0_168 hI502)
  have f520 := (gr_b_0_169 hI502)
  have f521 := (gr_b_0_170 hI502)
  have f522 := (gr_b_0_2 hI502)
  have KKR_I502 := gr_KR_f KKR_I477 p503 (by decide)
  have t523 := (gr_b_19 hI (Int.toNat a1))
  have t524 := FI502 0 143 rfl
  have t525 := FI502 19 (Int.toNat a1) rfl
  refine gv_run 3 true hD (pcₚ := 20) (lvₚ := [(0, .inr (.inr (some 0))), (1, .inl a1)]) (stₚ := []) (hₚ := gz_up (gr_h I502 J456) 0 158 (.inl 0)) (C := (((True ∧ True) ∧ True) ∧ True)) rfl ⟨⟨⟨trivial, trivial⟩, trivial⟩, trivial⟩ ?_
  refine gr_st hI502 FI502 rfl rfl ⟨⟨by show 0 ≤ _; exact gz_m 203 (by omega), by show _ ≤ 9000; exact gz_m 204 (by omega)⟩, trivial⟩ (fun I526 hI526 FI526 q527 p527 => ?_)
  have t528 := p527 0 157 (by decide)
  have t529 := p527 0 143 (by decide)
  have t530 := p527 0 161 (by decide)
  have t531 := p527 0 160 (by decide)
  have t532 := p527 0 167 (by decide)
  have t533 := p527 0 168 (by decide)
  have t534 := p527 0 169 (by decide)
  have t535 := p527 0 170 (by decide)
  have t536 := p527 0 2 (by decide)
  have f537 := (gr_b_0_157 hI526)
  have f538 := (gr_b_0_143 hI526)
  have f539 := (gr_b_0_158 hI526)
  have f540 := (gr_b_0_161 hI526)
  have f541 := (gr_b_0_160 hI526)
  have f542 := (gr_b_0_167 hI526)
  have f543 := (gr_b_0_168 hI526)
  have f544 := (gr_b_0_169 hI526)
  have f545 := (gr_b_0_170 hI526)
  have f546 := (gr_b_0_2 hI526)
  have KKR_I526 := gr_KR_f KKR_I502 p527 (by decide)
  have t547 := (gr_b_19 hI (Int.toNat a1))
  have t548 := FI526 0 143 rfl
  have t549 := FI526 19 (Int.toNat a1) rfl
  refine gv_run 3 true hD (pcₚ := 25) (lvₚ := [(0, .inr (.inr (some 0))), (1, .inl a1)]) (stₚ := []) (hₚ := gz_up (gr_h I526 J456) 0 160 (.inl 0)) (C := (((True ∧ True) ∧ True) ∧ (0 = 0 ∨ 0 = 1))) rfl ⟨⟨⟨trivial, trivial⟩, trivial⟩, (by exact gz_m 205 (by omega))⟩ ?_
  refine gr_st hI526 FI526 rfl rfl ⟨⟨by show 0 ≤ _; exact gz_m 206 (by omega), by show _ ≤ 1; exact gz_m 207 (by omega)⟩, trivial⟩ (fun I550 hI550 FI550 q551 p551 => ?_)
  have t552 := p551 0 157 (by decide)
  have t553 := p551 0 143 (by decide)
  have t554 := p551 0 158 (by decide)
  have t555 := p551 0 161 (by decide)
  have t556 := p551 0 167 (by decide)
  have t557 := p551 0 168 (by decide)
  have t558 := p551 0 169 (by decide)
  have t559 := p551 0 170 (by decide)
  have t560 := p551 0 2 (by decide)
  have f561 := (gr_b_0_157 hI550)
  have f562 := (gr_b_0_143 hI550)
  have f563 := (gr_b_0_158 hI550)
  have f564 := (gr_b_0_161 hI550)
  have f565 := (gr_b_0_160 hI550)
  have f566 := (gr_b_0_167 hI550)
  have f567 := (gr_b_0_168 hI550)
  have f568 := (gr_b_0_169 hI550)
  have f569 := (gr_b_0_170 hI550)
  have f570 := (gr_b_0_2 hI550)
  have KKR_I550 := gr_KR_f KKR_I526 p551 (by decide)
  have t571 := (gr_b_19 hI (Int.toNat a1))
  have t572 := FI550 0 143 rfl
  have t573 := FI550 19 (Int.toNat a1) rfl
  have f574 := (gr_b_0_161 hI550)
  refine gv_run 3 true hD (pcₚ := 32) (lvₚ := [(0, .inr (.inr (some 0))), (1, .inl a1)]) (stₚ := [.inl 400000, .inl (I550 0 161)]) (hₚ := gr_h I550 J456) (C := (((True ∧ True) ∧ True) ∧ True)) rfl ⟨⟨⟨trivial, trivial⟩, trivial⟩, trivial⟩ ?_
  refine gv_icmp_le (t := 37) hD rfl rfl ⟨⟨by exact gz_m 208 (by omega), by exact gz_m 209 (by omega)⟩, ⟨by exact gz_m 210 (by omega), by exact gz_m 211 (by omega)⟩⟩ (fun c575 => ?_) (fun c575 => ?_)
  · refine gv_run 2 true hD (pcₚ := 39) (lvₚ := [(2, .inl 0), (0, .inr (.inr (some 0))), (1, .inl a1)]) (stₚ := []) (hₚ := gr_h I550 J456) (C := ((True ∧ True) ∧ True)) rfl ⟨⟨trivial, trivial⟩, trivial⟩ ?_
    refine gv_pick [1, 2, 0] rfl ?_
    exact L39 _ I550 J456 0 (Nat.lt_succ_self _) hI550 FI550 FJ456 KKR_I550 (by exact gz_m 212 (by omega)) (gr_SZ_0 _)
  · refine gv_run 1 true hD (pcₚ := 36) (lvₚ := [(0, .inr (.inr (some 0))), (1, .inl a1)]) (stₚ := [.inl 0]) (hₚ := gr_h I550 J456) (C := (True ∧ True)) rfl ⟨trivial, trivial⟩ ?_
    exact gv_zret hD rfl (by exact gz_m 213 (by omega)) ⟨I550, J456, rfl, hI550, FI550, FJ456, ⟨_, rfl, by exact gz_m 214 (by omega), by exact gz_m 215 (by omega), (gr_o_a (by exact gz_m 216 (by omega))), KKR_I550⟩⟩
