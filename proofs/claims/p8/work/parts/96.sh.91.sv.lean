/-! A FOREST STANDS, OR NONE. -/
theorem gr_CR_sm {t : Int} {I Iₚ : gr_I} (h : gr_CR t I) (hI : gr_Inv I) (h1 : ∀ k, Iₚ 87 k = I 87 k) (h2 : ∀ k, Iₚ 88 k = I 88 k) (h3 : ∀ k, Iₚ 104 k = I 104 k) (h4 : ∀ k, Iₚ 90 k = I 90 k) (h5 : ∀ k, Iₚ 91 k = I 91 k) (h6 : ∀ k, Iₚ 92 k = I 92 k) (h7 : ∀ k, Iₚ 94 k = I 94 k) (h8 : ∀ k, Iₚ 95 k = I 95 k) (h9 : ∀ k, Iₚ 97 k = I 97 k) (h10 : ∀ k, Iₚ 98 k = I 98 k) (h11 : ∀ k, Iₚ 19 k = I 19 k) (h12 : ∀ k, Iₚ 18 k = I 18 k) (h13 : ∀ k, Iₚ 41 k = I 41 k) (h14 : ∀ k, Iₚ 6 k = I 6 k) (h15 : ∀ k, Iₚ 99 k = I 99 k) (hN : Iₚ 0 157 = I 0 157) (hY : Iₚ 0 158 = I 0 158) : gr_CR t Iₚ :=
  gr_CR_fr h hI h1 h2 h3 h4 h5 h6 h7 h8 h9 h10 (by rw [h11]; exact Int.le_refl _) (by rw [h12]; exact Int.le_refl _) (fun k _ _ => ⟨h13 k, h14 _⟩) h15 hN hY
def gr_FV (I : gr_I) : Prop := (I 0 177 < 0 ∧ I 0 186 = 0) ∨ ((0 ≤ I 0 177 ∧ I 0 177 < I 0 157) ∧ gr_CR (I 0 159) I ∧ gr_TP (I 0 157) I ∧ gr_RD I)
theorem gr_FV_no {I : gr_I} (h1 : I 0 177 < 0) (h2 : I 0 186 = 0) : gr_FV I := Or.inl ⟨h1, h2⟩
theorem gr_FV_r {I : gr_I} (h : gr_FV I) (h0 : 0 ≤ I 0 177) : (0 ≤ I 0 177 ∧ I 0 177 < I 0 157) ∧ gr_CR (I 0 159) I ∧ gr_TP (I 0 157) I ∧ gr_RD I := h.elim (fun q => absurd q.1 (by omega)) id
theorem gr_FV_s {I : gr_I} (h : gr_FV I) (h0 : 0 < I 0 186) : (0 ≤ I 0 177 ∧ I 0 177 < I 0 157) ∧ gr_CR (I 0 159) I ∧ gr_TP (I 0 157) I ∧ gr_RD I := h.elim (fun q => absurd q.2 (by omega)) id
set_option maxHeartbeats 8000000 in
theorem gr_FV_fr {I Iₚ : gr_I} (h : gr_FV I) (r0 : ∀ k, Iₚ 87 k = I 87 k) (r1 : ∀ k, Iₚ 88 k = I 88 k) (r2 : ∀ k, Iₚ 104 k = I 104 k) (r3 : ∀ k, Iₚ 90 k = I 90 k) (r4 : ∀ k, Iₚ 91 k = I 91 k) (r5 : ∀ k, Iₚ 92 k = I 92 k) (r6 : ∀ k, Iₚ 94 k = I 94 k) (r7 : ∀ k, Iₚ 95 k = I 95 k) (r8 : ∀ k, Iₚ 97 k = I 97 k) (r9 : ∀ k, Iₚ 98 k = I 98 k) (r10 : ∀ k, Iₚ 19 k = I 19 k) (r11 : ∀ k, Iₚ 18 k = I 18 k) (r12 : ∀ k, Iₚ 41 k = I 41 k) (r13 : ∀ k, Iₚ 6 k = I 6 k) (r14 : ∀ k, Iₚ 99 k = I 99 k) (r15 : ∀ k, Iₚ 105 k = I 105 k) (r16 : ∀ k, Iₚ 107 k = I 107 k) (r17 : ∀ k, Iₚ 108 k = I 108 k) (r18 : ∀ k, Iₚ 110 k = I 110 k) (r19 : ∀ k, Iₚ 111 k = I 111 k) (f0 : Iₚ 0 157 = I 0 157) (f1 : Iₚ 0 158 = I 0 158) (f2 : Iₚ 0 177 = I 0 177) (f3 : Iₚ 0 186 = I 0 186) (f4 : Iₚ 0 159 = I 0 159) (hI : gr_Inv I) : gr_FV Iₚ := by
  rcases h with h | ⟨a, b, c, d⟩
  · exact Or.inl (by exact gz_m 0 (by omega))
  · refine Or.inr ⟨by exact gz_m 1 (by omega), by rw [f4]; exact gr_CR_sm b hI r0 r1 r2 r3 r4 r5 r6 r7 r8 r9 r10 r11 r12 r13 r14 f0 f1, ?_, fun q h5 h6 => ?_⟩
    · rw [f0]
      exact gr_TP_x c ⟨r8, r14, r13, r7, r9, r4, r5⟩ (fun j _ => r15 j) (fun j _ => r16 j) (fun j _ => r17 j) (gr_tn16 hI)
    · rw [r18, r19, r15, f0]
      exact d q (by exact gz_m 2 (by omega)) h6
set_option maxHeartbeats 8000000 in
set_option maxRecDepth 100000 in
theorem r_noForest_f {ws0 : List Cond} {tb : String → gz_T} (hws : ∀ w ∈ gr_ws, w ∈ ws0) (htb : tb RX13 = gr_T) (ext : gz_Sh) (I : gr_I) (J : gr_J) (hI : gr_Inv I)    : ∃ r hₚ, gz_Ev ws0 tb 1 (yX13_noForest, cX13_noForest, 1, none) [.inr (.inr (some 0))] (gr_sh ++ ext) (gr_h I J) r (gr_sh ++ ext) hₚ 0 0 ∧ (∃ (Iₚ : gr_I) (Jₚ : gr_J), hₚ = gr_h Iₚ Jₚ ∧ gr_Inv Iₚ ∧ gr_fr [177, 179, 180, 181, 186] [] I Iₚ ∧ gr_fj [177, 179, 180, 181, 186] [] J Jₚ ∧ r = none ∧ (Iₚ 0 177 = -1) ∧ (Iₚ 0 186 = 0)) := by
  have FI : gr_fr [177, 179, 180, 181, 186] [] I I := fun _ _ _ => rfl
  have FJ : gr_fj [177, 179, 180, 181, 186] [] J J := fun _ _ _ => rfl
  have hD : gv_D (gr_E ws0 tb 0 (yX13_noForest, cX13_noForest, 1, none) kX13_noForest) := gq_of oX13_noForest
  refine gr_ev (d := 0) (l := kX13_noForest) (Po := fun r hₚ => (∃ (Iₚ : gr_I) (Jₚ : gr_J), hₚ = gr_h Iₚ Jₚ ∧ gr_Inv Iₚ ∧ gr_fr [177, 179, 180, 181, 186] [] I Iₚ ∧ gr_fj [177, 179, 180, 181, 186] [] J Jₚ ∧ r = none ∧ (Iₚ 0 177 = -1) ∧ (Iₚ 0 186 = 0))) htb rfl (Nat.le_of_ble_eq_true rfl) ?_
  have f1 := (gr_b_0_177 hI)
  have f2 := (gr_b_0_186 hI)
  refine gv_run 3 true hD (pcₚ := 5) (lvₚ := [(0, .inr (.inr (some 0)))]) (stₚ := []) (hₚ := gz_up (gr_h I J) 0 177 (.inl (-1))) (C := (((True ∧ True) ∧ True) ∧ True)) rfl ⟨⟨⟨trivial, trivial⟩, trivial⟩, trivial⟩ ?_
  refine gr_st hI FI rfl rfl ⟨⟨by show (-1) ≤ _; exact gz_m 0 (by omega), by show _ ≤ 2999; exact gz_m 1 (by omega)⟩, trivial⟩ (fun I3 hI3 FI3 q4 p4 => ?_)
  have t5 := p4 0 186 (by decide)
  have f6 := (gr_b_0_177 hI3)
  have f7 := (gr_b_0_186 hI3)
  refine gv_run 3 true hD (pcₚ := 10) (lvₚ := [(0, .inr (.inr (some 0)))]) (stₚ := []) (hₚ := gz_up (gr_h I3 J) 0 186 (.inl 0)) (C := (((True ∧ True) ∧ True) ∧ True)) rfl ⟨⟨⟨trivial, trivial⟩, trivial⟩, trivial⟩ ?_
  refine gr_st hI3 FI3 rfl rfl ⟨⟨by show 0 ≤ _; exact gz_m 2 (by omega), by show _ ≤ 16; exact gz_m 3 (by omega)⟩, trivial⟩ (fun I8 hI8 FI8 q9 p9 => ?_)
  have t10 := p9 0 177 (by decide)
  have f11 := (gr_b_0_177 hI8)
  have f12 := (gr_b_0_186 hI8)
  refine gv_run 3 true hD (pcₚ := 15) (lvₚ := [(0, .inr (.inr (some 0)))]) (stₚ := []) (hₚ := gz_up (gr_h I8 J) 0 181 (.inr (.inl (Int64.ofNat 0)))) (C := (((True ∧ True) ∧ True) ∧ True)) rfl ⟨⟨⟨trivial, trivial⟩, trivial⟩, trivial⟩ ?_
  refine gr_stJ FJ rfl rfl (fun J13 FJ13 => ?_)
  refine gv_run 3 true hD (pcₚ := 20) (lvₚ := [(0, .inr (.inr (some 0)))]) (stₚ := []) (hₚ := gz_up (gr_h I8 J13) 0 179 (.inl 0)) (C := (((True ∧ True) ∧ True) ∧ True)) rfl ⟨⟨⟨trivial, trivial⟩, trivial⟩, trivial⟩ ?_
  refine gr_st hI8 FI8 rfl rfl ⟨⟨by show 0 ≤ _; exact gz_m 4 (by omega), by show _ ≤ 3000; exact gz_m 5 (by omega)⟩, trivial⟩ (fun I14 hI14 FI14 q15 p15 => ?_)
  have t16 := p15 0 177 (by decide)
  have t17 := p15 0 186 (by decide)
  have f18 := (gr_b_0_177 hI14)
  have f19 := (gr_b_0_186 hI14)
  refine gv_run 3 true hD (pcₚ := 25) (lvₚ := [(0, .inr (.inr (some 0)))]) (stₚ := []) (hₚ := gz_up (gr_h I14 J13) 0 180 (.inl 0)) (C := (((True ∧ True) ∧ True) ∧ True)) rfl ⟨⟨⟨trivial, trivial⟩, trivial⟩, trivial⟩ ?_
  refine gr_st hI14 FI14 rfl rfl ⟨⟨by show 0 ≤ _; exact gz_m 6 (by omega), by show _ ≤ 9000; exact gz_m 7 (by omega)⟩, trivial⟩ (fun I20 hI20 FI20 q21 p21 => ?_)
  have t22 := p21 0 177 (by decide)
  have t23 := p21 0 186 (by decide)
  have f24 := (gr_b_0_177 hI20)
  have f25 := (gr_b_0_186 hI20)
  exact gv_vret hD rfl ⟨I20, J13, rfl, hI20, FI20, FJ13, ⟨rfl, by exact gz_m 8 (by omega)⟩⟩
set_option maxHeartbeats 8000000 in
set_option maxRecDepth 100000 in
theorem r_parsed {ws0 : List Cond} {tb : String → gz_T} (hws : ∀ w ∈ gr_ws, w ∈ ws0) (htb : tb RX13 = gr_T) (ext : gz_Sh) (I : gr_I) (J : gr_J) (hI : gr_Inv I) (a1 : Int) (a2 : Int) (ha1 : 0 ≤ a1 ∧ a1 ≤ 7) (ha2 : 0 ≤ a2 ∧ a2 ≤ 31) (KGR_I : gr_GR I) : ∃ r hₚ, gz_Ev ws0 tb 12 (yX13_parsed, cX13_parsed, 4, (some .int)) [.inr (.inr (some 0)), .inl a1, .inl a2] (gr_sh ++ ext) (gr_h I J) r (gr_sh ++ ext) hₚ 0 0 ∧ (∃ (Iₚ : gr_I) (Jₚ : gr_J), hₚ = gr_h Iₚ Jₚ ∧ gr_Inv Iₚ ∧ gr_fr [126, 127, 128, 157, 158, 159, 160, 161, 166, 167, 168, 169, 170, 177, 179, 180, 181, 186] [76, 77, 78, 79, 87, 88, 89, 90, 91, 92, 93, 94, 95, 96, 97, 98, 99, 100, 101, 103, 104, 105, 106, 107, 108, 109, 110, 111, 112] I Iₚ ∧ gr_fj [126, 127, 128, 157, 158, 159, 160, 161, 166, 167, 168, 169, 170, 177, 179, 180, 181, 186] [76, 77, 78, 79, 87, 88, 89, 90, 91, 92, 93, 94, 95, 96, 97, 98, 99, 100, 101, 103, 104, 105, 106, 107, 108, 109, 110, 111, 112] J Jₚ ∧ gr_GR Iₚ ∧ (∃ z : Int, r = some (.inl z) ∧ (-1) ≤ z ∧ z ≤ 1 ∧ (gr_FV Iₚ) ∧ (gr_KR I Iₚ))) := by
  have FI : gr_fr [126, 127, 128, 157, 158, 159, 160, 161, 166, 167, 168, 169, 170, 177, 179, 180, 181, 186] [76, 77, 78, 79, 87, 88, 89, 90, 91, 92, 93, 94, 95, 96, 97, 98, 99, 100, 101, 103, 104, 105, 106, 107, 108, 109, 110, 111, 112] I I := fun _ _ _ => rfl
  have FJ : gr_fj [126, 127, 128, 157, 158, 159, 160, 161, 166, 167, 168, 169, 170, 177, 179, 180, 181, 186] [76, 77, 78, 79, 87, 88, 89, 90, 91, 92, 93, 94, 95, 96, 97, 98, 99, 100, 101, 103, 104, 105, 106, 107, 108, 109, 110, 111, 112] J J := fun _ _ _ => rfl
  have hD : gv_D (gr_E ws0 tb 11 (yX13_parsed, cX13_parsed, 4, (some .int)) kX13_parsed) := gq_of oX13_parsed
  refine gr_ev (d := 11) (l := kX13_parsed) (Po := fun r hₚ => (∃ (Iₚ : gr_I) (Jₚ : gr_J), hₚ = gr_h Iₚ Jₚ ∧ gr_Inv Iₚ ∧ gr_fr [126, 127, 128, 157, 158, 159, 160, 161, 166, 167, 168, 169, 170, 177, 179, 180, 181, 186] [76, 77, 78, 79, 87, 88, 89, 90, 91, 92, 93, 94, 95, 96, 97, 98, 99, 100, 101, 103, 104, 105, 106, 107, 108, 109, 110, 111, 112] I Iₚ ∧ gr_fj [126, 127, 128, 157, 158, 159, 160, 161, 166, 167, 168, 169, 170, 177, 179, 180, 181, 186] [76, 77, 78, 79, 87, 88, 89, 90, 91, 92, 93, 94, 95, 96, 97, 98, 99, 100, 101, 103, 104, 105, 106, 107, 108, 109, 110, 111, 112] J Jₚ ∧ gr_GR Iₚ ∧ (∃ z : Int, r = some (.inl z) ∧ (-1) ≤ z ∧ z ≤ 1 ∧ (gr_FV Iₚ) ∧ (gr_KR I Iₚ)))) htb rfl (Nat.le_of_ble_eq_true rfl) ?_
  have f1 := (gr_b_0_177 hI)
  have f2 := (gr_b_0_186 hI)
  have f3 := (gr_b_0_159 hI)
  have f4 := (gr_b_0_157 hI)
  have f5 := (gr_b_0_158 hI)
  have f6 := (gr_b_0_143 hI)
  have f7 := (gr_b_0_3 hI)
  have KKR_I : gr_KR I I := gr_KR_rf
  have L22 : ∀ (n : Nat) (I8 : gr_I) (J9 : gr_J) (v3_10 : Int), (97 - v3_10).toNat < n → gr_Inv I8 → gr_fr [126, 127, 128, 157, 158, 159, 160, 161, 166, 167, 168, 169, 170, 177, 179, 180, 181, 186] [76, 77, 78, 79, 87, 88, 89, 90, 91, 92, 93, 94, 95, 96, 97, 98, 99, 100, 101, 103, 104, 105, 106, 107, 108, 109, 110, 111, 112] I I8 → gr_fj [126, 127, 128, 157, 158, 159, 160, 161, 166, 167, 168, 169, 170, 177, 179, 180, 181, 186] [76, 77, 78, 79, 87, 88, 89, 90, 91, 92, 93, 94, 95, 96, 97, 98, 99, 100, 101, 103, 104, 105, 106, 107, 108, 109, 110, 111, 112] J J9 → gr_GR I8 → gr_KR I I8 → ((0 ≤ a1 ∧ a1 ≤ 7) ∧ (0 ≤ a2 ∧ a2 ≤ 31) ∧ (0 ≤ v3_10 ∧ v3_10 ≤ 96) ∧ (I8 0 177 = -1) ∧ (I8 0 186 = 0) ∧ (I8 0 159 = a1)) → gv_X (gr_E ws0 tb 11 (yX13_parsed, cX13_parsed, 4, (some .int)) kX13_parsed) (gv_Q cX13_parsed (some .int) (gr_sh ++ ext) (fun r hₚ => (∃ (Iₚ : gr_I) (Jₚ : gr_J), hₚ = gr_h Iₚ Jₚ ∧ gr_Inv Iₚ ∧ gr_fr [126, 127, 128, 157, 158, 159, 160, 161, 166, 167, 168, 169, 170, 177, 179, 180, 181, 186] [76, 77, 78, 79, 87, 88, 89, 90, 91, 92, 93, 94, 95, 96, 97, 98, 99, 100, 101, 103, 104, 105, 106, 107, 108, 109, 110, 111, 112] I Iₚ ∧ gr_fj [126, 127, 128, 157, 158, 159, 160, 161, 166, 167, 168, 169, 170, 177, 179, 180, 181, 186] [76, 77, 78, 79, 87, 88, 89, 90, 91, 92, 93, 94, 95, 96, 97, 98, 99, 100, 101, 103, 104, 105, 106, 107, 108, 109, 110, 111, 112] J Jₚ ∧ gr_GR Iₚ ∧ (∃ z : Int, r = some (.inl z) ∧ (-1) ≤ z ∧ z ≤ 1 ∧ (gr_FV Iₚ) ∧ (gr_KR I Iₚ))))) (22, [(0, .inr (.inr (some 0))), (1, .inl a1), (2, .inl a2), (3, .inl v3_10)], [], gr_sh ++ ext, gr_h I8 J9) := by
    intro n
    induction n with
    | zero => intro I8 J9 v3_10 hn; exact gz_m 0 (by omega)
    | succ n ih22 =>
      intro I8 J9 v3_10 hn hI8 FI8 FJ9 KGR_I8 KKR_I8 m_10
      obtain ⟨ha1_10, ha2_10, hv3_10, e0_10, e1_10, e2_10⟩ := m_10
      have f11 := (gr_b_0_177 hI8)
      have f12 := (gr_b_0_186 hI8)
      have f13 := (gr_b_0_159 hI8)
      have f14 := (gr_b_0_157 hI8)
      have f15 := (gr_b_0_158 hI8)
      have f16 := (gr_b_0_143 hI8)
      have f17 := (gr_b_0_3 hI8)
      refine gv_run 2 true hD (pcₚ := 25) (lvₚ := [(0, .inr (.inr (some 0))), (1, .inl a1), (2, .inl a2), (3, .inl v3_10)]) (stₚ := [.inl 96, .inl v3_10]) (hₚ := gr_h I8 J9) (C := ((True ∧ True) ∧ True)) rfl ⟨⟨trivial, trivial⟩, trivial⟩ ?_
      refine gv_icmp_ge (t := 41) hD rfl rfl ⟨⟨by exact gz_m 1 (by omega), by exact gz_m 2 (by omega)⟩, ⟨by exact gz_m 3 (by omega), by exact gz_m 4 (by omega)⟩⟩ (fun c18 => ?_) (fun c18 => ?_)
      · refine gv_run 2 true hD (pcₚ := 43) (lvₚ := [(0, .inr (.inr (some 0))), (1, .inl a1), (2, .inl a2), (3, .inl v3_10)]) (stₚ := [.inl a1, .inr (.inr (some 0))]) (hₚ := gr_h I8 J9) (C := ((True ∧ True) ∧ True)) rfl ⟨⟨trivial, trivial⟩, trivial⟩ ?_
        obtain ⟨r19, h19, E19, P19⟩ := r_chart (ws0 := ws0) (tb := tb) hws htb ext I8 J9 hI8 a1 ⟨by exact gz_m 5 (by omega), by exact gz_m 6 (by omega)⟩ KGR_I8
        obtain ⟨I20, J21, rfl, hI20, g19, k19, ⟨z19, rfl, q19⟩⟩ := P19
        have FI20 := gr_frt FI8 g19 rfl rfl
        have FJ21 := gr_fjt FJ9 k19 rfl rfl
        have t22 := g19 0 177 rfl
        have t23 := g19 0 186 rfl
        have t24 := g19 0 159 rfl
        have t25 := g19 0 143 rfl
        have t26 := g19 0 3 rfl
        have f27 := (gr_b_0_177 hI20)
        have f28 := (gr_b_0_186 hI20)
        have f29 := (gr_b_0_159 hI20)
        have f30 := (gr_b_0_157 hI20)
        have f31 := (gr_b_0_158 hI20)
        have f32 := (gr_b_0_143 hI20)
        have f33 := (gr_b_0_3 hI20)
        have KGR_I20 := gr_GR_fr KGR_I8 (fun k => g19 19 k rfl) (fun k => g19 18 k rfl) (fun k => g19 36 k rfl) (fun k => g19 41 k rfl) (fun k => g19 42 k rfl) (fun k => g19 43 k rfl) (fun k => g19 45 k rfl) (fun k => g19 46 k rfl) (fun k => g19 47 k rfl) (fun k => g19 6 k rfl) (fun k => g19 7 k rfl) (fun k => g19 8 k rfl) (g19 0 3 rfl)
        have l19 := q19.2.2.2
        have KKR_I20 := gr_KR_tr KKR_I8 l19
        refine gv_callV hD rfl (As := [.inl a1]) (st := []) rfl (by decide) rfl rfl (gr_lV hws rfl) (Nat.le_of_ble_eq_true rfl) (gz_Ev_mono (d := 11) (by decide) E19) ?_
        show gv_X _ _ (46, [(0, .inr (.inr (some 0))), (1, .inl a1), (2, .inl a2), (3, .inl v3_10)], [.inl z19], gr_sh ++ ext, gr_h I20 J21)
        refine gv_if_ne (t := 61) hD rfl rfl ⟨by exact gz_m 7 (by omega), by exact gz_m 8 (by omega)⟩ (fun c34 => ?_) (fun c34 => ?_)
        · have f35 := (gr_b_0_157 hI20)
          refine gv_run 3 true hD (pcₚ := 66) (lvₚ := [(0, .inr (.inr (some 0))), (1, .inl a1), (2, .inl a2), (3, .inl v3_10)]) (stₚ := [.inl (I20 0 157), .inr (.inr (some 0))]) (hₚ := gr_h I20 J21) (C := (((True ∧ True) ∧ True) ∧ True)) rfl ⟨⟨⟨trivial, trivial⟩, trivial⟩, trivial⟩ ?_
          refine gv_run 1 true hD (pcₚ := 69) (lvₚ := [(0, .inr (.inr (some 0))), (1, .inl a1), (2, .inl a2), (3, .inl v3_10)]) (stₚ := []) (hₚ := gz_up (gr_h I20 J21) 0 179 (.inl (I20 0 157))) (C := (True ∧ True)) rfl ⟨trivial, trivial⟩ ?_
          refine gr_st hI20 FI20 rfl rfl ⟨⟨by show 0 ≤ _; exact gz_m 9 (by omega), by show _ ≤ 3000; exact gz_m 10 (by omega)⟩, trivial⟩ (fun I36 hI36 FI36 q37 p37 => ?_)
          have t38 := p37 0 177 (by decide)
          have t39 := p37 0 186 (by decide)
          have t40 := p37 0 159 (by decide)
          have t41 := p37 0 157 (by decide)
          have t42 := p37 0 158 (by decide)
          have t43 := p37 0 143 (by decide)
          have t44 := p37 0 3 (by decide)
          have f45 := (gr_b_0_177 hI36)
          have f46 := (gr_b_0_186 hI36)
          have f47 := (gr_b_0_159 hI36)
          have f48 := (gr_b_0_157 hI36)
          have f49 := (gr_b_0_158 hI36)
          have f50 := (gr_b_0_143 hI36)
          have f51 := (gr_b_0_3 hI36)
          have KGR_I36 := gr_GR_fr KGR_I20 (fun k => p37 19 k (fun q => absurd q.1 (by first | exact gz_ne rfl | decide))) (fun k => p37 18 k (fun q => absurd q.1 (by first | exact gz_ne rfl | decide))) (fun k => p37 36 k (fun q => absurd q.1 (by first | exact gz_ne rfl | decide))) (fun k => p37 41 k (fun q => absurd q.1 (by first | exact gz_ne rfl | decide))) (fun k => p37 42 k (fun q => absurd q.1 (by first | exact gz_ne rfl | decide))) (fun k => p37 43 k (fun q => absurd q.1 (by first | exact gz_ne rfl | decide))) (fun k => p37 45 k (fun q => absurd q.1 (by first | exact gz_ne rfl | decide))) (fun k => p37 46 k (fun q => absurd q.1 (by first | exact gz_ne rfl | decide))) (fun k => p37 47 k (fun q => absurd q.1 (by first | exact gz_ne rfl | decide))) (fun k => p37 6 k (fun q => absurd q.1 (by first | exact gz_ne rfl | decide))) (fun k => p37 7 k (fun q => absurd q.1 (by first | exact gz_ne rfl | decide))) (fun k => p37 8 k (fun q => absurd q.1 (by first | exact gz_ne rfl | decide))) (p37 0 3 (by decide))
          have KKR_I36 := gr_KR_f KKR_I20 p37 (by decide)
          have f52 := (gr_b_0_158 hI36)
          refine gv_run 3 true hD (pcₚ := 74) (lvₚ := [(0, .inr (.inr (some 0))), (1, .inl a1), (2, .inl a2), (3, .inl v3_10)]) (stₚ := [.inl (I36 0 158), .inr (.inr (some 0))]) (hₚ := gr_h I36 J21) (C := (((True ∧ True) ∧ True) ∧ True)) rfl ⟨⟨⟨trivial, trivial⟩, trivial⟩, trivial⟩ ?_
          refine gv_run 1 true hD (pcₚ := 77) (lvₚ := [(0, .inr (.inr (some 0))), (1, .inl a1), (2, .inl a2), (3, .inl v3_10)]) (stₚ := []) (hₚ := gz_up (gr_h I36 J21) 0 180 (.inl (I36 0 158))) (C := (True ∧ True)) rfl ⟨trivial, trivial⟩ ?_
          refine gr_st hI36 FI36 rfl rfl ⟨⟨by show 0 ≤ _; exact gz_m 11 (by omega), by show _ ≤ 9000; exact gz_m 12 (by omega)⟩, trivial⟩ (fun I53 hI53 FI53 q54 p54 => ?_)
          have t55 := p54 0 177 (by decide)
          have t56 := p54 0 186 (by decide)
          have t57 := p54 0 159 (by decide)
          have t58 := p54 0 157 (by decide)
          have t59 := p54 0 158 (by decide)
          have t60 := p54 0 143 (by decide)
          have t61 := p54 0 3 (by decide)
          have f62 := (gr_b_0_177 hI53)
          have f63 := (gr_b_0_186 hI53)
          have f64 := (gr_b_0_159 hI53)
          have f65 := (gr_b_0_157 hI53)
          have f66 := (gr_b_0_158 hI53)
          have f67 := (gr_b_0_143 hI53)
          have f68 := (gr_b_0_3 hI53)
          have KGR_I53 := gr_GR_fr KGR_I36 (fun k => p54 19 k (fun q => absurd q.1 (by first | exact gz_ne rfl | decide))) (fun k => p54 18 k (fun q => absurd q.1 (by first | exact gz_ne rfl | decide))) (fun k => p54 36 k (fun q => absurd q.1 (by first | exact gz_ne rfl | decide))) (fun k => p54 41 k (fun q => absurd q.1 (by first | exact gz_ne rfl | decide))) (fun k => p54 42 k (fun q => absurd q.1 (by first | exact gz_ne rfl | decide))) (fun k => p54 43 k (fun q => absurd q.1 (by first | exact gz_ne rfl | decide))) (fun k => p54 45 k (fun q => absurd q.1 (by first | exact gz_ne rfl | decide))) (fun k => p54 46 k (fun q => absurd q.1 (by first | exact gz_ne rfl | decide))) (fun k => p54 47 k (fun q => absurd q.1 (by first | exact gz_ne rfl | decide))) (fun k => p54 6 k (fun q => absurd q.1 (by first | exact gz_ne rfl | decide))) (fun k => p54 7 k (fun q => absurd q.1 (by first | exact gz_ne rfl | decide))) (fun k => p54 8 k (fun q => absurd q.1 (by first | exact gz_ne rfl | decide))) (p54 0 3 (by decide))
          have KKR_I53 := gr_KR_f KKR_I36 p54 (by decide)
          have f69 := (gr_b_0_143 hI53)
          refine gv_run 7 true hD (pcₚ := 89) (lvₚ := [(0, .inr (.inr (some 0))), (1, .inl a1), (2, .inl a2), (3, .inl v3_10)]) (stₚ := [.inl ((I53 0 143) * 32), .inr (.inr (some 93)), .inr (.inr (some 0))]) (hₚ := gr_h I53 J21) (C := (((((((True ∧ True) ∧ True) ∧ True) ∧ True) ∧ True) ∧ True) ∧ True)) rfl ⟨⟨⟨⟨⟨⟨⟨trivial, trivial⟩, trivial⟩, trivial⟩, trivial⟩, trivial⟩, trivial⟩, trivial⟩ ?_
          have f70 := (gr_b_93 hI53 (Int.toNat ((((I53 0 143) * 32) + a2))))
          refine gv_run 3 true hD (pcₚ := 92) (lvₚ := [(0, .inr (.inr (some 0))), (1, .inl a1), (2, .inl a2), (3, .inl v3_10)]) (stₚ := [.inl (I53 93 (Int.toNat ((((I53 0 143) * 32) + a2)))), .inr (.inr (some 0))]) (hₚ := gr_h I53 J21) (C := (((True ∧ True) ∧ True) ∧ (0 ≤ ((((I53 0 143) * 32) + a2)) ∧ ((((I53 0 143) * 32) + a2)) < ((20000 : Nat) : Int)))) rfl ⟨⟨⟨trivial, trivial⟩, trivial⟩, ⟨by exact gz_m 13 (by omega), by exact gz_m 14 (by omega)⟩⟩ ?_
          have t71 := (show (I53 93 (Int.toNat ((((I53 0 143) * 32) + a2)))) < I20 0 157 from by have u9 := gr_SB_at (gr_o_x q19.2.2.1 (by exact gz_m 15 (by omega))).2.1 (i := 0) (j := I20 0 143) (k := a2) ⟨by exact gz_m 16 (by omega), by exact gz_m 17 (by omega)⟩ ⟨by exact gz_m 18 (by omega), by exact gz_m 19 (by omega)⟩ ⟨by exact gz_m 20 (by omega), by exact gz_m 21 (by omega)⟩; rw [p54 93 _ (fun q => absurd q.1 (by first | exact gz_ne rfl | decide)), p37 93 _ (fun q => absurd q.1 (by first | exact gz_ne rfl | decide))]; rw [show (25 * 0 + I20 0 143) * 32 + a2 = I53 0 143 * 32 + a2 from by exact gz_m 22 (by omega)] at u9; exact gz_m 23 (by omega))
          refine gv_run 1 true hD (pcₚ := 95) (lvₚ := [(0, .inr (.inr (some 0))), (1, .inl a1), (2, .inl a2), (3, .inl v3_10)]) (stₚ := []) (hₚ := gz_up (gr_h I53 J21) 0 177 (.inl ((I53 93 (Int.toNat ((((I53 0 143) * 32) + a2))))))) (C := (True ∧ True)) rfl ⟨trivial, trivial⟩ ?_
          refine gr_st hI53 FI53 rfl rfl ⟨⟨by show (-1) ≤ _; exact gz_m 24 (by omega), by show _ ≤ 2999; exact gz_m 25 (by omega)⟩, trivial⟩ (fun I72 hI72 FI72 q73 p73 => ?_)
          have t74 := p73 0 186 (by decide)
          have t75 := p73 0 159 (by decide)
          have t76 := p73 0 157 (by decide)
          have t77 := p73 0 158 (by decide)
          have t78 := p73 0 143 (by decide)
          have t79 := p73 0 3 (by decide)
          have f80 := (gr_b_0_177 hI72)
          have f81 := (gr_b_0_186 hI72)
          have f82 := (gr_b_0_159 hI72)
          have f83 := (gr_b_0_157 hI72)
          have f84 := (gr_b_0_158 hI72)
          have f85 := (gr_b_0_143 hI72)
          have f86 := (gr_b_0_3 hI72)
          have KGR_I72 := gr_GR_fr KGR_I53 (fun k => p73 19 k (fun q => absurd q.1 (by first | exact gz_ne rfl | decide))) (fun k => p73 18 k (fun q => absurd q.1 (by first | exact gz_ne rfl | decide))) (fun k => p73 36 k (fun q => absurd q.1 (by first | exact gz_ne rfl | decide))) (fun k => p73 41 k (fun q => absurd q.1 (by first | exact gz_ne rfl | decide))) (fun k => p73 42 k (fun q => absurd q.1 (by first | exact gz_ne rfl | decide))) (fun k => p73 43 k (fun q => absurd q.1 (by first | exact gz_ne rfl | decide))) (fun k => p73 45 k (fun q => absurd q.1 (by first | exact gz_ne rfl | decide))) (fun k => p73 46 k (fun q => absurd q.1 (by first | exact gz_ne rfl | decide))) (fun k => p73 47 k (fun q => absurd q.1 (by first | exact gz_ne rfl | decide))) (fun k => p73 6 k (fun q => absurd q.1 (by first | exact gz_ne rfl | decide))) (fun k => p73 7 k (fun q => absurd q.1 (by first | exact gz_ne rfl | decide))) (fun k => p73 8 k (fun q => absurd q.1 (by first | exact gz_ne rfl | decide))) (p73 0 3 (by decide))
          have KKR_I72 := gr_KR_f KKR_I53 p73 (by decide)
          have f87 := (gr_b_0_177 hI72)
          refine gv_run 2 true hD (pcₚ := 99) (lvₚ := [(0, .inr (.inr (some 0))), (1, .inl a1), (2, .inl a2), (3, .inl v3_10)]) (stₚ := [.inl (I72 0 177)]) (hₚ := gr_h I72 J21) (C := ((True ∧ True) ∧ True)) rfl ⟨⟨trivial, trivial⟩, trivial⟩ ?_
          refine gv_if_ge (t := 104) hD rfl rfl ⟨by exact gz_m 26 (by omega), by exact gz_m 27 (by omega)⟩ (fun c88 => ?_) (fun c88 => ?_)
          · refine gv_run 2 true hD (pcₚ := 106) (lvₚ := [(0, .inr (.inr (some 0))), (1, .inl a1), (2, .inl a2), (3, .inl v3_10)]) (stₚ := [.inr (.inr (some 0)), .inr (.inr (some 0))]) (hₚ := gr_h I72 J21) (C := ((True ∧ True) ∧ True)) rfl ⟨⟨trivial, trivial⟩, trivial⟩ ?_
            obtain ⟨r89, h89, E89, P89⟩ := r_counted_x (ws0 := ws0) (tb := tb) hws htb ext I72 J21 hI72   (by rw [show I72 0 159 = a1 from by exact gz_m 28 (by omega)]; exact (gr_CR_sm (gr_CR_sm (gr_CR_sm (gr_CR_of (gr_o_x q19.2.2.1 (by exact gz_m 29 (by omega)))) hI20 (fun k => p37 87 k (fun q => absurd q.1 (by first | exact gz_ne rfl | decide))) (fun k => p37 88 k (fun q => absurd q.1 (by first | exact gz_ne rfl | decide))) (fun k => p37 104 k (fun q => absurd q.1 (by first | exact gz_ne rfl | decide))) (fun k => p37 90 k (fun q => absurd q.1 (by first | exact gz_ne rfl | decide))) (fun k => p37 91 k (fun q => absurd q.1 (by first | exact gz_ne rfl | decide))) (fun k => p37 92 k (fun q => absurd q.1 (by first | exact gz_ne rfl | decide))) (fun k => p37 94 k (fun q => absurd q.1 (by first | exact gz_ne rfl | decide))) (fun k => p37 95 k (fun q => absurd q.1 (by first | exact gz_ne rfl | decide))) (fun k => p37 97 k (fun q => absurd q.1 (by first | exact gz_ne rfl | decide))) (fun k => p37 98 k (fun q => absurd q.1 (by first | exact gz_ne rfl | decide))) (fun k => p37 19 k (fun q => absurd q.1 (by first | exact gz_ne rfl | decide))) (fun k => p37 18 k (fun q => absurd q.1 (by first | exact gz_ne rfl | decide))) (fun k => p37 41 k (fun q => absurd q.1 (by first | exact gz_ne rfl | decide))) (fun k => p37 6 k (fun q => absurd q.1 (by first | exact gz_ne rfl | decide))) (fun k => p37 99 k (fun q => absurd q.1 (by first | exact gz_ne rfl | decide))) (p37 0 157 (by decide)) (p37 0 158 (by decide))) hI36 (fun k => p54 87 k (fun q => absurd q.1 (by first | exact gz_ne rfl | decide))) (fun k => p54 88 k (fun q => absurd q.1 (by first | exact gz_ne rfl | decide))) (fun k => p54 104 k (fun q => absurd q.1 (by first | exact gz_ne rfl | decide))) (fun k => p54 90 k (fun q => absurd q.1 (by first | exact gz_ne rfl | decide))) (fun k => p54 91 k (fun q => absurd q.1 (by first | exact gz_ne rfl | decide))) (fun k => p54 92 k (fun q => absurd q.1 (by first | exact gz_ne rfl | decide))) (fun k => p54 94 k (fun q => absurd q.1 (by first | exact gz_ne rfl | decide))) (fun k => p54 95 k (fun q => absurd q.1 (by first | exact gz_ne rfl | decide))) (fun k => p54 97 k (fun q => absurd q.1 (by first | exact gz_ne rfl | decide))) (fun k => p54 98 k (fun q => absurd q.1 (by first | exact gz_ne rfl | decide))) (fun k => p54 19 k (fun q => absurd q.1 (by first | exact gz_ne rfl | decide))) (fun k => p54 18 k (fun q => absurd q.1 (by first | exact gz_ne rfl | decide))) (fun k => p54 41 k (fun q => absurd q.1 (by first | exact gz_ne rfl | decide))) (fun k => p54 6 k (fun q => absurd q.1 (by first | exact gz_ne rfl | decide))) (fun k => p54 99 k (fun q => absurd q.1 (by first | exact gz_ne rfl | decide))) (p54 0 157 (by decide)) (p54 0 158 (by decide))) hI53 (fun k => p73 87 k (fun q => absurd q.1 (by first | exact gz_ne rfl | decide))) (fun k => p73 88 k (fun q => absurd q.1 (by first | exact gz_ne rfl | decide))) (fun k => p73 104 k (fun q => absurd q.1 (by first | exact gz_ne rfl | decide))) (fun k => p73 90 k (fun q => absurd q.1 (by first | exact gz_ne rfl | decide))) (fun k => p73 91 k (fun q => absurd q.1 (by first | exact gz_ne rfl | decide))) (fun k => p73 92 k (fun q => absurd q.1 (by first | exact gz_ne rfl | decide))) (fun k => p73 94 k (fun q => absurd q.1 (by first | exact gz_ne rfl | decide))) (fun k => p73 95 k (fun q => absurd q.1 (by first | exact gz_ne rfl | decide))) (fun k => p73 97 k (fun q => absurd q.1 (by first | exact gz_ne rfl | decide))) (fun k => p73 98 k (fun q => absurd q.1 (by first | exact gz_ne rfl | decide))) (fun k => p73 19 k (fun q => absurd q.1 (by first | exact gz_ne rfl | decide))) (fun k => p73 18 k (fun q => absurd q.1 (by first | exact gz_ne rfl | decide))) (fun k => p73 41 k (fun q => absurd q.1 (by first | exact gz_ne rfl | decide))) (fun k => p73 6 k (fun q => absurd q.1 (by first | exact gz_ne rfl | decide))) (fun k => p73 99 k (fun q => absurd q.1 (by first | exact gz_ne rfl | decide))) (p73 0 157 (by decide)) (p73 0 158 (by decide)))) (by exact gz_m 30 (by omega))
            obtain ⟨I90, J91, rfl, hI90, g89, k89, ⟨z89, rfl, q89⟩⟩ := P89
            have FI90 := gr_frt FI72 g89 rfl rfl
            have FJ91 := gr_fjt FJ21 k89 rfl rfl
            have t92 := g89 0 177 rfl
            have t93 := g89 0 159 rfl
            have t94 := g89 0 157 rfl
            have t95 := g89 0 158 rfl
            have t96 := g89 0 143 rfl
            have t97 := g89 0 3 rfl
            have f98 := (gr_b_0_177 hI90)
            have f99 := (gr_b_0_186 hI90)
            have f100 := (gr_b_0_159 hI90)
            have f101 := (gr_b_0_157 hI90)
            have f102 := (gr_b_0_158 hI90)
            have f103 := (gr_b_0_143 hI90)
            have f104 := (gr_b_0_3 hI90)
            have KGR_I90 := gr_GR_fr KGR_I72 (fun k => g89 19 k rfl) (fun k => g89 18 k rfl) (fun k => g89 36 k rfl) (fun k => g89 41 k rfl) (fun k => g89 42 k rfl) (fun k => g89 43 k rfl) (fun k => g89 45 k rfl) (fun k => g89 46 k rfl) (fun k => g89 47 k rfl) (fun k => g89 6 k rfl) (fun k => g89 7 k rfl) (fun k => g89 8 k rfl) (g89 0 3 rfl)
            have KKR_I90 := gr_KR_g KKR_I72 g89 (by decide)
            refine gv_callV hD rfl (As := []) (st := [.inr (.inr (some 0))]) rfl (by decide) rfl rfl (gr_lV hws rfl) (Nat.le_of_ble_eq_true rfl) (gz_Ev_mono (d := 8) (by decide) E89) ?_
            show gv_X _ _ (109, [(0, .inr (.inr (some 0))), (1, .inl a1), (2, .inl a2), (3, .inl v3_10)], [.inr (.inl z89), .inr (.inr (some 0))], gr_sh ++ ext, gr_h I90 J91)
            refine gv_run 1 true hD (pcₚ := 112) (lvₚ := [(0, .inr (.inr (some 0))), (1, .inl a1), (2, .inl a2), (3, .inl v3_10)]) (stₚ := []) (hₚ := gz_up (gr_h I90 J91) 0 181 (.inr (.inl z89))) (C := (True ∧ True)) rfl ⟨trivial, trivial⟩ ?_
            refine gr_stJ FJ91 rfl rfl (fun J105 FJ105 => ?_)
            refine gv_run 1 true hD (pcₚ := 113) (lvₚ := [(0, .inr (.inr (some 0))), (1, .inl a1), (2, .inl a2), (3, .inl v3_10)]) (stₚ := [.inl 1]) (hₚ := gr_h I90 J105) (C := (True ∧ True)) rfl ⟨trivial, trivial⟩ ?_
            exact gv_iret hD rfl ⟨I90, J105, rfl, hI90, FI90, FJ105, KGR_I90, ⟨_, rfl, by exact gz_m 31 (by omega), by exact gz_m 32 (by omega), (Or.inr ⟨⟨by exact gz_m 33 (by omega), by exact gz_m 34 (by omega)⟩, (by rw [show I90 0 159 = a1 from by exact gz_m 35 (by omega)]; exact (gr_CR_sm (gr_CR_sm (gr_CR_sm (gr_CR_sm (gr_CR_of (gr_o_x q19.2.2.1 (by exact gz_m 36 (by omega)))) hI20 (fun k => p37 87 k (fun q => absurd q.1 (by first | exact gz_ne rfl | decide))) (fun k => p37 88 k (fun q => absurd q.1 (by first | exact gz_ne rfl | decide))) (fun k => p37 104 k (fun q => absurd q.1 (by first | exact gz_ne rfl | decide))) (fun k => p37 90 k (fun q => absurd q.1 (by first | exact gz_ne rfl | decide))) (fun k => p37 91 k (fun q => absurd q.1 (by first | exact gz_ne rfl | decide))) (fun k => p37 92 k (fun q => absurd q.1 (by first | exact gz_ne rfl | decide))) (fun k => p37 94 k (fun q => absurd q.1 (by first | exact gz_ne rfl | decide))) (fun k => p37 95 k (fun q => absurd q.1 (by first | exact gz_ne rfl | decide))) (fun k => p37 97 k (fun q => absurd q.1 (by first | exact gz_ne rfl | decide))) (fun k => p37 98 k (fun q => absurd q.1 (by first | exact gz_ne rfl | decide))) (fun k => p37 19 k (fun q => absurd q.1 (by first | exact gz_ne rfl | decide))) (fun k => p37 18 k (fun q => absurd q.1 (by first | exact gz_ne rfl | decide))) (fun k => p37 41 k (fun q => absurd q.1 (by first | exact gz_ne rfl | decide))) (fun k => p37 6 k (fun q => absurd q.1 (by first | exact gz_ne rfl | decide))) (fun k => p37 99 k (fun q => absurd q.1 (by first | exact gz_ne rfl | decide))) (p37 0 157 (by decide)) (p37 0 158 (by decide))) hI36 (fun k => p54 87 k (fun q => absurd q.1 (by first | exact gz_ne rfl | decide))) (fun k => p54 88 k (fun q => absurd q.1 (by first | exact gz_ne rfl | decide))) (fun k => p54 104 k (fun q => absurd q.1 (by first | exact gz_ne rfl | decide))) (fun k => p54 90 k (fun q => absurd q.1 (by first | exact gz_ne rfl | decide))) (fun k => p54 91 k (fun q => absurd q.1 (by first | exact gz_ne rfl | decide))) (fun k => p54 92 k (fun q => absurd q.1 (by first | exact gz_ne rfl | decide))) (fun k => p54 94 k (fun q => absurd q.1 (by first | exact gz_ne rfl | decide))) (fun k => p54 95 k (fun q => absurd q.1 (by first | exact gz_ne rfl | decide))) (fun k => p54 97 k (fun q => absurd q.1 (by first | exact gz_ne rfl | decide))) (fun k => p54 98 k (fun q => absurd q.1 (by first | exact gz_ne rfl | decide))) (fun k => p54 19 k (fun q => absurd q.1 (by first | exact gz_ne rfl | decide))) (fun k => p54 18 k (fun q => absurd q.1 (by first | exact gz_ne rfl | decide))) (fun k => p54 41 k (fun q => absurd q.1 (by first | exact gz_ne rfl | decide))) (fun k => p54 6 k (fun q => absurd q.1 (by first | exact gz_ne rfl | decide))) (fun k => p54 99 k (fun q => absurd q.1 (by first | exact gz_ne rfl | decide))) (p54 0 157 (by decide)) (p54 0 158 (by decide))) hI53 (fun k => p73 87 k (fun q => absurd q.1 (by first | exact gz_ne rfl | decide))) (fun k => p73 88 k (fun q => absurd q.1 (by first | exact gz_ne rfl | decide))) (fun k => p73 104 k (fun q => absurd q.1 (by first | exact gz_ne rfl | decide))) (fun k => p73 90 k (fun q => absurd q.1 (by first | exact gz_ne rfl | decide))) (fun k => p73 91 k (fun q => absurd q.1 (by first | exact gz_ne rfl | decide))) (fun k => p73 92 k (fun q => absurd q.1 (by first | exact gz_ne rfl | decide))) (fun k => p73 94 k (fun q => absurd q.1 (by first | exact gz_ne rfl | decide))) (fun k => p73 95 k (fun q => absurd q.1 (by first | exact gz_ne rfl | decide))) (fun k => p73 97 k (fun q => absurd q.1 (by first | exact gz_ne rfl | decide))) (fun k => p73 98 k (fun q => absurd q.1 (by first | exact gz_ne rfl | decide))) (fun k => p73 19 k (fun q => absurd q.1 (by first | exact gz_ne rfl | decide))) (fun k => p73 18 k (fun q => absurd q.1 (by first | exact gz_ne rfl | decide))) (fun k => p73 41 k (fun q => absurd q.1 (by first | exact gz_ne rfl | decide))) (fun k => p73 6 k (fun q => absurd q.1 (by first | exact gz_ne rfl | decide))) (fun k => p73 99 k (fun q => absurd q.1 (by first | exact gz_ne rfl | decide))) (p73 0 157 (by decide)) (p73 0 158 (by decide))) hI72 (fun k => g89 87 k rfl) (fun k => g89 88 k rfl) (fun k => g89 104 k rfl) (fun k => g89 90 k rfl) (fun k => g89 91 k rfl) (fun k => g89 92 k rfl) (fun k => g89 94 k rfl) (fun k => g89 95 k rfl) (fun k => g89 97 k rfl) (fun k => g89 98 k rfl) (fun k => g89 19 k rfl) (fun k => g89 18 k rfl) (fun k => g89 41 k rfl) (fun k => g89 6 k rfl) (fun k => g89 99 k rfl) (g89 0 157 rfl) (g89 0 158 rfl))), (by rw [show I90 0 157 = I72 0 157 from by exact gz_m 37 (by omega)]; exact q89.1), q89.2⟩), KKR_I90⟩⟩
          · refine gv_run 1 true hD (pcₚ := 103) (lvₚ := [(0, .inr (.inr (some 0))), (1, .inl a1), (2, .inl a2), (3, .inl v3_10)]) (stₚ := [.inl 0]) (hₚ := gr_h I72 J21) (C := (True ∧ True)) rfl ⟨trivial, trivial⟩ ?_
            exact gv_iret hD rfl ⟨I72, J21, rfl, hI72, FI72, FJ21, KGR_I72, ⟨_, rfl, by exact gz_m 38 (by omega), by exact gz_m 39 (by omega), (gr_FV_no (by exact gz_m 40 (by omega)) (by exact gz_m 41 (by omega))), KKR_I72⟩⟩
        · refine gv_run 3 true hD (pcₚ := 54) (lvₚ := [(0, .inr (.inr (some 0))), (1, .inl a1), (2, .inl a2), (3, .inl v3_10)]) (stₚ := []) (hₚ := gz_up (gr_h I20 J21) 0 179 (.inl 0)) (C := (((True ∧ True) ∧ True) ∧ True)) rfl ⟨⟨⟨trivial, trivial⟩, trivial⟩, trivial⟩ ?_
          refine gr_st hI20 FI20 rfl rfl ⟨⟨by show 0 ≤ _; exact gz_m 42 (by omega), by show _ ≤ 3000; exact gz_m 43 (by omega)⟩, trivial⟩ (fun I106 hI106 FI106 q107 p107 => ?_)
          have t108 := p107 0 177 (by decide)
          have t109 := p107 0 186 (by decide)
          have t110 := p107 0 159 (by decide)
          have t111 := p107 0 157 (by decide)
          have t112 := p107 0 158 (by decide)
          have t113 := p107 0 143 (by decide)
          have t114 := p107 0 3 (by decide)
          have f115 := (gr_b_0_177 hI106)
          have f116 := (gr_b_0_186 hI106)
          have f117 := (gr_b_0_159 hI106)
          have f118 := (gr_b_0_157 hI106)
          have f119 := (gr_b_0_158 hI106)
          have f120 := (gr_b_0_143 hI106)
          have f121 := (gr_b_0_3 hI106)
          have KGR_I106 := gr_GR_fr KGR_I20 (fun k => p107 19 k (fun q => absurd q.1 (by first | exact gz_ne rfl | decide))) (fun k => p107 18 k (fun q => absurd q.1 (by first | exact gz_ne rfl | decide))) (fun k => p107 36 k (fun q => absurd q.1 (by first | exact gz_ne rfl | decide))) (fun k => p107 41 k (fun q => absurd q.1 (by first | exact gz_ne rfl | decide))) (fun k => p107 42 k (fun q => absurd q.1 (by first | exact gz_ne rfl | decide))) (fun k => p107 43 k (fun q => absurd q.1 (by first | exact gz_ne rfl | decide))) (fun k => p107 45 k (fun q => absurd q.1 (by first | exact gz_ne rfl | decide))) (fun k => p107 46 k (fun q => absurd q.1 (by first | exact gz_ne rfl | decide))) (fun k => p107 47 k (fun q => absurd q.1 (by first | exact gz_ne rfl | decide))) (fun k => p107 6 k (fun q => absurd q.1 (by first | exact gz_ne rfl | decide))) (fun k => p107 7 k (fun q => absurd q.1 (by first | exact gz_ne rfl | decide))) (fun k => p107 8 k (fun q => absurd q.1 (by first | exact gz_ne rfl | decide))) (p107 0 3 (by decide))
          have KKR_I106 := gr_KR_f KKR_I20 p107 (by decide)
          refine gv_run 3 true hD (pcₚ := 59) (lvₚ := [(0, .inr (.inr (some 0))), (1, .inl a1), (2, .inl a2), (3, .inl v3_10)]) (stₚ := []) (hₚ := gz_up (gr_h I106 J21) 0 180 (.inl 0)) (C := (((True ∧ True) ∧ True) ∧ True)) rfl ⟨⟨⟨trivial, trivial⟩, trivial⟩, trivial⟩ ?_
          refine gr_st hI106 FI106 rfl rfl ⟨⟨by show 0 ≤ _; exact gz_m 44 (by omega), by show _ ≤ 9000; exact gz_m 45 (by omega)⟩, trivial⟩ (fun I122 hI122 FI122 q123 p123 => ?_)
          have t124 := p123 0 177 (by decide)
          have t125 := p123 0 186 (by decide)
          have t126 := p123 0 159 (by decide)
          have t127 := p123 0 157 (by decide)
          have t128 := p123 0 158 (by decide)
          have t129 := p123 0 143 (by decide)
          have t130 := p123 0 3 (by decide)
          have f131 := (gr_b_0_177 hI122)
          have f132 := (gr_b_0_186 hI122)
          have f133 := (gr_b_0_159 hI122)
          have f134 := (gr_b_0_157 hI122)
          have f135 := (gr_b_0_158 hI122)
          have f136 := (gr_b_0_143 hI122)
          have f137 := (gr_b_0_3 hI122)
          have KGR_I122 := gr_GR_fr KGR_I106 (fun k => p123 19 k (fun q => absurd q.1 (by first | exact gz_ne rfl | decide))) (fun k => p123 18 k (fun q => absurd q.1 (by first | exact gz_ne rfl | decide))) (fun k => p123 36 k (fun q => absurd q.1 (by first | exact gz_ne rfl | decide))) (fun k => p123 41 k (fun q => absurd q.1 (by first | exact gz_ne rfl | decide))) (fun k => p123 42 k (fun q => absurd q.1 (by first | exact gz_ne rfl | decide))) (fun k => p123 43 k (fun q => absurd q.1 (by first | exact gz_ne rfl | decide))) (fun k => p123 45 k (fun q => absurd q.1 (by first | exact gz_ne rfl | decide))) (fun k => p123 46 k (fun q => absurd q.1 (by first | exact gz_ne rfl | decide))) (fun k => p123 47 k (fun q => absurd q.1 (by first | exact gz_ne rfl | decide))) (fun k => p123 6 k (fun q => absurd q.1 (by first | exact gz_ne rfl | decide))) (fun k => p123 7 k (fun q => absurd q.1 (by first | exact gz_ne rfl | decide))) (fun k => p123 8 k (fun q => absurd q.1 (by first | exact gz_ne rfl | decide))) (p123 0 3 (by decide))
          have KKR_I122 := gr_KR_f KKR_I106 p123 (by decide)
          refine gv_run 1 true hD (pcₚ := 60) (lvₚ := [(0, .inr (.inr (some 0))), (1, .inl a1), (2, .inl a2), (3, .inl v3_10)]) (stₚ := [.inl (-1)]) (hₚ := gr_h I122 J21) (C := (True ∧ True)) rfl ⟨trivial, trivial⟩ ?_
          exact gv_iret hD rfl ⟨I122, J21, rfl, hI122, FI122, FJ21, KGR_I122, ⟨_, rfl, by exact gz_m 46 (by omega), by exact gz_m 47 (by omega), (gr_FV_no (by exact gz_m 48 (by omega)) (by exact gz_m 49 (by omega))), KKR_I122⟩⟩
      · refine gv_run 4 true hD (pcₚ := 34) (lvₚ := [(0, .inr (.inr (some 0))), (1, .inl a1), (2, .inl a2), (3, .inl v3_10)]) (stₚ := [.inl 0, .inl v3_10, .inr (.inr (some 109))]) (hₚ := gr_h I8 J9) (C := ((((True ∧ True) ∧ True) ∧ True) ∧ True)) rfl ⟨⟨⟨⟨trivial, trivial⟩, trivial⟩, trivial⟩, trivial⟩ ?_
        have f138 := gw_nar_boolean (x := 0)
        refine gv_run 1 true hD (pcₚ := 35) (lvₚ := [(0, .inr (.inr (some 0))), (1, .inl a1), (2, .inl a2), (3, .inl v3_10)]) (stₚ := []) (hₚ := gz_up (gr_h I8 J9) 109 (Int.toNat v3_10) (.inl (((vp_nar .boolean (Int32.ofInt 0)).toInt)))) (C := (True ∧ (0 ≤ v3_10 ∧ v3_10 < ((96 : Nat) : Int)))) rfl ⟨trivial, ⟨by exact gz_m 50 (by omega), by exact gz_m 51 (by omega)⟩⟩ ?_
        refine gr_st hI8 FI8 rfl rfl ⟨⟨by show 0 ≤ _; exact gz_m 52 (by omega), by show _ ≤ 1; exact gz_m 53 (by omega)⟩, trivial⟩ (fun I139 hI139 FI139 q140 p140 => ?_)
        have t141 := p140 0 177 (fun q => absurd q.1 (by first | exact gz_ne rfl | decide))
        have t142 := p140 0 186 (fun q => absurd q.1 (by first | exact gz_ne rfl | decide))
        have t143 := p140 0 159 (fun q => absurd q.1 (by first | exact gz_ne rfl | decide))
        have t144 := p140 0 157 (fun q => absurd q.1 (by first | exact gz_ne rfl | decide))
        have t145 := p140 0 158 (fun q => absurd q.1 (by first | exact gz_ne rfl | decide))
        have t146 := p140 0 143 (fun q => absurd q.1 (by first | exact gz_ne rfl | decide))
        have t147 := p140 0 3 (fun q => absurd q.1 (by first | exact gz_ne rfl | decide))
        have f148 := (gr_b_0_177 hI139)
        have f149 := (gr_b_0_186 hI139)
        have f150 := (gr_b_0_159 hI139)
        have f151 := (gr_b_0_157 hI139)
        have f152 := (gr_b_0_158 hI139)
        have f153 := (gr_b_0_143 hI139)
        have f154 := (gr_b_0_3 hI139)
        have KGR_I139 := gr_GR_fr KGR_I8 (fun k => p140 19 k (fun q => absurd q.1 (by first | exact gz_ne rfl | decide))) (fun k => p140 18 k (fun q => absurd q.1 (by first | exact gz_ne rfl | decide))) (fun k => p140 36 k (fun q => absurd q.1 (by first | exact gz_ne rfl | decide))) (fun k => p140 41 k (fun q => absurd q.1 (by first | exact gz_ne rfl | decide))) (fun k => p140 42 k (fun q => absurd q.1 (by first | exact gz_ne rfl | decide))) (fun k => p140 43 k (fun q => absurd q.1 (by first | exact gz_ne rfl | decide))) (fun k => p140 45 k (fun q => absurd q.1 (by first | exact gz_ne rfl | decide))) (fun k => p140 46 k (fun q => absurd q.1 (by first | exact gz_ne rfl | decide))) (fun k => p140 47 k (fun q => absurd q.1 (by first | exact gz_ne rfl | decide))) (fun k => p140 6 k (fun q => absurd q.1 (by first | exact gz_ne rfl | decide))) (fun k => p140 7 k (fun q => absurd q.1 (by first | exact gz_ne rfl | decide))) (fun k => p140 8 k (fun q => absurd q.1 (by first | exact gz_ne rfl | decide))) (p140 0 3 (fun q => absurd q.1 (by first | exact gz_ne rfl | decide)))
        have KKR_I139 := gr_KR_a (by decide) KKR_I8 p140 (by decide)
        refine gv_run 2 true hD (pcₚ := 22) (lvₚ := [(3, .inl (v3_10 + 1)), (0, .inr (.inr (some 0))), (1, .inl a1), (2, .inl a2)]) (stₚ := []) (hₚ := gr_h I139 J9) (C := ((True ∧ True) ∧ True)) rfl ⟨⟨trivial, trivial⟩, trivial⟩ ?_
        refine gv_pick [1, 2, 3, 0] rfl ?_
        exact ih22 I139 J9 (v3_10 + 1) (by exact gz_m 54 (by omega)) hI139 FI139 FJ9 KGR_I139 KKR_I139 (by exact gz_m 55 (by omega))
  refine gv_run 3 true hD (pcₚ := 5) (lvₚ := [(0, .inr (.inr (some 0))), (1, .inl a1), (2, .inl a2)]) (stₚ := []) (hₚ := gz_up (gr_h I J) 0 177 (.inl (-1))) (C := (((True ∧ True) ∧ True) ∧ True)) rfl ⟨⟨⟨trivial, trivial⟩, trivial⟩, trivial⟩ ?_
  refine gr_st hI FI rfl rfl ⟨⟨by show (-1) ≤ _; exact gz_m 56 (by omega), by show _ ≤ 2999; exact gz_m 57 (by omega)⟩, trivial⟩ (fun I155 hI155 FI155 q156 p156 => ?_)
  have t157 := p156 0 186 (by decide)
  have t158 := p156 0 159 (by decide)
  have t159 := p156 0 157 (by decide)
  have t160 := p156 0 158 (by decide)
  have t161 := p156 0 143 (by decide)
  have t162 := p156 0 3 (by decide)
  have f163 := (gr_b_0_177 hI155)
  have f164 := (gr_b_0_186 hI155)
  have f165 := (gr_b_0_159 hI155)
  have f166 := (gr_b_0_157 hI155)
  have f167 := (gr_b_0_158 hI155)
  have f168 := (gr_b_0_143 hI155)
  have f169 := (gr_b_0_3 hI155)
  have KGR_I155 := gr_GR_fr KGR_I (fun k => p156 19 k (fun q => absurd q.1 (by first | exact gz_ne rfl | decide))) (fun k => p156 18 k (fun q => absurd q.1 (by first | exact gz_ne rfl | decide))) (fun k => p156 36 k (fun q => absurd q.1 (by first | exact gz_ne rfl | decide))) (fun k => p156 41 k (fun q => absurd q.1 (by first | exact gz_ne rfl | decide))) (fun k => p156 42 k (fun q => absurd q.1 (by first | exact gz_ne rfl | decide))) (fun k => p156 43 k (fun q => absurd q.1 (by first | exact gz_ne rfl | decide))) (fun k => p156 45 k (fun q => absurd q.1 (by first | exact gz_ne rfl | decide))) (fun k => p156 46 k (fun q => absurd q.1 (by first | exact gz_ne rfl | decide))) (fun k => p156 47 k (fun q => absurd q.1 (by first | exact gz_ne rfl | decide))) (fun k => p156 6 k (fun q => absurd q.1 (by first | exact gz_ne rfl | decide))) (fun k => p156 7 k (fun q => absurd q.1 (by first | exact gz_ne rfl | decide))) (fun k => p156 8 k (fun q => absurd q.1 (by first | exact gz_ne rfl | decide))) (p156 0 3 (by decide))
  have KKR_I155 := gr_KR_f KKR_I p156 (by decide)
  refine gv_run 3 true hD (pcₚ := 10) (lvₚ := [(0, .inr (.inr (some 0))), (1, .inl a1), (2, .inl a2)]) (stₚ := []) (hₚ := gz_up (gr_h I155 J) 0 186 (.inl 0)) (C := (((True ∧ True) ∧ True) ∧ True)) rfl ⟨⟨⟨trivial, trivial⟩, trivial⟩, trivial⟩ ?_
  refine gr_st hI155 FI155 rfl rfl ⟨⟨by show 0 ≤ _; exact gz_m 58 (by omega), by show _ ≤ 16; exact gz_m 59 (by omega)⟩, trivial⟩ (fun I170 hI170 FI170 q171 p171 => ?_)
  have t172 := p171 0 177 (by decide)
  have t173 := p171 0 159 (by decide)
  have t174 := p171 0 157 (by decide)
  have t175 := p171 0 158 (by decide)
  have t176 := p171 0 143 (by decide)
  have t177 := p171 0 3 (by decide)
  have f178 := (gr_b_0_177 hI170)
  have f179 := (gr_b_0_186 hI170)
  have f180 := (gr_b_0_159 hI170)
  have f181 := (gr_b_0_157 hI170)
  have f182 := (gr_b_0_158 hI170)
  have f183 := (gr_b_0_143 hI170)
  have f184 := (gr_b_0_3 hI170)
  have KGR_I170 := gr_GR_fr KGR_I155 (fun k => p171 19 k (fun q => absurd q.1 (by first | exact gz_ne rfl | decide))) (fun k => p171 18 k (fun q => absurd q.1 (by first | exact gz_ne rfl | decide))) (fun k => p171 36 k (fun q => absurd q.1 (by first | exact gz_ne rfl | decide))) (fun k => p171 41 k (fun q => absurd q.1 (by first | exact gz_ne rfl | decide))) (fun k => p171 42 k (fun q => absurd q.1 (by first | exact gz_ne rfl | decide))) (fun k => p171 43 k (fun q => absurd q.1 (by first | exact gz_ne rfl | decide))) (fun k => p171 45 k (fun q => absurd q.1 (by first | exact gz_ne rfl | decide))) (fun k => p171 46 k (fun q => absurd q.1 (by first | exact gz_ne rfl | decide))) (fun k => p171 47 k (fun q => absurd q.1 (by first | exact gz_ne rfl | decide))) (fun k => p171 6 k (fun q => absurd q.1 (by first | exact gz_ne rfl | decide))) (fun k => p171 7 k (fun q => absurd q.1 (by first | exact gz_ne rfl | decide))) (fun k => p171 8 k (fun q => absurd q.1 (by first | exact gz_ne rfl | decide))) (p171 0 3 (by decide))
  have KKR_I170 := gr_KR_f KKR_I155 p171 (by decide)
  refine gv_run 3 true hD (pcₚ := 15) (lvₚ := [(0, .inr (.inr (some 0))), (1, .inl a1), (2, .inl a2)]) (stₚ := []) (hₚ := gz_up (gr_h I170 J) 0 181 (.inr (.inl (Int64.ofNat 0)))) (C := (((True ∧ True) ∧ True) ∧ True)) rfl ⟨⟨⟨trivial, trivial⟩, trivial⟩, trivial⟩ ?_
  refine gr_stJ FJ rfl rfl (fun J185 FJ185 => ?_)
  refine gv_run 3 true hD (pcₚ := 20) (lvₚ := [(0, .inr (.inr (some 0))), (1, .inl a1), (2, .inl a2)]) (stₚ := []) (hₚ := gz_up (gr_h I170 J185) 0 159 (.inl a1)) (C := (((True ∧ True) ∧ True) ∧ True)) rfl ⟨⟨⟨trivial, trivial⟩, trivial⟩, trivial⟩ ?_
  refine gr_st hI170 FI170 rfl rfl ⟨⟨by show 0 ≤ _; exact gz_m 60 (by omega), by show _ ≤ 7; exact gz_m 61 (by omega)⟩, trivial⟩ (fun I186 hI186 FI186 q187 p187 => ?_)
  have t188 := p187 0 177 (by decide)
  have t189 := p187 0 186 (by decide)
  have t190 := p187 0 157 (by decide)
  have t191 := p187 0 158 (by decide)
  have t192 := p187 0 143 (by decide)
  have t193 := p187 0 3 (by decide)
  have f194 := (gr_b_0_177 hI186)
  have f195 := (gr_b_0_186 hI186)
  have f196 := (gr_b_0_159 hI186)
  have f197 := (gr_b_0_157 hI186)
  have f198 := (gr_b_0_158 hI186)
  have f199 := (gr_b_0_143 hI186)
  have f200 := (gr_b_0_3 hI186)
  have KGR_I186 := gr_GR_fr KGR_I170 (fun k => p187 19 k (fun q => absurd q.1 (by first | exact gz_ne rfl | decide))) (fun k => p187 18 k (fun q => absurd q.1 (by first | exact gz_ne rfl | decide))) (fun k => p187 36 k (fun q => absurd q.1 (by first | exact gz_ne rfl | decide))) (fun k => p187 41 k (fun q => absurd q.1 (by first | exact gz_ne rfl | decide))) (fun k => p187 42 k (fun q => absurd q.1 (by first | exact gz_ne rfl | decide))) (fun k => p187 43 k (fun q => absurd q.1 (by first | exact gz_ne rfl | decide))) (fun k => p187 45 k (fun q => absurd q.1 (by first | exact gz_ne rfl | decide))) (fun k => p187 46 k (fun q => absurd q.1 (by first | exact gz_ne rfl | decide))) (fun k => p187 47 k (fun q => absurd q.1 (by first | exact gz_ne rfl | decide))) (fun k => p187 6 k (fun q => absurd q.1 (by first | exact gz_ne rfl | decide))) (fun k => p187 7 k (fun q => absurd q.1 (by first | exact gz_ne rfl | decide))) (fun k => p187 8 k (fun q => absurd q.1 (by first | exact gz_ne rfl | decide))) (p187 0 3 (by decide))
  have KKR_I186 := gr_KR_f KKR_I170 p187 (by decide)
  refine gv_run 2 true hD (pcₚ := 22) (lvₚ := [(3, .inl 0), (0, .inr (.inr (some 0))), (1, .inl a1), (2, .inl a2)]) (stₚ := []) (hₚ := gr_h I186 J185) (C := ((True ∧ True) ∧ True)) rfl ⟨⟨trivial, trivial⟩, trivial⟩ ?_
  refine gv_pick [1, 2, 3, 0] rfl ?_
  exact L22 _ I186 J185 0 (Nat.lt_succ_self _) hI186 FI186 FJ185 KGR_I186 KKR_I186 (by exact gz_m 62 (by omega))
