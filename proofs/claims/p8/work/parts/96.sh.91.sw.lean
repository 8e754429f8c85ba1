/-! A FOREST STANDS over a module. -/
set_option maxHeartbeats 8000000 in
theorem gr_FV_st {I Iₚ : gr_I} (h : gr_FV I) (hI : gr_Inv I) (hG : gr_GR I) (st : gr_ST I Iₚ) (ht : 0 ≤ I 0 159 ∧ I 0 159 ≤ 7) (r0 : ∀ k, Iₚ 87 k = I 87 k) (r1 : ∀ k, Iₚ 88 k = I 88 k) (r2 : ∀ k, Iₚ 104 k = I 104 k) (r3 : ∀ k, Iₚ 90 k = I 90 k) (r4 : ∀ k, Iₚ 91 k = I 91 k) (r5 : ∀ k, Iₚ 92 k = I 92 k) (r6 : ∀ k, Iₚ 94 k = I 94 k) (r7 : ∀ k, Iₚ 95 k = I 95 k) (r8 : ∀ k, Iₚ 97 k = I 97 k) (r9 : ∀ k, Iₚ 98 k = I 98 k) (r10 : ∀ k, Iₚ 99 k = I 99 k) (r11 : ∀ k, Iₚ 105 k = I 105 k) (r12 : ∀ k, Iₚ 107 k = I 107 k) (r13 : ∀ k, Iₚ 108 k = I 108 k) (r14 : ∀ k, Iₚ 110 k = I 110 k) (r15 : ∀ k, Iₚ 111 k = I 111 k) (f0 : Iₚ 0 157 = I 0 157) (f1 : Iₚ 0 158 = I 0 158) (f2 : Iₚ 0 177 = I 0 177) (f3 : Iₚ 0 186 = I 0 186) (f4 : Iₚ 0 159 = I 0 159) : gr_FV Iₚ := by
  rcases h with h | ⟨a, b, c, d⟩
  · exact Or.inl (by exact gz_m 0 (by omega))
  have s9 := st.2 (Int.toNat (I 0 159)) (by exact gz_m 1 (by omega))
  have lf : ∀ k : Nat, 384 * (I 0 159) ≤ (k : Int) → (k : Int) < 384 * (I 0 159) + I 19 (Int.toNat (I 0 159)) → Iₚ 41 k = I 41 k ∧ Iₚ 6 (Int.toNat (I 41 k)) = I 6 (Int.toNat (I 41 k)) := fun k h1 h2 => by
    have e := s9.2.1 (Int.toNat ((k : Int) - 384 * I 0 159)) (by exact gz_m 2 (by omega))
    rw [show 384 * Int.toNat (I 0 159) + Int.toNat ((k : Int) - 384 * I 0 159) = k from by exact gz_m 3 (by omega)] at e
    have lw := gr_GR_at (x := (k : Int)) hG ht h1 h2
    rw [Int.toNat_natCast] at lw
    exact ⟨e, st.1.2 _ (by have := lw.1.1; have := lw.1.2.1; exact gz_m 4 (by omega))⟩
  refine Or.inr ⟨by exact gz_m 5 (by omega), by rw [f4]; exact gr_CR_fr b hI r0 r1 r2 r3 r4 r5 r6 r7 r8 r9 s9.1.1 s9.1.2 lf r10 f0 f1, ?_, fun q h5 h6 => ?_⟩
  · rw [f0]
    intro x r hx hr
    rw [r11] at hr
    have t1 := c x r hx hr
    obtain ⟨b1, b2, b3, b4, b5, b6⟩ := b
    have o9 := (b4 x hx).2 (Int.toNat (I 107 (16 * x + r))) (by have := (b4 x hx).1; have := t1.1; exact gz_m 6 (by omega)) (by have := (b4 x hx).1; have := t1.1; exact gz_m 7 (by omega))
    have w9 := b5 (Int.toNat (I 99 (Int.toNat (I 107 (16 * x + r))))) (by exact gz_m 8 (by omega))
    unfold gr_T1
    rw [r4, r5, r12, r13]
    refine ⟨t1.1, fun h0 m hm => ?_⟩
    rw [r10, r8] at h0
    have l9 := (w9.1 h0).1
    have e9 := (lf (Int.toNat (I 97 (Int.toNat (I 99 (Int.toNat (I 107 (16 * x + r))))))) (by exact gz_m 9 (by omega)) (by exact gz_m 10 (by omega))).2
    rw [← l9.2.2] at e9
    rw [r10, r7, e9] at hm
    rw [r10, r7, e9, r9, r11]
    exact t1.2 h0 m hm
  · rw [r14, r15, r11, f0]
    exact d q (by exact gz_m 11 (by omega)) h6
set_option maxHeartbeats 8000000 in
set_option maxRecDepth 100000 in
theorem r_bar {ws0 : List Cond} {tb : String → gz_T} (hws : ∀ w ∈ gr_ws, w ∈ ws0) (htb : tb RX13 = gr_T) (ext : gz_Sh) (I : gr_I) (J : gr_J) (hI : gr_Inv I) (a1 : Int) (a2 : Int) (ha1 : (-2147483648) ≤ a1 ∧ a1 ≤ 2147483647) (ha2 : 0 ≤ a2 ∧ a2 ≤ 1) (KGR_I : gr_GR I) (KFV_I : gr_FV I) : ∃ r hₚ, gz_Ev ws0 tb 9 (yX13_bar, cX13_bar, 3, (some .long)) [.inr (.inr (some 0)), .inl a1, .inl a2] (gr_sh ++ ext) (gr_h I J) r (gr_sh ++ ext) hₚ 0 0 ∧ (∃ (Iₚ : gr_I) (Jₚ : gr_J), hₚ = gr_h Iₚ Jₚ ∧ gr_Inv Iₚ ∧ gr_fr [0, 181, 186] [105, 106, 107, 108, 109, 110, 111, 112] I Iₚ ∧ gr_fj [0, 181, 186] [104, 105, 106, 107, 108, 109, 110, 111, 112] J Jₚ ∧ gr_GR Iₚ ∧ gr_FV Iₚ ∧ (∃ z : Int64, r = some (.inr (.inl z)))) := by
  have FI : gr_fr [0, 181, 186] [105, 106, 107, 108, 109, 110, 111, 112] I I := fun _ _ _ => rfl
  have FJ : gr_fj [0, 181, 186] [104, 105, 106, 107, 108, 109, 110, 111, 112] J J := fun _ _ _ => rfl
  have hD : gv_D (gr_E ws0 tb 8 (yX13_bar, cX13_bar, 3, (some .long)) kX13_bar) := gq_of oX13_bar
  refine gr_ev (d := 8) (l := kX13_bar) (Po := fun r hₚ => (∃ (Iₚ : gr_I) (Jₚ : gr_J), hₚ = gr_h Iₚ Jₚ ∧ gr_Inv Iₚ ∧ gr_fr [0, 181, 186] [105, 106, 107, 108, 109, 110, 111, 112] I Iₚ ∧ gr_fj [0, 181, 186] [104, 105, 106, 107, 108, 109, 110, 111, 112] J Jₚ ∧ gr_GR Iₚ ∧ gr_FV Iₚ ∧ (∃ z : Int64, r = some (.inr (.inl z))))) htb rfl (Nat.le_of_ble_eq_true rfl) ?_
  have f1 := (gr_b_0_177 hI)
  have f2 := (gr_b_0_186 hI)
  have f3 := (gr_b_0_159 hI)
  have f4 := (gr_b_0_157 hI)
  have f5 := (gr_b_0_3 hI)
  have L17 : ∀ (I6 : gr_I) (J7 : gr_J) , gr_Inv I6 → gr_fr [0, 181, 186] [105, 106, 107, 108, 109, 110, 111, 112] I I6 → gr_fj [0, 181, 186] [104, 105, 106, 107, 108, 109, 110, 111, 112] J J7 → gr_GR I6 → gr_FV I6 → gv_X (gr_E ws0 tb 8 (yX13_bar, cX13_bar, 3, (some .long)) kX13_bar) (gv_Q cX13_bar (some .long) (gr_sh ++ ext) (fun r hₚ => (∃ (Iₚ : gr_I) (Jₚ : gr_J), hₚ = gr_h Iₚ Jₚ ∧ gr_Inv Iₚ ∧ gr_fr [0, 181, 186] [105, 106, 107, 108, 109, 110, 111, 112] I Iₚ ∧ gr_fj [0, 181, 186] [104, 105, 106, 107, 108, 109, 110, 111, 112] J Jₚ ∧ gr_GR Iₚ ∧ gr_FV Iₚ ∧ (∃ z : Int64, r = some (.inr (.inl z)))))) (17, [(0, .inr (.inr (some 0)))], [], gr_sh ++ ext, gr_h I6 J7) := by
    intro I6 J7 hI6 FI6 FJ7 KGR_I6 KFV_I6
    have f9 := (gr_b_0_177 hI6)
    have f10 := (gr_b_0_186 hI6)
    have f11 := (gr_b_0_159 hI6)
    have f12 := (gr_b_0_157 hI6)
    have f13 := (gr_b_0_3 hI6)
    refine gv_run 1 true hD (pcₚ := 18) (lvₚ := [(0, .inr (.inr (some 0)))]) (stₚ := [.inr (.inr (some 0))]) (hₚ := gr_h I6 J7) (C := (True ∧ True)) rfl ⟨trivial, trivial⟩ ?_
    obtain ⟨r14, h14, E14, P14⟩ := r_bad (ws0 := ws0) (tb := tb) hws htb ext I6 J7 hI6   
    obtain ⟨I15, J16, rfl, hI15, g14, k14, ⟨z14, rfl, q14⟩⟩ := P14
    have FI15 := gr_frt FI6 g14 rfl rfl
    have FJ16 := gr_fjt FJ7 k14 rfl rfl
    have t17 := g14 0 177 rfl
    have t18 := g14 0 186 rfl
    have t19 := g14 0 159 rfl
    have t20 := g14 0 157 rfl
    have t21 := g14 0 3 rfl
    have f22 := (gr_b_0_177 hI15)
    have f23 := (gr_b_0_186 hI15)
    have f24 := (gr_b_0_159 hI15)
    have f25 := (gr_b_0_157 hI15)
    have f26 := (gr_b_0_3 hI15)
    have KGR_I15 := gr_GR_fr KGR_I6 (fun k => g14 19 k rfl) (fun k => g14 18 k rfl) (fun k => g14 36 k rfl) (fun k => g14 41 k rfl) (fun k => g14 42 k rfl) (fun k => g14 43 k rfl) (fun k => g14 45 k rfl) (fun k => g14 46 k rfl) (fun k => g14 47 k rfl) (fun k => g14 6 k rfl) (fun k => g14 7 k rfl) (fun k => g14 8 k rfl) (g14 0 3 rfl)
    have KFV_I15 := gr_FV_fr KFV_I6 (fun k => g14 87 k rfl) (fun k => g14 88 k rfl) (fun k => g14 104 k rfl) (fun k => g14 90 k rfl) (fun k => g14 91 k rfl) (fun k => g14 92 k rfl) (fun k => g14 94 k rfl) (fun k => g14 95 k rfl) (fun k => g14 97 k rfl) (fun k => g14 98 k rfl) (fun k => g14 19 k rfl) (fun k => g14 18 k rfl) (fun k => g14 41 k rfl) (fun k => g14 6 k rfl) (fun k => g14 99 k rfl) (fun k => g14 105 k rfl) (fun k => g14 107 k rfl) (fun k => g14 108 k rfl) (fun k => g14 110 k rfl) (fun k => g14 111 k rfl) (g14 0 157 rfl) (g14 0 158 rfl) (g14 0 177 rfl) (g14 0 186 rfl) (g14 0 159 rfl) hI6
    refine gv_callV hD rfl (As := []) (st := []) rfl (by decide) rfl rfl (gr_lV hws rfl) (Nat.le_of_ble_eq_true rfl) (gz_Ev_mono (d := 1) (by decide) E14) ?_
    show gv_X _ _ (21, [(0, .inr (.inr (some 0)))], [.inl z14], gr_sh ++ ext, gr_h I15 J16)
    refine gv_run 1 true hD (pcₚ := 22) (lvₚ := [(0, .inr (.inr (some 0)))]) (stₚ := [.inr (.inl (Int32.ofInt z14).toInt64)]) (hₚ := gr_h I15 J16) (C := (True ∧ True)) rfl ⟨trivial, trivial⟩ ?_
    exact gv_lret hD rfl ⟨I15, J16, rfl, hI15, FI15, FJ16, KGR_I15, KFV_I15, ⟨_, rfl⟩⟩
  have L45 : ∀ (I27 : gr_I) (J28 : gr_J) , gr_Inv I27 → gr_fr [0, 181, 186] [105, 106, 107, 108, 109, 110, 111, 112] I I27 → gr_fj [0, 181, 186] [104, 105, 106, 107, 108, 109, 110, 111, 112] J J28 → gr_GR I27 → gr_FV I27 → gv_X (gr_E ws0 tb 8 (yX13_bar, cX13_bar, 3, (some .long)) kX13_bar) (gv_Q cX13_bar (some .long) (gr_sh ++ ext) (fun r hₚ => (∃ (Iₚ : gr_I) (Jₚ : gr_J), hₚ = gr_h Iₚ Jₚ ∧ gr_Inv Iₚ ∧ gr_fr [0, 181, 186] [105, 106, 107, 108, 109, 110, 111, 112] I Iₚ ∧ gr_fj [0, 181, 186] [104, 105, 106, 107, 108, 109, 110, 111, 112] J Jₚ ∧ gr_GR Iₚ ∧ gr_FV Iₚ ∧ (∃ z : Int64, r = some (.inr (.inl z)))))) (45, [(0, .inr (.inr (some 0)))], [], gr_sh ++ ext, gr_h I27 J28) := by
    intro I27 J28 hI27 FI27 FJ28 KGR_I27 KFV_I27
    have f30 := (gr_b_0_177 hI27)
    have f31 := (gr_b_0_186 hI27)
    have f32 := (gr_b_0_159 hI27)
    have f33 := (gr_b_0_157 hI27)
    have f34 := (gr_b_0_3 hI27)
    refine gv_run 2 true hD (pcₚ := 49) (lvₚ := [(0, .inr (.inr (some 0)))]) (stₚ := [.inr (.inl (J28 0 181))]) (hₚ := gr_h I27 J28) (C := ((True ∧ True) ∧ True)) rfl ⟨⟨trivial, trivial⟩, trivial⟩ ?_
    exact gv_lret hD rfl ⟨I27, J28, rfl, hI27, FI27, FJ28, KGR_I27, KFV_I27, ⟨_, rfl⟩⟩
  refine gv_run 3 true hD (pcₚ := 5) (lvₚ := [(0, .inr (.inr (some 0))), (1, .inl a1), (2, .inl a2)]) (stₚ := []) (hₚ := gz_up (gr_h I J) 0 0 (.inl 0)) (C := (((True ∧ True) ∧ True) ∧ True)) rfl ⟨⟨⟨trivial, trivial⟩, trivial⟩, trivial⟩ ?_
  refine gr_st hI FI rfl rfl ⟨⟨by show 0 ≤ _; exact gz_m 0 (by omega), by show _ ≤ 2; exact gz_m 1 (by omega)⟩, trivial⟩ (fun I35 hI35 FI35 q36 p36 => ?_)
  have t37 := p36 0 177 (by decide)
  have t38 := p36 0 186 (by decide)
  have t39 := p36 0 159 (by decide)
  have t40 := p36 0 157 (by decide)
  have t41 := p36 0 3 (by decide)
  have f42 := (gr_b_0_177 hI35)
  have f43 := (gr_b_0_186 hI35)
  have f44 := (gr_b_0_159 hI35)
  have f45 := (gr_b_0_157 hI35)
  have f46 := (gr_b_0_3 hI35)
  have KGR_I35 := gr_GR_fr KGR_I (fun k => p36 19 k (fun q => absurd q.1 (by first | exact gz_ne rfl | decide))) (fun k => p36 18 k (fun q => absurd q.1 (by first | exact gz_ne rfl | decide))) (fun k => p36 36 k (fun q => absurd q.1 (by first | exact gz_ne rfl | decide))) (fun k => p36 41 k (fun q => absurd q.1 (by first | exact gz_ne rfl | decide))) (fun k => p36 42 k (fun q => absurd q.1 (by first | exact gz_ne rfl | decide))) (fun k => p36 43 k (fun q => absurd q.1 (by first | exact gz_ne rfl | decide))) (fun k => p36 45 k (fun q => absurd q.1 (by first | exact gz_ne rfl | decide))) (fun k => p36 46 k (fun q => absurd q.1 (by first | exact gz_ne rfl | decide))) (fun k => p36 47 k (fun q => absurd q.1 (by first | exact gz_ne rfl | decide))) (fun k => p36 6 k (fun q => absurd q.1 (by first | exact gz_ne rfl | decide))) (fun k => p36 7 k (fun q => absurd q.1 (by first | exact gz_ne rfl | decide))) (fun k => p36 8 k (fun q => absurd q.1 (by first | exact gz_ne rfl | decide))) (p36 0 3 (by decide))
  have KFV_I35 := gr_FV_fr KFV_I (fun k => p36 87 k (fun q => absurd q.1 (by first | exact gz_ne rfl | decide))) (fun k => p36 88 k (fun q => absurd q.1 (by first | exact gz_ne rfl | decide))) (fun k => p36 104 k (fun q => absurd q.1 (by first | exact gz_ne rfl | decide))) (fun k => p36 90 k (fun q => absurd q.1 (by first | exact gz_ne rfl | decide))) (fun k => p36 91 k (fun q => absurd q.1 (by first | exact gz_ne rfl | decide))) (fun k => p36 92 k (fun q => absurd q.1 (by first | exact gz_ne rfl | decide))) (fun k => p36 94 k (fun q => absurd q.1 (by first | exact gz_ne rfl | decide))) (fun k => p36 95 k (fun q => absurd q.1 (by first | exact gz_ne rfl | decide))) (fun k => p36 97 k (fun q => absurd q.1 (by first | exact gz_ne rfl | decide))) (fun k => p36 98 k (fun q => absurd q.1 (by first | exact gz_ne rfl | decide))) (fun k => p36 19 k (fun q => absurd q.1 (by first | exact gz_ne rfl | decide))) (fun k => p36 18 k (fun q => absurd q.1 (by first | exact gz_ne rfl | decide))) (fun k => p36 41 k (fun q => absurd q.1 (by first | exact gz_ne rfl | decide))) (fun k => p36 6 k (fun q => absurd q.1 (by first | exact gz_ne rfl | decide))) (fun k => p36 99 k (fun q => absurd q.1 (by first | exact gz_ne rfl | decide))) (fun k => p36 105 k (fun q => absurd q.1 (by first | exact gz_ne rfl | decide))) (fun k => p36 107 k (fun q => absurd q.1 (by first | exact gz_ne rfl | decide))) (fun k => p36 108 k (fun q => absurd q.1 (by first | exact gz_ne rfl | decide))) (fun k => p36 110 k (fun q => absurd q.1 (by first | exact gz_ne rfl | decide))) (fun k => p36 111 k (fun q => absurd q.1 (by first | exact gz_ne rfl | decide))) (p36 0 157 (by decide)) (p36 0 158 (by decide)) (p36 0 177 (by decide)) (p36 0 186 (by decide)) (p36 0 159 (by decide)) hI
  refine gv_run 1 true hD (pcₚ := 6) (lvₚ := [(0, .inr (.inr (some 0))), (1, .inl a1), (2, .inl a2)]) (stₚ := [.inl a1]) (hₚ := gr_h I35 J) (C := (True ∧ True)) rfl ⟨trivial, trivial⟩ ?_
  refine gv_if_lt (t := 17) hD rfl rfl ⟨by exact gz_m 2 (by omega), by exact gz_m 3 (by omega)⟩ (fun c47 => ?_) (fun c47 => ?_)
  · refine gv_pick [0] rfl ?_
    exact L17 I35 J hI35 FI35 FJ KGR_I35 KFV_I35
  · have f48 := (gr_b_0_3 hI35)
    refine gv_run 3 true hD (pcₚ := 14) (lvₚ := [(0, .inr (.inr (some 0))), (1, .inl a1), (2, .inl a2)]) (stₚ := [.inl (I35 0 3), .inl a1]) (hₚ := gr_h I35 J) (C := (((True ∧ True) ∧ True) ∧ True)) rfl ⟨⟨⟨trivial, trivial⟩, trivial⟩, trivial⟩ ?_
    refine gv_icmp_lt (t := 23) hD rfl rfl ⟨⟨by exact gz_m 4 (by omega), by exact gz_m 5 (by omega)⟩, ⟨by exact gz_m 6 (by omega), by exact gz_m 7 (by omega)⟩⟩ (fun c49 => ?_) (fun c49 => ?_)
    · refine gv_run 4 true hD (pcₚ := 29) (lvₚ := [(0, .inr (.inr (some 0))), (1, .inl a1), (2, .inl a2)]) (stₚ := [.inl a2, .inl a1, .inr (.inr (some 109))]) (hₚ := gr_h I35 J) (C := ((((True ∧ True) ∧ True) ∧ True) ∧ True)) rfl ⟨⟨⟨⟨trivial, trivial⟩, trivial⟩, trivial⟩, trivial⟩ ?_
      have f50 := gw_nar_boolean (x := a2)
      refine gv_run 1 true hD (pcₚ := 30) (lvₚ := [(0, .inr (.inr (some 0))), (1, .inl a1), (2, .inl a2)]) (stₚ := []) (hₚ := gz_up (gr_h I35 J) 109 (Int.toNat a1) (.inl (((vp_nar .boolean (Int32.ofInt a2)).toInt)))) (C := (True ∧ (0 ≤ a1 ∧ a1 < ((96 : Nat) : Int)))) rfl ⟨trivial, ⟨by exact gz_m 8 (by omega), by exact gz_m 9 (by omega)⟩⟩ ?_
      refine gr_st hI35 FI35 rfl rfl ⟨⟨by show 0 ≤ _; exact gz_m 10 (by omega), by show _ ≤ 1; exact gz_m 11 (by omega)⟩, trivial⟩ (fun I51 hI51 FI51 q52 p52 => ?_)
      have t53 := p52 0 177 (fun q => absurd q.1 (by first | exact gz_ne rfl | decide))
      have t54 := p52 0 186 (fun q => absurd q.1 (by first | exact gz_ne rfl | decide))
      have t55 := p52 0 159 (fun q => absurd q.1 (by first | exact gz_ne rfl | decide))
      have t56 := p52 0 157 (fun q => absurd q.1 (by first | exact gz_ne rfl | decide))
      have t57 := p52 0 3 (fun q => absurd q.1 (by first | exact gz_ne rfl | decide))
      have f58 := (gr_b_0_177 hI51)
      have f59 := (gr_b_0_186 hI51)
      have f60 := (gr_b_0_159 hI51)
      have f61 := (gr_b_0_157 hI51)
      have f62 := (gr_b_0_3 hI51)
      have KGR_I51 := gr_GR_fr KGR_I35 (fun k => p52 19 k (fun q => absurd q.1 (by first | exact gz_ne rfl | decide))) (fun k => p52 18 k (fun q => absurd q.1 (by first | exact gz_ne rfl | decide))) (fun k => p52 36 k (fun q => absurd q.1 (by first | exact gz_ne rfl | decide))) (fun k => p52 41 k (fun q => absurd q.1 (by first | exact gz_ne rfl | decide))) (fun k => p52 42 k (fun q => absurd q.1 (by first | exact gz_ne rfl | decide))) (fun k => p52 43 k (fun q => absurd q.1 (by first | exact gz_ne rfl | decide))) (fun k => p52 45 k (fun q => absurd q.1 (by first | exact gz_ne rfl | decide))) (fun k => p52 46 k (fun q => absurd q.1 (by first | exact gz_ne rfl | decide))) (fun k => p52 47 k (fun q => absurd q.1 (by first | exact gz_ne rfl | decide))) (fun k => p52 6 k (fun q => absurd q.1 (by first | exact gz_ne rfl | decide))) (fun k => p52 7 k (fun q => absurd q.1 (by first | exact gz_ne rfl | decide))) (fun k => p52 8 k (fun q => absurd q.1 (by first | exact gz_ne rfl | decide))) (p52 0 3 (fun q => absurd q.1 (by first | exact gz_ne rfl | decide)))
      have KFV_I51 := gr_FV_fr KFV_I35 (fun k => p52 87 k (fun q => absurd q.1 (by first | exact gz_ne rfl | decide))) (fun k => p52 88 k (fun q => absurd q.1 (by first | exact gz_ne rfl | decide))) (fun k => p52 104 k (fun q => absurd q.1 (by first | exact gz_ne rfl | decide))) (fun k => p52 90 k (fun q => absurd q.1 (by first | exact gz_ne rfl | decide))) (fun k => p52 91 k (fun q => absurd q.1 (by first | exact gz_ne rfl | decide))) (fun k => p52 92 k (fun q => absurd q.1 (by first | exact gz_ne rfl | decide))) (fun k => p52 94 k (fun q => absurd q.1 (by first | exact gz_ne rfl | decide))) (fun k => p52 95 k (fun q => absurd q.1 (by first | exact gz_ne rfl | decide))) (fun k => p52 97 k (fun q => absurd q.1 (by first | exact gz_ne rfl | decide))) (fun k => p52 98 k (fun q => absurd q.1 (by first | exact gz_ne rfl | decide))) (fun k => p52 19 k (fun q => absurd q.1 (by first | exact gz_ne rfl | decide))) (fun k => p52 18 k (fun q => absurd q.1 (by first | exact gz_ne rfl | decide))) (fun k => p52 41 k (fun q => absurd q.1 (by first | exact gz_ne rfl | decide))) (fun k => p52 6 k (fun q => absurd q.1 (by first | exact gz_ne rfl | decide))) (fun k => p52 99 k (fun q => absurd q.1 (by first | exact gz_ne rfl | decide))) (fun k => p52 105 k (fun q => absurd q.1 (by first | exact gz_ne rfl | decide))) (fun k => p52 107 k (fun q => absurd q.1 (by first | exact gz_ne rfl | decide))) (fun k => p52 108 k (fun q => absurd q.1 (by first | exact gz_ne rfl | decide))) (fun k => p52 110 k (fun q => absurd q.1 (by first | exact gz_ne rfl | decide))) (fun k => p52 111 k (fun q => absurd q.1 (by first | exact gz_ne rfl | decide))) (p52 0 157 (fun q => absurd q.1 (by first | exact gz_ne rfl | decide))) (p52 0 158 (fun q => absurd q.1 (by first | exact gz_ne rfl | decide))) (p52 0 177 (fun q => absurd q.1 (by first | exact gz_ne rfl | decide))) (p52 0 186 (fun q => absurd q.1 (by first | exact gz_ne rfl | decide))) (p52 0 159 (fun q => absurd q.1 (by first | exact gz_ne rfl | decide))) hI35
      have f63 := (gr_b_0_177 hI51)
      refine gv_run 2 true hD (pcₚ := 34) (lvₚ := [(0, .inr (.inr (some 0))), (1, .inl a1), (2, .inl a2)]) (stₚ := [.inl (I51 0 177)]) (hₚ := gr_h I51 J) (C := ((True ∧ True) ∧ True)) rfl ⟨⟨trivial, trivial⟩, trivial⟩ ?_
      refine gv_if_lt (t := 45) hD rfl rfl ⟨by exact gz_m 12 (by omega), by exact gz_m 13 (by omega)⟩ (fun c64 => ?_) (fun c64 => ?_)
      · refine gv_pick [0] rfl ?_
        exact L45 I51 J hI51 FI51 FJ KGR_I51 KFV_I51
      · refine gv_run 2 true hD (pcₚ := 39) (lvₚ := [(0, .inr (.inr (some 0))), (1, .inl a1), (2, .inl a2)]) (stₚ := [.inr (.inr (some 0)), .inr (.inr (some 0))]) (hₚ := gr_h I51 J) (C := ((True ∧ True) ∧ True)) rfl ⟨⟨trivial, trivial⟩, trivial⟩ ?_
        have t65 := (gr_FV_r KFV_I51 (by exact gz_m 14 (by omega))).1
        obtain ⟨r66, h66, E66, P66⟩ := r_counted_x (ws0 := ws0) (tb := tb) hws htb ext I51 J hI51   (gr_FV_r KFV_I51 (by exact gz_m 15 (by omega))).2.1 (by exact gz_m 16 (by omega))
        obtain ⟨I67, J68, rfl, hI67, g66, k66, ⟨z66, rfl, q66⟩⟩ := P66
        have FI67 := gr_frt FI51 g66 rfl rfl
        have FJ68 := gr_fjt FJ k66 rfl rfl
        have t69 := g66 0 177 rfl
        have t70 := g66 0 159 rfl
        have t71 := g66 0 157 rfl
        have t72 := g66 0 3 rfl
        have f73 := (gr_b_0_177 hI67)
        have f74 := (gr_b_0_186 hI67)
        have f75 := (gr_b_0_159 hI67)
        have f76 := (gr_b_0_157 hI67)
        have f77 := (gr_b_0_3 hI67)
        have KGR_I67 := gr_GR_fr KGR_I51 (fun k => g66 19 k rfl) (fun k => g66 18 k rfl) (fun k => g66 36 k rfl) (fun k => g66 41 k rfl) (fun k => g66 42 k rfl) (fun k => g66 43 k rfl) (fun k => g66 45 k rfl) (fun k => g66 46 k rfl) (fun k => g66 47 k rfl) (fun k => g66 6 k rfl) (fun k => g66 7 k rfl) (fun k => g66 8 k rfl) (g66 0 3 rfl)
        have KFV_I67 : gr_FV I67 := (Or.inr ⟨⟨by exact gz_m 17 (by omega), by exact gz_m 18 (by omega)⟩, (by rw [show I67 0 159 = I51 0 159 from by exact gz_m 19 (by omega)]; exact (gr_CR_sm (gr_FV_r KFV_I51 (by exact gz_m 20 (by omega))).2.1 hI51 (fun k => g66 87 k rfl) (fun k => g66 88 k rfl) (fun k => g66 104 k rfl) (fun k => g66 90 k rfl) (fun k => g66 91 k rfl) (fun k => g66 92 k rfl) (fun k => g66 94 k rfl) (fun k => g66 95 k rfl) (fun k => g66 97 k rfl) (fun k => g66 98 k rfl) (fun k => g66 19 k rfl) (fun k => g66 18 k rfl) (fun k => g66 41 k rfl) (fun k => g66 6 k rfl) (fun k => g66 99 k rfl) (g66 0 157 rfl) (g66 0 158 rfl))), (by rw [show I67 0 157 = I51 0 157 from by exact gz_m 21 (by omega)]; exact q66.1), q66.2⟩)
        refine gv_callV hD rfl (As := []) (st := [.inr (.inr (some 0))]) rfl (by decide) rfl rfl (gr_lV hws rfl) (Nat.le_of_ble_eq_true rfl) (gz_Ev_mono (d := 8) (by decide) E66) ?_
        show gv_X _ _ (42, [(0, .inr (.inr (some 0))), (1, .inl a1), (2, .inl a2)], [.inr (.inl z66), .inr (.inr (some 0))], gr_sh ++ ext, gr_h I67 J68)
        refine gv_run 1 true hD (pcₚ := 45) (lvₚ := [(0, .inr (.inr (some 0))), (1, .inl a1), (2, .inl a2)]) (stₚ := []) (hₚ := gz_up (gr_h I67 J68) 0 181 (.inr (.inl z66))) (C := (True ∧ True)) rfl ⟨trivial, trivial⟩ ?_
        refine gr_stJ FJ68 rfl rfl (fun J78 FJ78 => ?_)
        refine gv_pick [0] rfl ?_
        exact L45 I67 J78 hI67 FI67 FJ78 KGR_I67 KFV_I67
    · refine gv_pick [0] rfl ?_
      exact L17 I35 J hI35 FI35 FJ KGR_I35 KFV_I35
