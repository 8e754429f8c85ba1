/-! MEANINGS ARE REDUCED. -/
def gr_FPz (m : Int) (I : gr_I) : Prop := ∀ j : Nat, (j : Int) < m → 0 ≤ I 10 (Int.toNat (I 113 j))
theorem gr_FPz_nx {m : Int} {I : gr_I} (h : gr_FPz m I) (h0 : 0 ≤ m) (hq : 0 ≤ I 10 (Int.toNat (I 113 (Int.toNat m)))) : gr_FPz (m + 1) I := fun j hj => by
  by_cases c : (j : Int) < m
  · exact h j c
  · rw [show j = Int.toNat m from by omega]
    exact hq
set_option maxHeartbeats 8000000 in
theorem gr_TRx_of {π : Nat → Int} {N r v : Int} {I Iₚ : gr_I} (hN : 1 ≤ N ∧ N ≤ 60) (π2 : ∀ j : Nat, (j : Int) < N → (1 ≤ π j ∧ π (j + 1) = π j - 1 + I 6 (Int.toNat (I 113 j))) ∧ (0 ≤ I 113 j ∧ I 113 j < I 0 3)) (hr : 0 < r ∧ r ≤ N) (hp : π (Int.toNat r) = 0) (fp : gr_FPz v I) (hv : N ≤ v) (fm : gr_FM I) (aa : gr_AA 0 r N Iₚ) (h1 : ∀ k, Iₚ 113 k = I 113 k) (h2 : ∀ k, Iₚ 10 k = I 10 k) (h3 : ∀ k, Iₚ 55 k = I 55 k) (h6 : Iₚ 0 3 = I 0 3) (h7 : Iₚ 0 64 = I 0 64) : gr_TRx N Iₚ := by
  have e : r = N := by
    by_cases c : r < N
    · have := (π2 (Int.toNat r) (by exact gz_m 0 (by omega))).1.1
      exact gz_m 1 (by omega)
    · exact gz_m 2 (by omega)
  refine ⟨hN, fun k hk => ⟨?_, ?_, fun a ha => aa k (by exact gz_m 3 (by omega)) (by exact gz_m 4 (by omega)) a ha⟩⟩
  · rw [h1, h6]
    exact (π2 k hk).2
  · rw [h1, h2, h3, h3, h7]
    have g := fp k (by exact gz_m 5 (by omega))
    have t := (π2 k hk).2
    obtain ⟨u, w⟩ := fm (Int.toNat (I 113 k)) (by exact gz_m 6 (by omega)) g
    rcases w with w | w
    · exact gz_m 7 (by omega)
    · exact ⟨⟨g, u⟩, by rw [w.1]; exact gz_m 8 (by omega), w.2⟩
def gr_ML (h x S : Int) (I : gr_I) : Prop := I 0 218 = 0 → gr_GH h (I 0 216) S I ∧ ((h ≤ x ∧ x < I 0 216) ∧ I 137 (5000 + Int.toNat x) ≤ 0)
def gr_MR (h r : Int) (I : gr_I) : Prop := r < 0 ∨ ((h ≤ r ∧ r < I 0 216) ∧ I 134 (Int.toNat r) = 4 ∧ I 134 (Int.toNat (I 135 (Int.toNat r))) = 0)
theorem gr_MR_x {h r : Int} {I : gr_I} (e : gr_MR h r I) (h0 : 0 ≤ r) : (h ≤ r ∧ r < I 0 216) ∧ I 134 (Int.toNat r) = 4 ∧ I 134 (Int.toNat (I 135 (Int.toNat r))) = 0 := by
  rcases e with e | e
  · omega
  · exact e
theorem gr_ML_oc {x c S S' h : Int} {I Iₚ : gr_I} (o : gr_OC I Iₚ x c S) (hc : c ≤ 0) (hh : I 0 216 = h) (hS : S = S') : gr_ML h x S' Iₚ := fun q => by
  obtain ⟨_, _, b1, b2, b3⟩ := o.2 q
  rw [hh] at b1 b3
  subst hS
  exact ⟨b3, b1, by have := b2.2; omega⟩
theorem gr_GH_c0 {a b S : Int} {I Iₚ : gr_I} (h : gr_GH a b S I) (e : ∀ b j, ¬ b = 0 → Iₚ b j = I b j) : gr_GH a b S Iₚ := gr_GH_c h (fun m _ _ => ⟨⟨e _ _ (by decide), e _ _ (by decide), e _ _ (by decide)⟩, e _ _ (by decide), e _ _ (by decide)⟩)
def gr_MN (r : Int) (I : gr_I) : Prop := r < 0 ∨ ∃ a b S : Int, gr_GH a b S I ∧ ((a ≤ r ∧ r < b) ∧ I 137 (5000 + Int.toNat r) ≤ 0)
theorem gr_MN_ml {h x S : Int} {I : gr_I} (m : gr_ML h x S I) (q : I 0 218 = 0) : gr_MN x I := Or.inr ⟨h, _, S, m q⟩
set_option maxHeartbeats 8000000 in
set_option maxRecDepth 100000 in
theorem r_means {ws0 : List Cond} {tb : String → gz_T} (hws : ∀ w ∈ gr_ws, w ∈ ws0) (htb : tb RX13 = gr_T) (ext : gz_Sh) (I : gr_I) (J : gr_J) (hI : gr_Inv I)   (x0 : gr_CD (I 113) (I 0 188) I) (x1 : 1 ≤ I 0 188) (x2 : I 0 188 ≤ 60) (KTM_I : gr_TM I) (KTO_I : gr_TO I) (KFM_I : gr_FM I) : ∃ r hₚ, gz_Ev ws0 tb 905 (yX13_means, cX13_means, 5, (some .int)) [.inr (.inr (some 0))] (gr_sh ++ ext) (gr_h I J) r (gr_sh ++ ext) hₚ 0 0 ∧ (∃ (Iₚ : gr_I) (Jₚ : gr_J), hₚ = gr_h Iₚ Jₚ ∧ gr_Inv Iₚ ∧ gr_fr [216, 217, 218] [122, 134, 135, 136, 137] I Iₚ ∧ gr_fj [216, 217, 218] [122, 134, 135, 136, 137] J Jₚ ∧ gr_TM Iₚ ∧ gr_TO Iₚ ∧ gr_FM Iₚ ∧ (∃ z : Int, r = some (.inl z) ∧ (-2) ≤ z ∧ z ≤ 1999 ∧ (gr_MN z Iₚ))) := by
  have FI : gr_fr [216, 217, 218] [122, 134, 135, 136, 137] I I := fun _ _ _ => rfl
  have FJ : gr_fj [216, 217, 218] [122, 134, 135, 136, 137] J J := fun _ _ _ => rfl
  have hD : gv_D (gr_E ws0 tb 904 (yX13_means, cX13_means, 5, (some .int)) kX13_means) := gq_of oX13_means
  refine gr_ev (d := 904) (l := kX13_means) (Po := fun r hₚ => (∃ (Iₚ : gr_I) (Jₚ : gr_J), hₚ = gr_h Iₚ Jₚ ∧ gr_Inv Iₚ ∧ gr_fr [216, 217, 218] [122, 134, 135, 136, 137] I Iₚ ∧ gr_fj [216, 217, 218] [122, 134, 135, 136, 137] J Jₚ ∧ gr_TM Iₚ ∧ gr_TO Iₚ ∧ gr_FM Iₚ ∧ (∃ z : Int, r = some (.inl z) ∧ (-2) ≤ z ∧ z ≤ 1999 ∧ (gr_MN z Iₚ)))) htb rfl (Nat.le_of_ble_eq_true rfl) ?_
  obtain ⟨π, π1, π2, π3⟩ := x0
  obtain ⟨N9, hN9⟩ : ∃ N9 : Int, N9 = I 0 188 := ⟨_, rfl⟩
  have f1 := (gr_b_0_216 hI)
  have f2 := (gr_b_0_217 hI)
  have f3 := (gr_b_0_218 hI)
  have f4 := (gr_b_0_188 hI)
  have L2 : ∀ (n : Nat) (v1_5 : Int), (61 - v1_5).toNat < n → ((0 ≤ v1_5 ∧ v1_5 ≤ 60)) → (gr_FPz v1_5 I) → gv_X (gr_E ws0 tb 904 (yX13_means, cX13_means, 5, (some .int)) kX13_means) (gv_Q cX13_means (some .int) (gr_sh ++ ext) (fun r hₚ => (∃ (Iₚ : gr_I) (Jₚ : gr_J), hₚ = gr_h Iₚ Jₚ ∧ gr_Inv Iₚ ∧ gr_fr [216, 217, 218] [122, 134, 135, 136, 137] I Iₚ ∧ gr_fj [216, 217, 218] [122, 134, 135, 136, 137] J Jₚ ∧ gr_TM Iₚ ∧ gr_TO Iₚ ∧ gr_FM Iₚ ∧ (∃ z : Int, r = some (.inl z) ∧ (-2) ≤ z ∧ z ≤ 1999 ∧ (gr_MN z Iₚ))))) (2, [(0, .inr (.inr (some 0))), (1, .inl v1_5)], [], gr_sh ++ ext, gr_h I J) := by
    intro n
    induction n with
    | zero => intro v1_5 hn; exact gz_m 0 (by omega)
    | succ n ih2 =>
      intro v1_5 hn m_5 e0_5
      have hv1_5 := m_5
      have f6 := (gr_b_0_216 hI)
      have f7 := (gr_b_0_217 hI)
      have f8 := (gr_b_0_218 hI)
      have f9 := (gr_b_0_188 hI)
      have L33 : ((0 ≤ v1_5 ∧ v1_5 ≤ 60) ∧ (I 0 188 ≤ v1_5)) → (gr_FPz v1_5 I) → gv_X (gr_E ws0 tb 904 (yX13_means, cX13_means, 5, (some .int)) kX13_means) (gv_Q cX13_means (some .int) (gr_sh ++ ext) (fun r hₚ => (∃ (Iₚ : gr_I) (Jₚ : gr_J), hₚ = gr_h Iₚ Jₚ ∧ gr_Inv Iₚ ∧ gr_fr [216, 217, 218] [122, 134, 135, 136, 137] I Iₚ ∧ gr_fj [216, 217, 218] [122, 134, 135, 136, 137] J Jₚ ∧ gr_TM Iₚ ∧ gr_TO Iₚ ∧ gr_FM Iₚ ∧ (∃ z : Int, r = some (.inl z) ∧ (-2) ≤ z ∧ z ≤ 1999 ∧ (gr_MN z Iₚ))))) (33, [(0, .inr (.inr (some 0))), (1, .inl v1_5)], [], gr_sh ++ ext, gr_h I J) := by
        intro m_10 e0_10
        obtain ⟨hv1_5_10, e1_10⟩ := m_10
        have f11 := (gr_b_0_216 hI)
        have f12 := (gr_b_0_217 hI)
        have f13 := (gr_b_0_218 hI)
        have f14 := (gr_b_0_188 hI)
        have L95 : ∀ (n : Nat) (I15 : gr_I) (J16 : gr_J) (v1_17 : Int) (v2_17 : Int) (v3_17 : Int) (v4_17 : Int), (401 - v3_17).toNat < n → gr_Inv I15 → gr_fr [216, 217, 218] [122, 134, 135, 136, 137] I I15 → gr_fj [216, 217, 218] [122, 134, 135, 136, 137] J J16 → gr_TM I15 → gr_TO I15 → gr_FM I15 → ((0 ≤ v1_17 ∧ v1_17 ≤ 1000) ∧ (0 ≤ v2_17 ∧ v2_17 ≤ 1999) ∧ (0 ≤ v3_17 ∧ v3_17 ≤ 400) ∧ ((-1) ≤ v4_17 ∧ v4_17 ≤ 1299) ∧ (v1_17 = 0 ∨ v1_17 = 1000) ∧ (I15 0 217 = v1_17 + 300) ∧ (I15 0 216 ≤ I15 0 217) ∧ (v1_17 ≤ I15 0 216)) → (gr_ML v1_17 v2_17 (95 + 600 * v3_17) I15) → (gr_MR v1_17 v4_17 I15) → gv_X (gr_E ws0 tb 904 (yX13_means, cX13_means, 5, (some .int)) kX13_means) (gv_Q cX13_means (some .int) (gr_sh ++ ext) (fun r hₚ => (∃ (Iₚ : gr_I) (Jₚ : gr_J), hₚ = gr_h Iₚ Jₚ ∧ gr_Inv Iₚ ∧ gr_fr [216, 217, 218] [122, 134, 135, 136, 137] I Iₚ ∧ gr_fj [216, 217, 218] [122, 134, 135, 136, 137] J Jₚ ∧ gr_TM Iₚ ∧ gr_TO Iₚ ∧ gr_FM Iₚ ∧ (∃ z : Int, r = some (.inl z) ∧ (-2) ≤ z ∧ z ≤ 1999 ∧ (gr_MN z Iₚ))))) (95, [(0, .inr (.inr (some 0))), (1, .inl v1_17), (2, .inl v2_17), (3, .inl v3_17), (4, .inl v4_17)], [], gr_sh ++ ext, gr_h I15 J16) := by
          intro n
          induction n with
          | zero => intro I15 J16 v1_17 v2_17 v3_17 v4_17 hn; exact gz_m 1 (by omega)
          | succ n ih95 =>
            intro I15 J16 v1_17 v2_17 v3_17 v4_17 hn hI15 FI15 FJ16 KTM_I15 KTO_I15 KFM_I15 m_17 e1_17 e2_17
            clear hv1_5_10 e1_10 f11 f12 f13 f14 hv1_5 f6 f7 f8 f9
            obtain ⟨hv1_17, hv2_17, hv3_17, hv4_17, e0_17, e3_17, e4_17, e5_17⟩ := m_17
            have f18 := (gr_b_0_216 hI15)
            have f19 := (gr_b_0_217 hI15)
            have f20 := (gr_b_0_218 hI15)
            have f21 := (gr_b_0_188 hI15)
            have L168 : ((0 ≤ v2_17 ∧ v2_17 ≤ 1999)) → gv_X (gr_E ws0 tb 904 (yX13_means, cX13_means, 5, (some .int)) kX13_means) (gv_Q cX13_means (some .int) (gr_sh ++ ext) (fun r hₚ => (∃ (Iₚ : gr_I) (Jₚ : gr_J), hₚ = gr_h Iₚ Jₚ ∧ gr_Inv Iₚ ∧ gr_fr [216, 217, 218] [122, 134, 135, 136, 137] I Iₚ ∧ gr_fj [216, 217, 218] [122, 134, 135, 136, 137] J Jₚ ∧ gr_TM Iₚ ∧ gr_TO Iₚ ∧ gr_FM Iₚ ∧ (∃ z : Int, r = some (.inl z) ∧ (-2) ≤ z ∧ z ≤ 1999 ∧ (gr_MN z Iₚ))))) (168, [(0, .inr (.inr (some 0))), (2, .inl v2_17)], [], gr_sh ++ ext, gr_h I15 J16) := by
              intro m_22
              have hv2_17_22 := m_22
              have f23 := (gr_b_0_216 hI15)
              have f24 := (gr_b_0_217 hI15)
              have f25 := (gr_b_0_218 hI15)
              have f26 := (gr_b_0_188 hI15)
              have f27 := (gr_b_0_218 hI15)
              refine gv_run 2 true hD (pcₚ := 172) (lvₚ := [(0, .inr (.inr (some 0))), (2, .inl v2_17)]) (stₚ := [.inl (I15 0 218)]) (hₚ := gr_h I15 J16) (C := ((True ∧ True) ∧ True)) rfl ⟨⟨trivial, trivial⟩, trivial⟩ ?_
              refine gv_if_eq (t := 179) hD rfl rfl ⟨by exact gz_m 2 (by omega), by exact gz_m 3 (by omega)⟩ (fun c28 => ?_) (fun c28 => ?_)
              · refine gv_run 1 true hD (pcₚ := 180) (lvₚ := [(0, .inr (.inr (some 0))), (2, .inl v2_17)]) (stₚ := [.inl v2_17]) (hₚ := gr_h I15 J16) (C := (True ∧ True)) rfl ⟨trivial, trivial⟩ ?_
                exact gv_iret hD rfl ⟨I15, J16, rfl, hI15, FI15, FJ16, KTM_I15, KTO_I15, KFM_I15, ⟨_, rfl, by exact gz_m 4 (by omega), by exact gz_m 5 (by omega), (gr_MN_ml e1_17 (by exact gz_m 6 (by omega)))⟩⟩
              · refine gv_run 2 true hD (pcₚ := 180) (lvₚ := [(0, .inr (.inr (some 0))), (2, .inl v2_17)]) (stₚ := [.inl (-1)]) (hₚ := gr_h I15 J16) (C := ((True ∧ True) ∧ True)) rfl ⟨⟨trivial, trivial⟩, trivial⟩ ?_
                exact gv_iret hD rfl ⟨I15, J16, rfl, hI15, FI15, FJ16, KTM_I15, KTO_I15, KFM_I15, ⟨_, rfl, by exact gz_m 7 (by omega), by exact gz_m 8 (by omega), (Or.inl (by exact gz_m 9 (by omega)))⟩⟩
            refine gv_run 1 true hD (pcₚ := 97) (lvₚ := [(0, .inr (.inr (some 0))), (1, .inl v1_17), (2, .inl v2_17), (3, .inl v3_17), (4, .inl v4_17)]) (stₚ := [.inl v4_17]) (hₚ := gr_h I15 J16) (C := (True ∧ True)) rfl ⟨trivial, trivial⟩ ?_
            refine gv_if_lt (t := 168) hD rfl rfl ⟨by exact gz_m 10 (by omega), by exact gz_m 11 (by omega)⟩ (fun c29 => ?_) (fun c29 => ?_)
            · refine gv_pick [0, 2] rfl ?_
              exact L168 (by exact gz_m 12 (by omega))
            · have f30 := (gr_b_0_218 hI15)
              refine gv_run 2 true hD (pcₚ := 104) (lvₚ := [(0, .inr (.inr (some 0))), (1, .inl v1_17), (2, .inl v2_17), (3, .inl v3_17), (4, .inl v4_17)]) (stₚ := [.inl (I15 0 218)]) (hₚ := gr_h I15 J16) (C := ((True ∧ True) ∧ True)) rfl ⟨⟨trivial, trivial⟩, trivial⟩ ?_
              refine gv_if_ne (t := 168) hD rfl rfl ⟨by exact gz_m 13 (by omega), by exact gz_m 14 (by omega)⟩ (fun c31 => ?_) (fun c31 => ?_)
              · refine gv_pick [0, 2] rfl ?_
                exact L168 (by exact gz_m 15 (by omega))
              · refine gv_run 2 true hD (pcₚ := 111) (lvₚ := [(0, .inr (.inr (some 0))), (1, .inl v1_17), (2, .inl v2_17), (3, .inl v3_17), (4, .inl v4_17)]) (stₚ := [.inl 400, .inl v3_17]) (hₚ := gr_h I15 J16) (C := ((True ∧ True) ∧ True)) rfl ⟨⟨trivial, trivial⟩, trivial⟩ ?_
                refine gv_icmp_ne (t := 116) hD rfl rfl ⟨⟨by exact gz_m 16 (by omega), by exact gz_m 17 (by omega)⟩, ⟨by exact gz_m 18 (by omega), by exact gz_m 19 (by omega)⟩⟩ (fun c32 => ?_) (fun c32 => ?_)
                · refine gv_run 7 true hD (pcₚ := 127) (lvₚ := [(1, .inl (1000 - v1_17)), (3, .inl (v3_17 + 1)), (0, .inr (.inr (some 0))), (2, .inl v2_17), (4, .inl v4_17)]) (stₚ := [.inl (1000 - v1_17), .inr (.inr (some 0))]) (hₚ := gr_h I15 J16) (C := (((((((True ∧ True) ∧ True) ∧ True) ∧ True) ∧ True) ∧ True) ∧ True)) rfl ⟨⟨⟨⟨⟨⟨⟨trivial, trivial⟩, trivial⟩, trivial⟩, trivial⟩, trivial⟩, trivial⟩, trivial⟩ ?_
                  refine gv_run 1 true hD (pcₚ := 130) (lvₚ := [(1, .inl (1000 - v1_17)), (3, .inl (v3_17 + 1)), (0, .inr (.inr (some 0))), (2, .inl v2_17), (4, .inl v4_17)]) (stₚ := []) (hₚ := gz_up (gr_h I15 J16) 0 216 (.inl (1000 - v1_17))) (C := (True ∧ True)) rfl ⟨trivial, trivial⟩ ?_
                  refine gr_st hI15 FI15 rfl rfl ⟨⟨by show 0 ≤ _; exact gz_m 20 (by omega), by show _ ≤ 1300; exact gz_m 21 (by omega)⟩, trivial⟩ (fun I33 hI33 FI33 q34 p34 => ?_)
                  have t35 := p34 0 217 (by decide)
                  have t36 := p34 0 218 (by decide)
                  have t37 := p34 0 188 (by decide)
                  have f38 := (gr_b_0_216 hI33)
                  have f39 := (gr_b_0_217 hI33)
                  have f40 := (gr_b_0_218 hI33)
                  have f41 := (gr_b_0_188 hI33)
                  have KTM_I33 := gr_TM_fr KTM_I15 (fun k => p34 52 k (fun q => absurd q.1 (by first | exact gz_ne rfl | decide))) (fun k => p34 53 k (fun q => absurd q.1 (by first | exact gz_ne rfl | decide))) (fun k => p34 54 k (fun q => absurd q.1 (by first | exact gz_ne rfl | decide))) (p34 0 64 (by decide))
                  have KTO_I33 := gr_TO_fr KTO_I15 (fun k => p34 52 k (fun q => absurd q.1 (by first | exact gz_ne rfl | decide))) (fun k => p34 53 k (fun q => absurd q.1 (by first | exact gz_ne rfl | decide))) (fun k => p34 54 k (fun q => absurd q.1 (by first | exact gz_ne rfl | decide))) (fun k => p34 55 k (fun q => absurd q.1 (by first | exact gz_ne rfl | decide))) (fun k => p34 6 k (fun q => absurd q.1 (by first | exact gz_ne rfl | decide))) (p34 0 64 (by decide)) (p34 0 3 (by decide))
                  have KFM_I33 := gr_FM_fr KFM_I15 (fun k => p34 10 k (fun q => absurd q.1 (by first | exact gz_ne rfl | decide))) (fun k => p34 55 k (fun q => absurd q.1 (by first | exact gz_ne rfl | decide))) (fun k => p34 52 k (fun q => absurd q.1 (by first | exact gz_ne rfl | decide))) (fun k => p34 53 k (fun q => absurd q.1 (by first | exact gz_ne rfl | decide))) (fun k => p34 54 k (fun q => absurd q.1 (by first | exact gz_ne rfl | decide))) (p34 0 64 (by decide)) (p34 0 3 (by decide))
                  refine gv_run 4 true hD (pcₚ := 136) (lvₚ := [(1, .inl (1000 - v1_17)), (3, .inl (v3_17 + 1)), (0, .inr (.inr (some 0))), (2, .inl v2_17), (4, .inl v4_17)]) (stₚ := [.inl ((1000 - v1_17) + 300), .inr (.inr (some 0))]) (hₚ := gr_h I33 J16) (C := ((((True ∧ True) ∧ True) ∧ True) ∧ True)) rfl ⟨⟨⟨⟨trivial, trivial⟩, trivial⟩, trivial⟩, trivial⟩ ?_
                  refine gv_run 1 true hD (pcₚ := 139) (lvₚ := [(1, .inl (1000 - v1_17)), (3, .inl (v3_17 + 1)), (0, .inr (.inr (some 0))), (2, .inl v2_17), (4, .inl v4_17)]) (stₚ := []) (hₚ := gz_up (gr_h I33 J16) 0 217 (.inl (((1000 - v1_17) + 300)))) (C := (True ∧ True)) rfl ⟨trivial, trivial⟩ ?_
                  refine gr_st hI33 FI33 rfl rfl ⟨⟨by show 0 ≤ _; exact gz_m 22 (by omega), by show _ ≤ 1300; exact gz_m 23 (by omega)⟩, trivial⟩ (fun I42 hI42 FI42 q43 p43 => ?_)
                  have t44 := p43 0 216 (by decide)
                  have t45 := p43 0 218 (by decide)
                  have t46 := p43 0 188 (by decide)
                  have f47 := (gr_b_0_216 hI42)
                  have f48 := (gr_b_0_217 hI42)
                  have f49 := (gr_b_0_218 hI42)
                  have f50 := (gr_b_0_188 hI42)
                  have KTM_I42 := gr_TM_fr KTM_I33 (fun k => p43 52 k (fun q => absurd q.1 (by first | exact gz_ne rfl | decide))) (fun k => p43 53 k (fun q => absurd q.1 (by first | exact gz_ne rfl | decide))) (fun k => p43 54 k (fun q => absurd q.1 (by first | exact gz_ne rfl | decide))) (p43 0 64 (by decide))
                  have KTO_I42 := gr_TO_fr KTO_I33 (fun k => p43 52 k (fun q => absurd q.1 (by first | exact gz_ne rfl | decide))) (fun k => p43 53 k (fun q => absurd q.1 (by first | exact gz_ne rfl | decide))) (fun k => p43 54 k (fun q => absurd q.1 (by first | exact gz_ne rfl | decide))) (fun k => p43 55 k (fun q => absurd q.1 (by first | exact gz_ne rfl | decide))) (fun k => p43 6 k (fun q => absurd q.1 (by first | exact gz_ne rfl | decide))) (p43 0 64 (by decide)) (p43 0 3 (by decide))
                  have KFM_I42 := gr_FM_fr KFM_I33 (fun k => p43 10 k (fun q => absurd q.1 (by first | exact gz_ne rfl | decide))) (fun k => p43 55 k (fun q => absurd q.1 (by first | exact gz_ne rfl | decide))) (fun k => p43 52 k (fun q => absurd q.1 (by first | exact gz_ne rfl | decide))) (fun k => p43 53 k (fun q => absurd q.1 (by first | exact gz_ne rfl | decide))) (fun k => p43 54 k (fun q => absurd q.1 (by first | exact gz_ne rfl | decide))) (p43 0 64 (by decide)) (p43 0 3 (by decide))
                  refine gv_run 3 true hD (pcₚ := 143) (lvₚ := [(1, .inl (1000 - v1_17)), (3, .inl (v3_17 + 1)), (0, .inr (.inr (some 0))), (2, .inl v2_17), (4, .inl v4_17)]) (stₚ := [.inl v4_17, .inl v2_17, .inr (.inr (some 0))]) (hₚ := gr_h I42 J16) (C := (((True ∧ True) ∧ True) ∧ True)) rfl ⟨⟨⟨trivial, trivial⟩, trivial⟩, trivial⟩ ?_
                  have t51 := gr_MR_x e2_17 (by exact gz_m 24 (by omega))
                  have t52 := (e1_17 (by exact gz_m 25 (by omega))).2
                  have t53 := ((p43 134 (Int.toNat v4_17) (fun q => absurd q.1 (by first | exact gz_ne rfl | decide))).trans (p34 134 (Int.toNat v4_17) (fun q => absurd q.1 (by first | exact gz_ne rfl | decide))))
                  have t54 := ((p43 135 (Int.toNat v4_17) (fun q => absurd q.1 (by first | exact gz_ne rfl | decide))).trans (p34 135 (Int.toNat v4_17) (fun q => absurd q.1 (by first | exact gz_ne rfl | decide))))
                  have t55 := (show I42 134 (Int.toNat (I42 135 (Int.toNat v4_17))) = I15 134 (Int.toNat (I15 135 (Int.toNat v4_17))) from by rw [((p43 135 (Int.toNat v4_17) (fun q => absurd q.1 (by first | exact gz_ne rfl | decide))).trans (p34 135 (Int.toNat v4_17) (fun q => absurd q.1 (by first | exact gz_ne rfl | decide)))), ((p43 134 (Int.toNat (I15 135 (Int.toNat v4_17))) (fun q => absurd q.1 (by first | exact gz_ne rfl | decide))).trans (p34 134 (Int.toNat (I15 135 (Int.toNat v4_17))) (fun q => absurd q.1 (by first | exact gz_ne rfl | decide))))])
                  have t56 := ((p43 137 (5000 + Int.toNat v2_17) (fun q => absurd q.1 (by first | exact gz_ne rfl | decide))).trans (p34 137 (5000 + Int.toNat v2_17) (fun q => absurd q.1 (by first | exact gz_ne rfl | decide))))
                  have t57 := ((p43 137 (Int.toNat v2_17) (fun q => absurd q.1 (by first | exact gz_ne rfl | decide))).trans (p34 137 (Int.toNat v2_17) (fun q => absurd q.1 (by first | exact gz_ne rfl | decide))))
                  have t58 := gr_GH_b (e1_17 (by exact gz_m 26 (by omega))).1 (x := v2_17) ⟨by exact gz_m 27 (by omega), by exact gz_m 28 (by omega)⟩
                  obtain ⟨r59, h59, E59, P59⟩ := r_stepped (ws0 := ws0) (tb := tb) hws htb ext v1_17 (I15 0 216) (95 + 600 * v3_17) 301 I42 J16 hI42 v2_17 v4_17 ⟨by exact gz_m 29 (by omega), by exact gz_m 30 (by omega)⟩ ⟨by exact gz_m 31 (by omega), by exact gz_m 32 (by omega)⟩ (gr_GH_c0 (e1_17 (by exact gz_m 33 (by omega))).1 (fun b j hb => (p43 b j (fun q => hb q.1)).trans (p34 b j (fun q => hb q.1)))) (by exact gz_m 34 (by omega)) (by exact gz_m 35 (by omega)) (by unfold gr_DJ; exact gz_m 36 (by omega)) (by exact gz_m 37 (by omega)) (by exact gz_m 38 (by omega)) (by exact gz_m 39 (by omega)) (by exact gz_m 40 (by omega)) (by exact gz_m 41 (by omega)) (by exact gz_m 42 (by omega)) (by exact gz_m 43 (by omega)) (by exact gz_m 44 (by omega)) (by exact gz_m 45 (by omega))
                  obtain ⟨I60, J61, rfl, hI60, g59, k59, ⟨z59, rfl, q59⟩⟩ := P59
                  have FI60 := gr_frt FI42 g59 rfl rfl
                  have FJ61 := gr_fjt FJ16 k59 rfl rfl
                  have t62 := g59 0 217 rfl
                  have t63 := g59 0 188 rfl
                  have f64 := (gr_b_0_216 hI60)
                  have f65 := (gr_b_0_217 hI60)
                  have f66 := (gr_b_0_218 hI60)
                  have f67 := (gr_b_0_188 hI60)
                  have KTM_I60 := gr_TM_fr KTM_I42 (fun k => g59 52 k rfl) (fun k => g59 53 k rfl) (fun k => g59 54 k rfl) (g59 0 64 rfl)
                  have KTO_I60 := gr_TO_fr KTO_I42 (fun k => g59 52 k rfl) (fun k => g59 53 k rfl) (fun k => g59 54 k rfl) (fun k => g59 55 k rfl) (fun k => g59 6 k rfl) (g59 0 64 rfl) (g59 0 3 rfl)
                  have KFM_I60 := gr_FM_fr KFM_I42 (fun k => g59 10 k rfl) (fun k => g59 55 k rfl) (fun k => g59 52 k rfl) (fun k => g59 53 k rfl) (fun k => g59 54 k rfl) (g59 0 64 rfl) (g59 0 3 rfl)
                  refine gv_callV hD rfl (As := [.inl v2_17, .inl v4_17]) (st := []) rfl (by decide) rfl rfl (gr_lV hws rfl) (Nat.le_of_ble_eq_true rfl) (gz_Ev_mono (d := 904) (by decide) E59) ?_
                  show gv_X _ _ (146, [(1, .inl (1000 - v1_17)), (3, .inl (v3_17 + 1)), (0, .inr (.inr (some 0))), (2, .inl v2_17), (4, .inl v4_17)], [.inl z59], gr_sh ++ ext, gr_h I60 J61)
                  have f68 := (gr_b_0_218 hI60)
                  refine gv_run 3 true hD (pcₚ := 151) (lvₚ := [(2, .inl z59), (1, .inl (1000 - v1_17)), (3, .inl (v3_17 + 1)), (0, .inr (.inr (some 0))), (4, .inl v4_17)]) (stₚ := [.inl (I60 0 218)]) (hₚ := gr_h I60 J61) (C := (((True ∧ True) ∧ True) ∧ True)) rfl ⟨⟨⟨trivial, trivial⟩, trivial⟩, trivial⟩ ?_
                  refine gv_if_eq (t := 158) hD rfl rfl ⟨by exact gz_m 46 (by omega), by exact gz_m 47 (by omega)⟩ (fun c69 => ?_) (fun c69 => ?_)
                  · refine gv_run 2 true hD (pcₚ := 160) (lvₚ := [(2, .inl z59), (1, .inl (1000 - v1_17)), (3, .inl (v3_17 + 1)), (0, .inr (.inr (some 0))), (4, .inl v4_17)]) (stₚ := [.inl z59, .inr (.inr (some 0))]) (hₚ := gr_h I60 J61) (C := ((True ∧ True) ∧ True)) rfl ⟨⟨trivial, trivial⟩, trivial⟩ ?_
                    have t70 := ((gr_ML_oc (h := (1000 - v1_17)) (S' := 95 + 600 * (v3_17 + 1)) (q59.2.2.2.2.2.2).2 (by exact gz_m 48 (by omega)) (by exact gz_m 49 (by omega)) (by exact gz_m 50 (by omega))) (by exact gz_m 51 (by omega))).2
                    have t71 := gr_GH_b ((gr_ML_oc (h := (1000 - v1_17)) (S' := 95 + 600 * (v3_17 + 1)) (q59.2.2.2.2.2.2).2 (by exact gz_m 52 (by omega)) (by exact gz_m 53 (by omega)) (by exact gz_m 54 (by omega))) (by exact gz_m 55 (by omega))).1 (x := z59) ⟨by exact gz_m 56 (by omega), by exact gz_m 57 (by omega)⟩
                    obtain ⟨r72, h72, E72, P72⟩ := r_redex (ws0 := ws0) (tb := tb) hws htb ext (1000 - v1_17) (I60 0 216) (95 + 600 * (v3_17 + 1)) 301 I60 J61 hI60 z59 ⟨by exact gz_m 58 (by omega), by exact gz_m 59 (by omega)⟩ ((gr_ML_oc (h := (1000 - v1_17)) (S' := 95 + 600 * (v3_17 + 1)) (q59.2.2.2.2.2.2).2 (by exact gz_m 60 (by omega)) (by exact gz_m 61 (by omega)) (by exact gz_m 62 (by omega))) (by exact gz_m 63 (by omega))).1 (by exact gz_m 64 (by omega)) (by exact gz_m 65 (by omega)) (by exact gz_m 66 (by omega))
                    obtain ⟨rfl, ⟨z72, rfl, q72⟩⟩ := P72
                    refine gv_callV hD rfl (As := [.inl z59]) (st := []) rfl (by decide) rfl rfl (gr_lV hws rfl) (Nat.le_of_ble_eq_true rfl) (gz_Ev_mono (d := 301) (by decide) E72) ?_
                    show gv_X _ _ (163, [(2, .inl z59), (1, .inl (1000 - v1_17)), (3, .inl (v3_17 + 1)), (0, .inr (.inr (some 0))), (4, .inl v4_17)], [.inl z72], gr_sh ++ ext, gr_h I60 J61)
                    refine gv_run 2 true hD (pcₚ := 95) (lvₚ := [(4, .inl z72), (2, .inl z59), (1, .inl (1000 - v1_17)), (3, .inl (v3_17 + 1)), (0, .inr (.inr (some 0)))]) (stₚ := []) (hₚ := gr_h I60 J61) (C := ((True ∧ True) ∧ True)) rfl ⟨⟨trivial, trivial⟩, trivial⟩ ?_
                    refine gv_pick [4, 2, 1, 3, 0] rfl ?_
                    exact ih95 I60 J61 (1000 - v1_17) z59 (v3_17 + 1) z72 (by exact gz_m 67 (by omega)) hI60 FI60 FJ61 KTM_I60 KTO_I60 KFM_I60 (by exact gz_m 68 (by omega)) (gr_ML_oc (h := (1000 - v1_17)) (S' := 95 + 600 * (v3_17 + 1)) (q59.2.2.2.2.2.2).2 (by exact gz_m 69 (by omega)) (by exact gz_m 70 (by omega)) (by exact gz_m 71 (by omega))) q72.2.2
                  · refine gv_run 4 true hD (pcₚ := 95) (lvₚ := [(4, .inl (-1)), (2, .inl z59), (1, .inl (1000 - v1_17)), (3, .inl (v3_17 + 1)), (0, .inr (.inr (some 0)))]) (stₚ := []) (hₚ := gr_h I60 J61) (C := ((((True ∧ True) ∧ True) ∧ True) ∧ True)) rfl ⟨⟨⟨⟨trivial, trivial⟩, trivial⟩, trivial⟩, trivial⟩ ?_
                    refine gv_pick [4, 2, 1, 3, 0] rfl ?_
                    exact ih95 I60 J61 (1000 - v1_17) z59 (v3_17 + 1) (-1) (by exact gz_m 72 (by omega)) hI60 FI60 FJ61 KTM_I60 KTO_I60 KFM_I60 (by exact gz_m 73 (by omega)) (gr_ML_oc (h := (1000 - v1_17)) (S' := 95 + 600 * (v3_17 + 1)) (q59.2.2.2.2.2.2).2 (by exact gz_m 74 (by omega)) (by exact gz_m 75 (by omega)) (by exact gz_m 76 (by omega))) (Or.inl (by exact gz_m 77 (by omega)))
                · refine gv_run 1 true hD (pcₚ := 115) (lvₚ := [(0, .inr (.inr (some 0))), (1, .inl v1_17), (2, .inl v2_17), (3, .inl v3_17), (4, .inl v4_17)]) (stₚ := [.inl (-1)]) (hₚ := gr_h I15 J16) (C := (True ∧ True)) rfl ⟨trivial, trivial⟩ ?_
                  exact gv_iret hD rfl ⟨I15, J16, rfl, hI15, FI15, FJ16, KTM_I15, KTO_I15, KFM_I15, ⟨_, rfl, by exact gz_m 78 (by omega), by exact gz_m 79 (by omega), (Or.inl (by exact gz_m 80 (by omega)))⟩⟩
        refine gv_run 2 true hD (pcₚ := 35) (lvₚ := [(0, .inr (.inr (some 0))), (1, .inl v1_5)]) (stₚ := [.inl 0, .inr (.inr (some 0))]) (hₚ := gr_h I J) (C := ((True ∧ True) ∧ True)) rfl ⟨⟨trivial, trivial⟩, trivial⟩ ?_
        obtain ⟨r73, h73, E73, P73⟩ := r_argumentsOf_w (ws0 := ws0) (tb := tb) hws htb ext π N9 61 I J hI 0 ⟨by exact gz_m 81 (by omega), by exact gz_m 82 (by omega)⟩ (show gr_PD π N9 I from ⟨⟨by exact gz_m 83 (by omega), by exact gz_m 84 (by omega)⟩, fun j hj => (π2 j (by exact gz_m 85 (by omega))).1, by rw [hN9]; exact π3⟩) (by exact gz_m 86 (by omega)) (by exact gz_m 87 (by omega))
        obtain ⟨I74, J75, rfl, hI74, g73, k73, ⟨z73, rfl, q73⟩⟩ := P73
        have FI74 := gr_frt FI g73 rfl rfl
        have FJ75 := gr_fjt FJ k73 rfl rfl
        have t76 := g73 0 216 rfl
        have t77 := g73 0 217 rfl
        have t78 := g73 0 218 rfl
        have t79 := g73 0 188 rfl
        have f80 := (gr_b_0_216 hI74)
        have f81 := (gr_b_0_217 hI74)
        have f82 := (gr_b_0_218 hI74)
        have f83 := (gr_b_0_188 hI74)
        have KTM_I74 := gr_TM_fr KTM_I (fun k => g73 52 k rfl) (fun k => g73 53 k rfl) (fun k => g73 54 k rfl) (g73 0 64 rfl)
        have KTO_I74 := gr_TO_fr KTO_I (fun k => g73 52 k rfl) (fun k => g73 53 k rfl) (fun k => g73 54 k rfl) (fun k => g73 55 k rfl) (fun k => g73 6 k rfl) (g73 0 64 rfl) (g73 0 3 rfl)
        have KFM_I74 := gr_FM_fr KFM_I (fun k => g73 10 k rfl) (fun k => g73 55 k rfl) (fun k => g73 52 k rfl) (fun k => g73 53 k rfl) (fun k => g73 54 k rfl) (g73 0 64 rfl) (g73 0 3 rfl)
        have KTX_I74 : gr_TRx N9 I74 := gr_TRx_of ⟨by exact gz_m 88 (by omega), by exact gz_m 89 (by omega)⟩ (by rw [hN9]; exact π2) ⟨by exact gz_m 90 (by omega), by exact gz_m 91 (by omega)⟩ (by have h9 := q73.2.2.2.2.1; rw [show Int.toNat 0 = 0 from rfl, π1] at h9; exact gz_m 92 (by omega)) e0_5 (by exact gz_m 93 (by omega)) KFM_I q73.2.2.2.2.2.1 (fun k => g73 113 k rfl) (fun k => g73 10 k rfl) (fun k => g73 55 k rfl) (g73 0 3 rfl) (g73 0 64 rfl)
        refine gv_callV hD rfl (As := [.inl 0]) (st := []) rfl (by decide) rfl rfl (gr_lV hws rfl) (Nat.le_of_ble_eq_true rfl) (gz_Ev_mono (d := 61) (by decide) E73) ?_
        show gv_X _ _ (38, [(0, .inr (.inr (some 0))), (1, .inl v1_5)], [.inl z73], gr_sh ++ ext, gr_h I74 J75)
        refine gv_run 3 true hD (pcₚ := 41) (lvₚ := [(0, .inr (.inr (some 0))), (1, .inl v1_5)]) (stₚ := [.inl 0, .inr (.inr (some 0))]) (hₚ := gr_h I74 J75) (C := (((True ∧ True) ∧ True) ∧ True)) rfl ⟨⟨⟨trivial, trivial⟩, trivial⟩, trivial⟩ ?_
        refine gv_run 1 true hD (pcₚ := 44) (lvₚ := [(0, .inr (.inr (some 0))), (1, .inl v1_5)]) (stₚ := []) (hₚ := gz_up (gr_h I74 J75) 0 218 (.inl 0)) (C := (True ∧ (0 = 0 ∨ 0 = 1))) rfl ⟨trivial, (by exact gz_m 94 (by omega))⟩ ?_
        refine gr_st hI74 FI74 rfl rfl ⟨⟨by show 0 ≤ _; exact gz_m 95 (by omega), by show _ ≤ 1; exact gz_m 96 (by omega)⟩, trivial⟩ (fun I84 hI84 FI84 q85 p85 => ?_)
        have t86 := p85 0 216 (by decide)
        have t87 := p85 0 217 (by decide)
        have t88 := p85 0 188 (by decide)
        have f89 := (gr_b_0_216 hI84)
        have f90 := (gr_b_0_217 hI84)
        have f91 := (gr_b_0_218 hI84)
        have f92 := (gr_b_0_188 hI84)
        have KTM_I84 := gr_TM_fr KTM_I74 (fun k => p85 52 k (fun q => absurd q.1 (by first | exact gz_ne rfl | decide))) (fun k => p85 53 k (fun q => absurd q.1 (by first | exact gz_ne rfl | decide))) (fun k => p85 54 k (fun q => absurd q.1 (by first | exact gz_ne rfl | decide))) (p85 0 64 (by decide))
        have KTO_I84 := gr_TO_fr KTO_I74 (fun k => p85 52 k (fun q => absurd q.1 (by first | exact gz_ne rfl | decide))) (fun k => p85 53 k (fun q => absurd q.1 (by first | exact gz_ne rfl | decide))) (fun k => p85 54 k (fun q => absurd q.1 (by first | exact gz_ne rfl | decide))) (fun k => p85 55 k (fun q => absurd q.1 (by first | exact gz_ne rfl | decide))) (fun k => p85 6 k (fun q => absurd q.1 (by first | exact gz_ne rfl | decide))) (p85 0 64 (by decide)) (p85 0 3 (by decide))
        have KFM_I84 := gr_FM_fr KFM_I74 (fun k => p85 10 k (fun q => absurd q.1 (by first | exact gz_ne rfl | decide))) (fun k => p85 55 k (fun q => absurd q.1 (by first | exact gz_ne rfl | decide))) (fun k => p85 52 k (fun q => absurd q.1 (by first | exact gz_ne rfl | decide))) (fun k => p85 53 k (fun q => absurd q.1 (by first | exact gz_ne rfl | decide))) (fun k => p85 54 k (fun q => absurd q.1 (by first | exact gz_ne rfl | decide))) (p85 0 64 (by decide)) (p85 0 3 (by decide))
        have KTX_I84 := gr_TRx_fr KTX_I74 (fun k => p85 113 k (fun q => absurd q.1 (by first | exact gz_ne rfl | decide))) (fun k => p85 10 k (fun q => absurd q.1 (by first | exact gz_ne rfl | decide))) (fun k => p85 55 k (fun q => absurd q.1 (by first | exact gz_ne rfl | decide))) (fun k => p85 6 k (fun q => absurd q.1 (by first | exact gz_ne rfl | decide))) (fun k => p85 122 k (fun q => absurd q.1 (by first | exact gz_ne rfl | decide))) (p85 0 3 (by decide)) (p85 0 64 (by decide))
        refine gv_run 3 true hD (pcₚ := 49) (lvₚ := [(0, .inr (.inr (some 0))), (1, .inl v1_5)]) (stₚ := []) (hₚ := gz_up (gr_h I84 J75) 0 216 (.inl 0)) (C := (((True ∧ True) ∧ True) ∧ True)) rfl ⟨⟨⟨trivial, trivial⟩, trivial⟩, trivial⟩ ?_
        refine gr_st hI84 FI84 rfl rfl ⟨⟨by show 0 ≤ _; exact gz_m 97 (by omega), by show _ ≤ 1300; exact gz_m 98 (by omega)⟩, trivial⟩ (fun I93 hI93 FI93 q94 p94 => ?_)
        have t95 := p94 0 217 (by decide)
        have t96 := p94 0 218 (by decide)
        have t97 := p94 0 188 (by decide)
        have f98 := (gr_b_0_216 hI93)
        have f99 := (gr_b_0_217 hI93)
        have f100 := (gr_b_0_218 hI93)
        have f101 := (gr_b_0_188 hI93)
        have KTM_I93 := gr_TM_fr KTM_I84 (fun k => p94 52 k (fun q => absurd q.1 (by first | exact gz_ne rfl | decide))) (fun k => p94 53 k (fun q => absurd q.1 (by first | exact gz_ne rfl | decide))) (fun k => p94 54 k (fun q => absurd q.1 (by first | exact gz_ne rfl | decide))) (p94 0 64 (by decide))
        have KTO_I93 := gr_TO_fr KTO_I84 (fun k => p94 52 k (fun q => absurd q.1 (by first | exact gz_ne rfl | decide))) (fun k => p94 53 k (fun q => absurd q.1 (by first | exact gz_ne rfl | decide))) (fun k => p94 54 k (fun q => absurd q.1 (by first | exact gz_ne rfl | decide))) (fun k => p94 55 k (fun q => absurd q.1 (by first | exact gz_ne rfl | decide))) (fun k => p94 6 k (fun q => absurd q.1 (by first | exact gz_ne rfl | decide))) (p94 0 64 (by decide)) (p94 0 3 (by decide))
        have KFM_I93 := gr_FM_fr KFM_I84 (fun k => p94 10 k (fun q => absurd q.1 (by first | exact gz_ne rfl | decide))) (fun k => p94 55 k (fun q => absurd q.1 (by first | exact gz_ne rfl | decide))) (fun k => p94 52 k (fun q => absurd q.1 (by first | exact gz_ne rfl | decide))) (fun k => p94 53 k (fun q => absurd q.1 (by first | exact gz_ne rfl | decide))) (fun k => p94 54 k (fun q => absurd q.1 (by first | exact gz_ne rfl | decide))) (p94 0 64 (by decide)) (p94 0 3 (by decide))
        have KTX_I93 := gr_TRx_fr KTX_I84 (fun k => p94 113 k (fun q => absurd q.1 (by first | exact gz_ne rfl | decide))) (fun k => p94 10 k (fun q => absurd q.1 (by first | exact gz_ne rfl | decide))) (fun k => p94 55 k (fun q => absurd q.1 (by first | exact gz_ne rfl | decide))) (fun k => p94 6 k (fun q => absurd q.1 (by first | exact gz_ne rfl | decide))) (fun k => p94 122 k (fun q => absurd q.1 (by first | exact gz_ne rfl | decide))) (p94 0 3 (by decide)) (p94 0 64 (by decide))
        refine gv_run 3 true hD (pcₚ := 56) (lvₚ := [(0, .inr (.inr (some 0))), (1, .inl v1_5)]) (stₚ := []) (hₚ := gz_up (gr_h I93 J75) 0 217 (.inl 300)) (C := (((True ∧ True) ∧ True) ∧ True)) rfl ⟨⟨⟨trivial, trivial⟩, trivial⟩, trivial⟩ ?_
        refine gr_st hI93 FI93 rfl rfl ⟨⟨by show 0 ≤ _; exact gz_m 99 (by omega), by show _ ≤ 1300; exact gz_m 100 (by omega)⟩, trivial⟩ (fun I102 hI102 FI102 q103 p103 => ?_)
        have t104 := p103 0 216 (by decide)
        have t105 := p103 0 218 (by decide)
        have t106 := p103 0 188 (by decide)
        have f107 := (gr_b_0_216 hI102)
        have f108 := (gr_b_0_217 hI102)
        have f109 := (gr_b_0_218 hI102)
        have f110 := (gr_b_0_188 hI102)
        have KTM_I102 := gr_TM_fr KTM_I93 (fun k => p103 52 k (fun q => absurd q.1 (by first | exact gz_ne rfl | decide))) (fun k => p103 53 k (fun q => absurd q.1 (by first | exact gz_ne rfl | decide))) (fun k => p103 54 k (fun q => absurd q.1 (by first | exact gz_ne rfl | decide))) (p103 0 64 (by decide))
        have KTO_I102 := gr_TO_fr KTO_I93 (fun k => p103 52 k (fun q => absurd q.1 (by first | exact gz_ne rfl | decide))) (fun k => p103 53 k (fun q => absurd q.1 (by first | exact gz_ne rfl | decide))) (fun k => p103 54 k (fun q => absurd q.1 (by first | exact gz_ne rfl | decide))) (fun k => p103 55 k (fun q => absurd q.1 (by first | exact gz_ne rfl | decide))) (fun k => p103 6 k (fun q => absurd q.1 (by first | exact gz_ne rfl | decide))) (p103 0 64 (by decide)) (p103 0 3 (by decide))
        have KFM_I102 := gr_FM_fr KFM_I93 (fun k => p103 10 k (fun q => absurd q.1 (by first | exact gz_ne rfl | decide))) (fun k => p103 55 k (fun q => absurd q.1 (by first | exact gz_ne rfl | decide))) (fun k => p103 52 k (fun q => absurd q.1 (by first | exact gz_ne rfl | decide))) (fun k => p103 53 k (fun q => absurd q.1 (by first | exact gz_ne rfl | decide))) (fun k => p103 54 k (fun q => absurd q.1 (by first | exact gz_ne rfl | decide))) (p103 0 64 (by decide)) (p103 0 3 (by decide))
        have KTX_I102 := gr_TRx_fr KTX_I93 (fun k => p103 113 k (fun q => absurd q.1 (by first | exact gz_ne rfl | decide))) (fun k => p103 10 k (fun q => absurd q.1 (by first | exact gz_ne rfl | decide))) (fun k => p103 55 k (fun q => absurd q.1 (by first | exact gz_ne rfl | decide))) (fun k => p103 6 k (fun q => absurd q.1 (by first | exact gz_ne rfl | decide))) (fun k => p103 122 k (fun q => absurd q.1 (by first | exact gz_ne rfl | decide))) (p103 0 3 (by decide)) (p103 0 64 (by decide))
        refine gv_run 2 true hD (pcₚ := 58) (lvₚ := [(1, .inl 0), (0, .inr (.inr (some 0)))]) (stₚ := []) (hₚ := gr_h I102 J75) (C := ((True ∧ True) ∧ True)) rfl ⟨⟨trivial, trivial⟩, trivial⟩ ?_
        have t111 := gr_TRx_b KTX_I102 (k := 0) ⟨by exact gz_m 101 (by omega), by exact gz_m 102 (by omega)⟩
        have f112 := (gr_b_113 hI102 (Int.toNat 0))
        refine gv_run 7 true hD (pcₚ := 69) (lvₚ := [(1, .inl 0), (0, .inr (.inr (some 0)))]) (stₚ := [.inl (I102 113 (Int.toNat 0)), .inr (.inr (some 10)), .inr (.inr (some 0))]) (hₚ := gr_h I102 J75) (C := (((((((True ∧ True) ∧ True) ∧ True) ∧ True) ∧ True) ∧ True) ∧ (0 ≤ 0 ∧ 0 < ((2000 : Nat) : Int)))) rfl ⟨⟨⟨⟨⟨⟨⟨trivial, trivial⟩, trivial⟩, trivial⟩, trivial⟩, trivial⟩, trivial⟩, ⟨by exact gz_m 103 (by omega), by exact gz_m 104 (by omega)⟩⟩ ?_
        have f113 := (gr_b_10 hI102 (Int.toNat ((I102 113 (Int.toNat 0)))))
        refine gv_run 1 true hD (pcₚ := 70) (lvₚ := [(1, .inl 0), (0, .inr (.inr (some 0)))]) (stₚ := [.inl (I102 10 (Int.toNat ((I102 113 (Int.toNat 0))))), .inr (.inr (some 0))]) (hₚ := gr_h I102 J75) (C := (True ∧ (0 ≤ ((I102 113 (Int.toNat 0))) ∧ ((I102 113 (Int.toNat 0))) < ((96 : Nat) : Int)))) rfl ⟨trivial, ⟨by exact gz_m 105 (by omega), by exact gz_m 106 (by omega)⟩⟩ ?_
        refine gv_run 1 true hD (pcₚ := 71) (lvₚ := [(1, .inl 0), (0, .inr (.inr (some 0)))]) (stₚ := [.inl 0, .inl (I102 10 (Int.toNat ((I102 113 (Int.toNat 0))))), .inr (.inr (some 0))]) (hₚ := gr_h I102 J75) (C := (True ∧ True)) rfl ⟨trivial, trivial⟩ ?_
        obtain ⟨r114, h114, E114, P114⟩ := r_composed (ws0 := ws0) (tb := tb) hws htb ext N9 362 I102 J75 hI102 ((I102 10 (Int.toNat ((I102 113 (Int.toNat 0)))))) 0 ⟨by exact gz_m 107 (by omega), by exact gz_m 108 (by omega)⟩ ⟨by exact gz_m 109 (by omega), by exact gz_m 110 (by omega)⟩ (by exact gz_m 111 (by omega)) (by exact gz_m 112 (by omega)) (by exact gz_m 113 (by omega)) (by exact gz_m 114 (by omega)) (by exact gz_m 115 (by omega)) (by exact gz_m 116 (by omega)) KTM_I102 KTO_I102 KTX_I102 (by exact gz_m 117 (by omega))
        obtain ⟨I115, J116, rfl, hI115, g114, k114, KTM_I115, KTO_I115, KTX_I115, ⟨z114, rfl, q114⟩⟩ := P114
        have FI115 := gr_frt FI102 g114 rfl rfl
        have FJ116 := gr_fjt FJ75 k114 rfl rfl
        have t117 := g114 0 217 rfl
        have t118 := g114 0 188 rfl
        have f119 := (gr_b_0_216 hI115)
        have f120 := (gr_b_0_217 hI115)
        have f121 := (gr_b_0_218 hI115)
        have f122 := (gr_b_0_188 hI115)
        have KFM_I115 := gr_FM_fr KFM_I102 (fun k => g114 10 k rfl) (fun k => g114 55 k rfl) (fun k => g114 52 k rfl) (fun k => g114 53 k rfl) (fun k => g114 54 k rfl) (g114 0 64 rfl) (g114 0 3 rfl)
        refine gv_callV hD rfl (As := [.inl (I102 10 (Int.toNat ((I102 113 (Int.toNat 0))))), .inl 0]) (st := []) rfl (by decide) rfl rfl (gr_lV hws rfl) (Nat.le_of_ble_eq_true rfl) (gz_Ev_mono (d := 363) (by decide) E114) ?_
        show gv_X _ _ (74, [(1, .inl 0), (0, .inr (.inr (some 0)))], [.inl z114], gr_sh ++ ext, gr_h I115 J116)
        have f123 := (gr_b_0_218 hI115)
        refine gv_run 5 true hD (pcₚ := 81) (lvₚ := [(3, .inl 0), (2, .inl z114), (1, .inl 0), (0, .inr (.inr (some 0)))]) (stₚ := [.inl (I115 0 218)]) (hₚ := gr_h I115 J116) (C := (((((True ∧ True) ∧ True) ∧ True) ∧ True) ∧ True)) rfl ⟨⟨⟨⟨⟨trivial, trivial⟩, trivial⟩, trivial⟩, trivial⟩, trivial⟩ ?_
        refine gv_if_eq (t := 88) hD rfl rfl ⟨by exact gz_m 118 (by omega), by exact gz_m 119 (by omega)⟩ (fun c124 => ?_) (fun c124 => ?_)
        · refine gv_run 2 true hD (pcₚ := 90) (lvₚ := [(3, .inl 0), (2, .inl z114), (1, .inl 0), (0, .inr (.inr (some 0)))]) (stₚ := [.inl z114, .inr (.inr (some 0))]) (hₚ := gr_h I115 J116) (C := ((True ∧ True) ∧ True)) rfl ⟨⟨trivial, trivial⟩, trivial⟩ ?_
          have t125 := ((gr_ML_oc (h := 0) (S' := 95) q114.2.2.2.2.2.2 (by exact gz_m 120 (by omega)) (by exact gz_m 121 (by omega)) (by exact gz_m 122 (by omega))) (by exact gz_m 123 (by omega))).2
          have t126 := gr_GH_b ((gr_ML_oc (h := 0) (S' := 95) q114.2.2.2.2.2.2 (by exact gz_m 124 (by omega)) (by exact gz_m 125 (by omega)) (by exact gz_m 126 (by omega))) (by exact gz_m 127 (by omega))).1 (x := z114) ⟨by exact gz_m 128 (by omega), by exact gz_m 129 (by omega)⟩
          obtain ⟨r127, h127, E127, P127⟩ := r_redex (ws0 := ws0) (tb := tb) hws htb ext 0 (I115 0 216) 95 301 I115 J116 hI115 z114 ⟨by exact gz_m 130 (by omega), by exact gz_m 131 (by omega)⟩ ((gr_ML_oc (h := 0) (S' := 95) q114.2.2.2.2.2.2 (by exact gz_m 132 (by omega)) (by exact gz_m 133 (by omega)) (by exact gz_m 134 (by omega))) (by exact gz_m 135 (by omega))).1 (by exact gz_m 136 (by omega)) (by exact gz_m 137 (by omega)) (by exact gz_m 138 (by omega))
          obtain ⟨rfl, ⟨z127, rfl, q127⟩⟩ := P127
          refine gv_callV hD rfl (As := [.inl z114]) (st := []) rfl (by decide) rfl rfl (gr_lV hws rfl) (Nat.le_of_ble_eq_true rfl) (gz_Ev_mono (d := 301) (by decide) E127) ?_
          show gv_X _ _ (93, [(3, .inl 0), (2, .inl z114), (1, .inl 0), (0, .inr (.inr (some 0)))], [.inl z127], gr_sh ++ ext, gr_h I115 J116)
          refine gv_run 1 true hD (pcₚ := 95) (lvₚ := [(4, .inl z127), (3, .inl 0), (2, .inl z114), (1, .inl 0), (0, .inr (.inr (some 0)))]) (stₚ := []) (hₚ := gr_h I115 J116) (C := (True ∧ True)) rfl ⟨trivial, trivial⟩ ?_
          refine gv_pick [4, 3, 2, 1, 0] rfl ?_
          exact L95 _ I115 J116 0 z114 0 z127 (Nat.lt_succ_self _) hI115 FI115 FJ116 KTM_I115 KTO_I115 KFM_I115 (by exact gz_m 139 (by omega)) (by rw [show (95 + 600 * 0 : Int) = 95 from rfl]; exact (gr_ML_oc (h := 0) (S' := 95) q114.2.2.2.2.2.2 (by exact gz_m 140 (by omega)) (by exact gz_m 141 (by omega)) (by exact gz_m 142 (by omega)))) q127.2.2
        · refine gv_run 3 true hD (pcₚ := 95) (lvₚ := [(4, .inl (-1)), (3, .inl 0), (2, .inl z114), (1, .inl 0), (0, .inr (.inr (some 0)))]) (stₚ := []) (hₚ := gr_h I115 J116) (C := (((True ∧ True) ∧ True) ∧ True)) rfl ⟨⟨⟨trivial, trivial⟩, trivial⟩, trivial⟩ ?_
          refine gv_pick [4, 3, 2, 1, 0] rfl ?_
          exact L95 _ I115 J116 0 z114 0 (-1) (Nat.lt_succ_self _) hI115 FI115 FJ116 KTM_I115 KTO_I115 KFM_I115 (by exact gz_m 143 (by omega)) (by rw [show (95 + 600 * 0 : Int) = 95 from rfl]; exact (gr_ML_oc (h := 0) (S' := 95) q114.2.2.2.2.2.2 (by exact gz_m 144 (by omega)) (by exact gz_m 145 (by omega)) (by exact gz_m 146 (by omega)))) (Or.inl (by exact gz_m 147 (by omega)))
      have f128 := (gr_b_0_188 hI)
      refine gv_run 3 true hD (pcₚ := 7) (lvₚ := [(0, .inr (.inr (some 0))), (1, .inl v1_5)]) (stₚ := [.inl (I 0 188), .inl v1_5]) (hₚ := gr_h I J) (C := (((True ∧ True) ∧ True) ∧ True)) rfl ⟨⟨⟨trivial, trivial⟩, trivial⟩, trivial⟩ ?_
      refine gv_icmp_ge (t := 33) hD rfl rfl ⟨⟨by exact gz_m 148 (by omega), by exact gz_m 149 (by omega)⟩, ⟨by exact gz_m 150 (by omega), by exact gz_m 151 (by omega)⟩⟩ (fun c129 => ?_) (fun c129 => ?_)
      · exact L33 (by exact gz_m 152 (by omega)) e0_5
      · have f130 := (gr_b_113 hI (Int.toNat v1_5))
        refine gv_run 6 true hD (pcₚ := 20) (lvₚ := [(0, .inr (.inr (some 0))), (1, .inl v1_5)]) (stₚ := [.inl (I 113 (Int.toNat v1_5)), .inr (.inr (some 10))]) (hₚ := gr_h I J) (C := ((((((True ∧ True) ∧ True) ∧ True) ∧ True) ∧ True) ∧ (0 ≤ v1_5 ∧ v1_5 < ((2000 : Nat) : Int)))) rfl ⟨⟨⟨⟨⟨⟨trivial, trivial⟩, trivial⟩, trivial⟩, trivial⟩, trivial⟩, ⟨by exact gz_m 153 (by omega), by exact gz_m 154 (by omega)⟩⟩ ?_
        have f131 := (gr_b_10 hI (Int.toNat ((I 113 (Int.toNat v1_5)))))
        refine gv_run 1 true hD (pcₚ := 21) (lvₚ := [(0, .inr (.inr (some 0))), (1, .inl v1_5)]) (stₚ := [.inl (I 10 (Int.toNat ((I 113 (Int.toNat v1_5)))))]) (hₚ := gr_h I J) (C := (True ∧ (0 ≤ ((I 113 (Int.toNat v1_5))) ∧ ((I 113 (Int.toNat v1_5))) < ((96 : Nat) : Int)))) rfl ⟨trivial, ⟨by exact gz_m 155 (by omega), by exact gz_m 156 (by omega)⟩⟩ ?_
        refine gv_if_ge (t := 27) hD rfl rfl ⟨by exact gz_m 157 (by omega), by exact gz_m 158 (by omega)⟩ (fun c132 => ?_) (fun c132 => ?_)
        · refine gv_run 2 true hD (pcₚ := 2) (lvₚ := [(1, .inl (v1_5 + 1)), (0, .inr (.inr (some 0)))]) (stₚ := []) (hₚ := gr_h I J) (C := ((True ∧ True) ∧ True)) rfl ⟨⟨trivial, trivial⟩, trivial⟩ ?_
          refine gv_pick [1, 0] rfl ?_
          exact ih2 (v1_5 + 1) (by exact gz_m 159 (by omega)) (by exact gz_m 160 (by omega)) (gr_FPz_nx e0_5 (by exact gz_m 161 (by omega)) (by exact gz_m 162 (by omega)))
        · refine gv_run 1 true hD (pcₚ := 26) (lvₚ := [(0, .inr (.inr (some 0))), (1, .inl v1_5)]) (stₚ := [.inl (-2)]) (hₚ := gr_h I J) (C := (True ∧ True)) rfl ⟨trivial, trivial⟩ ?_
          exact gv_iret hD rfl ⟨I, J, rfl, hI, FI, FJ, KTM_I, KTO_I, KFM_I, ⟨_, rfl, by exact gz_m 163 (by omega), by exact gz_m 164 (by omega), (Or.inl (by exact gz_m 165 (by omega)))⟩⟩
  refine gv_run 2 true hD (pcₚ := 2) (lvₚ := [(1, .inl 0), (0, .inr (.inr (some 0)))]) (stₚ := []) (hₚ := gr_h I J) (C := ((True ∧ True) ∧ True)) rfl ⟨⟨trivial, trivial⟩, trivial⟩ ?_
  refine gv_pick [1, 0] rfl ?_
  exact L2 _ 0 (Nat.lt_succ_self _) (by exact gz_m 166 (by omega)) (fun j hj => by exact gz_m 167 (by omega))
