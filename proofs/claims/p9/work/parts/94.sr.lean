set_option maxHeartbeats 32000000 in
set_option maxRecDepth 100000 in
theorem r_fun_p_L194 {ws0 : List Cond} {tb : String → gz_T} (hws : ∀ w ∈ gr_ws, w ∈ ws0) (htb : tb RX13 = gr_T) (ext : gz_Sh) (I9 : gr_I) (β : Int → Int) (N9 : Int) (p9 : Int) (I : gr_I) (J : gr_J) (hI : gr_Inv I)   (x0 : I 0 71 = 5 ∨ I 0 73 ≤ I 0 69) (x1 : I 0 72 ≤ I 0 69) (x2 : I 0 71 = 0 ∨ (I 0 72 < I 0 73 ∧ I 0 72 < I 0 69)) (x3 : I 0 71 = 3 → 2 ≤ I 0 73 - I 0 72 ∧ I 0 73 - I 0 72 ≤ 14) (x4 : I 0 72 ≤ I 0 73) (x5 : 0 ≤ I9 0 64) (x6 : gr_ATp β N9 p9 I J) (x7 : 0 ≤ p9) (x8 : gr_KW J) (KGR_I : gr_GR I) (KST_I : gr_ST I9 I) (KTO_I : gr_TO I) (KFM_I : gr_FM I) (KMQ_I : gr_MQ I9 I) (v1_9 : Int64) (v3_9 : Int) : ∀ (I27 : gr_I) (J28 : gr_J) (v4_29 : Int) (p_29 : Int), gr_Inv I27 → gr_fr [3, 71, 72, 73, 74, 75, 76, 77, 101] [3, 6, 7, 8, 9, 10, 61] I I27 → gr_fj [3, 71, 72, 73, 74, 75, 76, 77, 101] [3, 6, 7, 8, 9, 10, 61] J J28 → gr_GR I27 → gr_ST I9 I27 → gr_TO I27 → gr_FM I27 → gr_MQ I9 I27 → ((0 ≤ v3_9 ∧ v3_9 ≤ 4) ∧ (0 ≤ v4_29 ∧ v4_29 ≤ 31) ∧ (I27 0 3 ≤ 95) ∧ (0 ≤ p_29) ∧ (I27 0 71 = 5 ∨ I27 0 73 ≤ I27 0 69) ∧ (I27 0 72 ≤ I27 0 69) ∧ (I27 0 71 = 0 ∨ (I27 0 72 < I27 0 73 ∧ I27 0 72 < I27 0 69)) ∧ (I27 0 71 = 3 → 2 ≤ I27 0 73 - I27 0 72 ∧ I27 0 73 - I27 0 72 ≤ 14) ∧ (I27 0 72 ≤ I27 0 73) ∧ (I27 0 69 = I 0 69) ∧ (I 0 73 ≤ I27 0 73) ∧ (I 0 72 ≤ I27 0 72)) → (gr_ATp β N9 p_29 I27 J28) → (v1_9 = (gs_rn β N9 p9)) → ((gs_fun β N9 I J (I 0 78) p9) = p_29) → (v4_29 = gs_lk I J 2 2 (gs_rn β N9 (gs_need β N9 62 (gs_fl β N9 I J 4 (gs_need β N9 58 (gs_X β N9 p9)))))) → (v3_9 = gs_cn β N9 5 (gs_need β N9 58 (gs_X β N9 p9))) → (∀ i : Nat, i < Int.toNat v3_9 → I27 61 i = gs_lk I J 2 2 (gs_rn β N9 (gs_nx β N9 i (gs_need β N9 58 (gs_X β N9 p9))))) → (I27 0 101 = gs_prc β N9 (gs_X β N9 (gs_need β N9 62 (gs_fl β N9 I J 4 (gs_need β N9 58 (gs_X β N9 p9)))))) → (I27 0 3 = I 0 3 ∧ (∀ k, J28 3 k = J 3 k) ∧ (∀ k, I27 6 k = I 6 k) ∧ (∀ k, I27 7 k = I 7 k) ∧ (∀ k, I27 8 k = I 8 k) ∧ (∀ k, I27 10 k = I 10 k) ∧ (∀ k, I27 9 k = I 9 k)) → gv_X (gr_E ws0 tb 11 (yX13_fun, cX13_fun, 6, (some .boolean)) kX13_fun) (gv_Q cX13_fun (some .boolean) (gr_sh ++ ext) (fun r hₚ => (∃ (Iₚ : gr_I) (Jₚ : gr_J), hₚ = gr_h Iₚ Jₚ ∧ gr_Inv Iₚ ∧ gr_fr [3, 71, 72, 73, 74, 75, 76, 77, 101] [3, 6, 7, 8, 9, 10, 61] I Iₚ ∧ gr_fj [3, 71, 72, 73, 74, 75, 76, 77, 101] [3, 6, 7, 8, 9, 10, 61] J Jₚ ∧ gr_GR Iₚ ∧ gr_ST I9 Iₚ ∧ gr_TO Iₚ ∧ gr_FM Iₚ ∧ gr_MQ I9 Iₚ ∧ (∃ z : Int, r = some (.inl z) ∧ 0 ≤ z ∧ z ≤ 1 ∧ (Iₚ 0 71 = 5 ∨ Iₚ 0 73 ≤ Iₚ 0 69) ∧ (Iₚ 0 72 ≤ Iₚ 0 69) ∧ (Iₚ 0 71 = 0 ∨ (Iₚ 0 72 < Iₚ 0 73 ∧ Iₚ 0 72 < Iₚ 0 69)) ∧ (Iₚ 0 71 = 3 → 2 ≤ Iₚ 0 73 - Iₚ 0 72 ∧ Iₚ 0 73 - Iₚ 0 72 ≤ 14) ∧ (Iₚ 0 72 ≤ Iₚ 0 73) ∧ (Iₚ 0 69 = I 0 69) ∧ (I 0 73 ≤ Iₚ 0 73) ∧ (I 0 72 ≤ Iₚ 0 72) ∧ (gs_Or z (0 ≤ (gs_fun β N9 I J (I 0 78) p9) ∧ gr_ATp β N9 (gs_fun β N9 I J (I 0 78) p9) Iₚ Jₚ ∧ gs_Ufun (gs_rn β N9 p9) (gs_cn β N9 5 (gs_need β N9 58 (gs_X β N9 p9))) (fun i => gs_lk I J 2 2 (gs_rn β N9 (gs_nx β N9 i (gs_need β N9 58 (gs_X β N9 p9))))) (gs_lk I J 2 2 (gs_rn β N9 (gs_need β N9 62 (gs_fl β N9 I J 4 (gs_need β N9 58 (gs_X β N9 p9)))))) I J Iₚ Jₚ ∧ gs_Ufc (gs_prc β N9 (gs_X β N9 (gs_need β N9 62 (gs_fl β N9 I J 4 (gs_need β N9 58 (gs_X β N9 p9)))))) I Iₚ) ((gs_fun β N9 I J (I 0 78) p9) < 0 ∧ Iₚ 0 77 = -1 - (gs_fun β N9 I J (I 0 78) p9) ∧ gs_Sfun I J Iₚ Jₚ)))))) (194, [(0, .inr (.inr (some 0))), (1, .inr (.inl v1_9)), (3, .inl v3_9), (4, .inl v4_29)], [], gr_sh ++ ext, gr_h I27 J28) := by
  have FI : gr_fr [3, 71, 72, 73, 74, 75, 76, 77, 101] [3, 6, 7, 8, 9, 10, 61] I I := fun _ _ _ => rfl
  have FJ : gr_fj [3, 71, 72, 73, 74, 75, 76, 77, 101] [3, 6, 7, 8, 9, 10, 61] J J := fun _ _ _ => rfl
  have hD : gv_D (gr_E ws0 tb 11 (yX13_fun, cX13_fun, 6, (some .boolean)) kX13_fun) := gq_of oX13_fun
  intro I27 J28 v4_29 p_29 hI27 FI27 FJ28 KGR_I27 KST_I27 KTO_I27 KFM_I27 KMQ_I27 m_29 e2_29 e3_29 e4_29 e5_29 e6_29 e7_29 e8_29 e9_29
  obtain ⟨hv3_9_29, hv4_29, e0_29, e1_29, e10_29, e11_29, e12_29, e13_29, e14_29, e15_29, e16_29, e17_29⟩ := m_29
  have f30 := (gr_b_0_71 hI27)
  have f31 := (gr_b_0_72 hI27)
  have f32 := (gr_b_0_73 hI27)
  have f33 := (gr_b_0_69 hI27)
  have f34 := (gr_b_0_3 hI27)
  have f35 := (gr_b_0_2 hI27)
  have t36 := gr_ATp_l e2_29
  have L217 : ∀ (n : Nat) (I37 : gr_I) (J38 : gr_J) (v5_39 : Int) (p_39 : Int), (5 - v5_39).toNat < n → gr_Inv I37 → gr_fr [3, 71, 72, 73, 74, 75, 76, 77, 101] [3, 6, 7, 8, 9, 10, 61] I I37 → gr_fj [3, 71, 72, 73, 74, 75, 76, 77, 101] [3, 6, 7, 8, 9, 10, 61] J J38 → gr_GR I37 → gr_ST I9 I37 → gr_TO I37 → gr_FM I37 → gr_MQ I9 I37 → ((0 ≤ v3_9 ∧ v3_9 ≤ 4) ∧ (0 ≤ v4_29 ∧ v4_29 ≤ 31) ∧ (0 ≤ v5_39 ∧ v5_39 ≤ 4) ∧ (I37 0 3 ≤ 95) ∧ (0 ≤ p_39) ∧ (I37 0 71 = 5 ∨ I37 0 73 ≤ I37 0 69) ∧ (I37 0 72 ≤ I37 0 69) ∧ (I37 0 71 = 0 ∨ (I37 0 72 < I37 0 73 ∧ I37 0 72 < I37 0 69)) ∧ (I37 0 71 = 3 → 2 ≤ I37 0 73 - I37 0 72 ∧ I37 0 73 - I37 0 72 ≤ 14) ∧ (I37 0 72 ≤ I37 0 73) ∧ (I37 0 69 = I 0 69) ∧ (I 0 73 ≤ I37 0 73) ∧ (I 0 72 ≤ I37 0 72)) → (gr_ATp β N9 p_39 I37 J38) → ((gs_fun β N9 I J (I 0 78) p9) = p_39) → (v3_9 = gs_cn β N9 5 (gs_need β N9 58 (gs_X β N9 p9))) → (v4_29 = gs_lk I J 2 2 (gs_rn β N9 (gs_need β N9 62 (gs_fl β N9 I J 4 (gs_need β N9 58 (gs_X β N9 p9)))))) → (gs_Ufl (gs_rn β N9 p9) v3_9 (fun i => gs_lk I J 2 2 (gs_rn β N9 (gs_nx β N9 i (gs_need β N9 58 (gs_X β N9 p9))))) (Int.toNat v5_39) I J I37 J38) → (I37 0 3 = I 0 3) → (v5_39 ≤ v3_9) → (I37 0 101 = gs_prc β N9 (gs_X β N9 (gs_need β N9 62 (gs_fl β N9 I J 4 (gs_need β N9 58 (gs_X β N9 p9)))))) → ((∀ k, I37 9 k = I 9 k)) → gv_X (gr_E ws0 tb 11 (yX13_fun, cX13_fun, 6, (some .boolean)) kX13_fun) (gv_Q cX13_fun (some .boolean) (gr_sh ++ ext) (fun r hₚ => (∃ (Iₚ : gr_I) (Jₚ : gr_J), hₚ = gr_h Iₚ Jₚ ∧ gr_Inv Iₚ ∧ gr_fr [3, 71, 72, 73, 74, 75, 76, 77, 101] [3, 6, 7, 8, 9, 10, 61] I Iₚ ∧ gr_fj [3, 71, 72, 73, 74, 75, 76, 77, 101] [3, 6, 7, 8, 9, 10, 61] J Jₚ ∧ gr_GR Iₚ ∧ gr_ST I9 Iₚ ∧ gr_TO Iₚ ∧ gr_FM Iₚ ∧ gr_MQ I9 Iₚ ∧ (∃ z : Int, r = some (.inl z) ∧ 0 ≤ z ∧ z ≤ 1 ∧ (Iₚ 0 71 = 5 ∨ Iₚ 0 73 ≤ Iₚ 0 69) ∧ (Iₚ 0 72 ≤ Iₚ 0 69) ∧ (Iₚ 0 71 = 0 ∨ (Iₚ 0 72 < Iₚ 0 73 ∧ Iₚ 0 72 < Iₚ 0 69)) ∧ (Iₚ 0 71 = 3 → 2 ≤ Iₚ 0 73 - Iₚ 0 72 ∧ Iₚ 0 73 - Iₚ 0 72 ≤ 14) ∧ (Iₚ 0 72 ≤ Iₚ 0 73) ∧ (Iₚ 0 69 = I 0 69) ∧ (I 0 73 ≤ Iₚ 0 73) ∧ (I 0 72 ≤ Iₚ 0 72) ∧ (gs_Or z (0 ≤ (gs_fun β N9 I J (I 0 78) p9) ∧ gr_ATp β N9 (gs_fun β N9 I J (I 0 78) p9) Iₚ Jₚ ∧ gs_Ufun (gs_rn β N9 p9) (gs_cn β N9 5 (gs_need β N9 58 (gs_X β N9 p9))) (fun i => gs_lk I J 2 2 (gs_rn β N9 (gs_nx β N9 i (gs_need β N9 58 (gs_X β N9 p9))))) (gs_lk I J 2 2 (gs_rn β N9 (gs_need β N9 62 (gs_fl β N9 I J 4 (gs_need β N9 58 (gs_X β N9 p9)))))) I J Iₚ Jₚ ∧ gs_Ufc (gs_prc β N9 (gs_X β N9 (gs_need β N9 62 (gs_fl β N9 I J 4 (gs_need β N9 58 (gs_X β N9 p9)))))) I Iₚ) ((gs_fun β N9 I J (I 0 78) p9) < 0 ∧ Iₚ 0 77 = -1 - (gs_fun β N9 I J (I 0 78) p9) ∧ gs_Sfun I J Iₚ Jₚ)))))) (217, [(0, .inr (.inr (some 0))), (3, .inl v3_9), (4, .inl v4_29), (5, .inl v5_39)], [], gr_sh ++ ext, gr_h I37 J38) := by
    intro n
    induction n with
    | zero => intro I37 J38 v5_39 p_39 hn; omega
    | succ n ih217 =>
      intro I37 J38 v5_39 p_39 hn hI37 FI37 FJ38 KGR_I37 KST_I37 KTO_I37 KFM_I37 KMQ_I37 m_39 e2_39 e3_39 e4_39 e5_39 e6_39 e7_39 e8_39 e9_39 e10_39
      clear hv3_9_29 hv4_29 e0_29 e1_29 e10_29 e11_29 e12_29 e13_29 e14_29 e15_29 e16_29 e17_29 f30 f31 f32 f33 f34 f35 t36
      obtain ⟨hv3_9_39, hv4_29_39, hv5_39, e0_39, e1_39, e11_39, e12_39, e13_39, e14_39, e15_39, e16_39, e17_39, e18_39⟩ := m_39
      have f40 := (gr_b_0_71 hI37)
      have f41 := (gr_b_0_72 hI37)
      have f42 := (gr_b_0_73 hI37)
      have f43 := (gr_b_0_69 hI37)
      have f44 := (gr_b_0_3 hI37)
      have f45 := (gr_b_0_2 hI37)
      have t46 := gr_ATp_l e2_39
      refine gv_run 2 true hD (pcₚ := 220) (lvₚ := [(0, .inr (.inr (some 0))), (3, .inl v3_9), (4, .inl v4_29), (5, .inl v5_39)]) (stₚ := [.inl v3_9, .inl v5_39]) (hₚ := gr_h I37 J38) (C := ((True ∧ True) ∧ True)) rfl ⟨⟨trivial, trivial⟩, trivial⟩ ?_
      refine gv_icmp_ge (t := 250) hD rfl rfl ⟨⟨by omega, by omega⟩, ⟨by omega, by omega⟩⟩ (fun c47 => ?_) (fun c47 => ?_)
      · have f48 := (gr_b_0_3 hI37)
        refine gv_run 5 true hD (pcₚ := 260) (lvₚ := [(0, .inr (.inr (some 0))), (3, .inl v3_9), (4, .inl v4_29), (5, .inl v5_39)]) (stₚ := [.inl v4_29, .inl (I37 0 3), .inr (.inr (some 8))]) (hₚ := gr_h I37 J38) (C := (((((True ∧ True) ∧ True) ∧ True) ∧ True) ∧ True)) rfl ⟨⟨⟨⟨⟨trivial, trivial⟩, trivial⟩, trivial⟩, trivial⟩, trivial⟩ ?_
        refine gv_run 1 true hD (pcₚ := 261) (lvₚ := [(0, .inr (.inr (some 0))), (3, .inl v3_9), (4, .inl v4_29), (5, .inl v5_39)]) (stₚ := []) (hₚ := gz_up (gr_h I37 J38) 8 (Int.toNat ((I37 0 3))) (.inl v4_29)) (C := (True ∧ (0 ≤ (I37 0 3) ∧ (I37 0 3) < ((96 : Nat) : Int)))) rfl ⟨trivial, ⟨by omega, by omega⟩⟩ ?_
        refine gr_st hI37 FI37 rfl rfl ⟨⟨by show 0 ≤ _; omega, by show _ ≤ 31; omega⟩, trivial⟩ (fun I49 hI49 FI49 q50 p50 => ?_)
        have t51 := p50 0 71 (fun q => absurd q.1 (by decide))
        have t52 := p50 0 72 (fun q => absurd q.1 (by decide))
        have t53 := p50 0 73 (fun q => absurd q.1 (by decide))
        have t54 := p50 0 69 (fun q => absurd q.1 (by decide))
        have t55 := p50 0 3 (fun q => absurd q.1 (by decide))
        have t56 := p50 0 2 (fun q => absurd q.1 (by decide))
        have f57 := (gr_b_0_71 hI49)
        have f58 := (gr_b_0_72 hI49)
        have f59 := (gr_b_0_73 hI49)
        have f60 := (gr_b_0_69 hI49)
        have f61 := (gr_b_0_3 hI49)
        have f62 := (gr_b_0_2 hI49)
        have KGR_I49 := gr_GR_8 KGR_I37 p50 (by omega)
        have KST_I49 := gr_ST_fr KST_I37 (fun k => p50 6 k (fun q => absurd q.1 (by decide))) (fun k => p50 19 k (fun q => absurd q.1 (by decide))) (fun k => p50 18 k (fun q => absurd q.1 (by decide))) (fun k => p50 41 k (fun q => absurd q.1 (by decide))) (fun k => p50 36 k (fun q => absurd q.1 (by decide))) (p50 0 3 (fun q => absurd q.1 (by decide)))
        have KTO_I49 := gr_TO_fr KTO_I37 (fun k => p50 52 k (fun q => absurd q.1 (by decide))) (fun k => p50 53 k (fun q => absurd q.1 (by decide))) (fun k => p50 54 k (fun q => absurd q.1 (by decide))) (fun k => p50 55 k (fun q => absurd q.1 (by decide))) (fun k => p50 6 k (fun q => absurd q.1 (by decide))) (p50 0 64 (fun q => absurd q.1 (by decide))) (p50 0 3 (fun q => absurd q.1 (by decide)))
        have KFM_I49 := gr_FM_fr KFM_I37 (fun k => p50 10 k (fun q => absurd q.1 (by decide))) (fun k => p50 55 k (fun q => absurd q.1 (by decide))) (fun k => p50 52 k (fun q => absurd q.1 (by decide))) (fun k => p50 53 k (fun q => absurd q.1 (by decide))) (fun k => p50 54 k (fun q => absurd q.1 (by decide))) (p50 0 64 (fun q => absurd q.1 (by decide))) (p50 0 3 (fun q => absurd q.1 (by decide)))
        have KMQ_I49 := gr_MQ_fr KMQ_I37 (fun k => p50 10 k (fun q => absurd q.1 (by decide))) (fun k => p50 55 k (fun q => absurd q.1 (by decide))) (fun k => p50 52 k (fun q => absurd q.1 (by decide))) (fun k => p50 53 k (fun q => absurd q.1 (by decide))) (fun k => p50 54 k (fun q => absurd q.1 (by decide))) (fun k => p50 60 k (fun q => absurd q.1 (by decide))) (p50 0 64 (fun q => absurd q.1 (by decide))) (p50 0 3 (fun q => absurd q.1 (by decide))) (p50 0 99 (fun q => absurd q.1 (by decide)))
        have A63 := gr_ATp_sr e2_39 p50 rfl
        have f64 := (gr_b_0_3 hI49)
        refine gv_run 4 true hD (pcₚ := 269) (lvₚ := [(0, .inr (.inr (some 0))), (3, .inl v3_9), (4, .inl v4_29), (5, .inl v5_39)]) (stₚ := [.inl (I49 0 3), .inr (.inr (some 9))]) (hₚ := gr_h I49 J38) (C := ((((True ∧ True) ∧ True) ∧ True) ∧ True)) rfl ⟨⟨⟨⟨trivial, trivial⟩, trivial⟩, trivial⟩, trivial⟩ ?_
        rw [t55]
        have f65 := (gr_b_0_101 hI49)
        refine gv_run 3 true hD (pcₚ := 274) (lvₚ := [(0, .inr (.inr (some 0))), (3, .inl v3_9), (4, .inl v4_29), (5, .inl v5_39)]) (stₚ := []) (hₚ := gz_up (gr_h I49 J38) 9 (Int.toNat ((I37 0 3))) (.inl (I49 0 101))) (C := (((True ∧ True) ∧ True) ∧ (0 ≤ (I37 0 3) ∧ (I37 0 3) < ((96 : Nat) : Int)))) rfl ⟨⟨⟨trivial, trivial⟩, trivial⟩, ⟨by omega, by omega⟩⟩ ?_
        refine gr_st hI49 FI49 rfl rfl ⟨⟨by show 0 ≤ _; omega, by show _ ≤ 10000; omega⟩, trivial⟩ (fun I66 hI66 FI66 q67 p67 => ?_)
        have t68 := p67 0 71 (fun q => absurd q.1 (by decide))
        have t69 := p67 0 72 (fun q => absurd q.1 (by decide))
        have t70 := p67 0 73 (fun q => absurd q.1 (by decide))
        have t71 := p67 0 69 (fun q => absurd q.1 (by decide))
        have t72 := p67 0 3 (fun q => absurd q.1 (by decide))
        have t73 := p67 0 2 (fun q => absurd q.1 (by decide))
        have f74 := (gr_b_0_71 hI66)
        have f75 := (gr_b_0_72 hI66)
        have f76 := (gr_b_0_73 hI66)
        have f77 := (gr_b_0_69 hI66)
        have f78 := (gr_b_0_3 hI66)
        have f79 := (gr_b_0_2 hI66)
        have KGR_I66 := gr_GR_fr KGR_I49 (fun k => p67 19 k (fun q => absurd q.1 (by decide))) (fun k => p67 18 k (fun q => absurd q.1 (by decide))) (fun k => p67 36 k (fun q => absurd q.1 (by decide))) (fun k => p67 41 k (fun q => absurd q.1 (by decide))) (fun k => p67 42 k (fun q => absurd q.1 (by decide))) (fun k => p67 43 k (fun q => absurd q.1 (by decide))) (fun k => p67 45 k (fun q => absurd q.1 (by decide))) (fun k => p67 46 k (fun q => absurd q.1 (by decide))) (fun k => p67 47 k (fun q => absurd q.1 (by decide))) (fun k => p67 6 k (fun q => absurd q.1 (by decide))) (fun k => p67 7 k (fun q => absurd q.1 (by decide))) (fun k => p67 8 k (fun q => absurd q.1 (by decide))) (p67 0 3 (fun q => absurd q.1 (by decide)))
        have KST_I66 := gr_ST_fr KST_I49 (fun k => p67 6 k (fun q => absurd q.1 (by decide))) (fun k => p67 19 k (fun q => absurd q.1 (by decide))) (fun k => p67 18 k (fun q => absurd q.1 (by decide))) (fun k => p67 41 k (fun q => absurd q.1 (by decide))) (fun k => p67 36 k (fun q => absurd q.1 (by decide))) (p67 0 3 (fun q => absurd q.1 (by decide)))
        have KTO_I66 := gr_TO_fr KTO_I49 (fun k => p67 52 k (fun q => absurd q.1 (by decide))) (fun k => p67 53 k (fun q => absurd q.1 (by decide))) (fun k => p67 54 k (fun q => absurd q.1 (by decide))) (fun k => p67 55 k (fun q => absurd q.1 (by decide))) (fun k => p67 6 k (fun q => absurd q.1 (by decide))) (p67 0 64 (fun q => absurd q.1 (by decide))) (p67 0 3 (fun q => absurd q.1 (by decide)))
        have KFM_I66 := gr_FM_fr KFM_I49 (fun k => p67 10 k (fun q => absurd q.1 (by decide))) (fun k => p67 55 k (fun q => absurd q.1 (by decide))) (fun k => p67 52 k (fun q => absurd q.1 (by decide))) (fun k => p67 53 k (fun q => absurd q.1 (by decide))) (fun k => p67 54 k (fun q => absurd q.1 (by decide))) (p67 0 64 (fun q => absurd q.1 (by decide))) (p67 0 3 (fun q => absurd q.1 (by decide)))
        have KMQ_I66 := gr_MQ_fr KMQ_I49 (fun k => p67 10 k (fun q => absurd q.1 (by decide))) (fun k => p67 55 k (fun q => absurd q.1 (by decide))) (fun k => p67 52 k (fun q => absurd q.1 (by decide))) (fun k => p67 53 k (fun q => absurd q.1 (by decide))) (fun k => p67 54 k (fun q => absurd q.1 (by decide))) (fun k => p67 60 k (fun q => absurd q.1 (by decide))) (p67 0 64 (fun q => absurd q.1 (by decide))) (p67 0 3 (fun q => absurd q.1 (by decide))) (p67 0 99 (fun q => absurd q.1 (by decide)))
        have A80 := gr_ATp_sr A63 p67 rfl
        have f81 := (gr_b_0_3 hI66)
        refine gv_run 5 true hD (pcₚ := 283) (lvₚ := [(0, .inr (.inr (some 0))), (3, .inl v3_9), (4, .inl v4_29), (5, .inl v5_39)]) (stₚ := [.inl (I66 0 3), .inr (.inr (some 0)), .inr (.inr (some 10))]) (hₚ := gr_h I66 J38) (C := (((((True ∧ True) ∧ True) ∧ True) ∧ True) ∧ True)) rfl ⟨⟨⟨⟨⟨trivial, trivial⟩, trivial⟩, trivial⟩, trivial⟩, trivial⟩ ?_
        rw [(t72.trans t55)]
        refine gv_run 3 true hD (pcₚ := 286) (lvₚ := [(0, .inr (.inr (some 0))), (3, .inl v3_9), (4, .inl v4_29), (5, .inl v5_39)]) (stₚ := [.inl ((I37 0 3) + 1), .inr (.inr (some 0)), .inl (I37 0 3), .inr (.inr (some 10))]) (hₚ := gr_h I66 J38) (C := (((True ∧ True) ∧ True) ∧ True)) rfl ⟨⟨⟨trivial, trivial⟩, trivial⟩, trivial⟩ ?_
        refine gv_run 1 true hD (pcₚ := 289) (lvₚ := [(0, .inr (.inr (some 0))), (3, .inl v3_9), (4, .inl v4_29), (5, .inl v5_39)]) (stₚ := [.inl (I37 0 3), .inr (.inr (some 10))]) (hₚ := gz_up (gr_h I66 J38) 0 3 (.inl (((I37 0 3) + 1)))) (C := (True ∧ True)) rfl ⟨trivial, trivial⟩ ?_
        refine gr_st hI66 FI66 rfl rfl ⟨⟨by show 0 ≤ _; omega, by show _ ≤ 96; omega⟩, trivial⟩ (fun I82 hI82 FI82 q83 p83 => ?_)
        have t84 := p83 0 71 (by decide)
        have t85 := p83 0 72 (by decide)
        have t86 := p83 0 73 (by decide)
        have t87 := p83 0 69 (by decide)
        have t88 := p83 0 2 (by decide)
        have f89 := (gr_b_0_71 hI82)
        have f90 := (gr_b_0_72 hI82)
        have f91 := (gr_b_0_73 hI82)
        have f92 := (gr_b_0_69 hI82)
        have f93 := (gr_b_0_3 hI82)
        have f94 := (gr_b_0_2 hI82)
        have KGR_I82 := gr_GR_n KGR_I66 p83 (by omega)
        have KST_I82 := gr_ST_n KST_I66 p83 (by omega)
        have KTO_I82 := gr_TO_n KTO_I66 p83 (by omega)
        have A95 := gr_ATp_sf A80 p83 rfl
        refine gv_run 2 true hD (pcₚ := 291) (lvₚ := [(0, .inr (.inr (some 0))), (3, .inl v3_9), (4, .inl v4_29), (5, .inl v5_39)]) (stₚ := []) (hₚ := gz_up (gr_h I82 J38) 10 (Int.toNat ((I37 0 3))) (.inl (-1))) (C := ((True ∧ True) ∧ (0 ≤ (I37 0 3) ∧ (I37 0 3) < ((96 : Nat) : Int)))) rfl ⟨⟨trivial, trivial⟩, ⟨by omega, by omega⟩⟩ ?_
        refine gr_st hI82 FI82 rfl rfl ⟨⟨by show (-1) ≤ _; omega, by show _ ≤ 1999; omega⟩, trivial⟩ (fun I96 hI96 FI96 q97 p97 => ?_)
        have t98 := p97 0 71 (fun q => absurd q.1 (by decide))
        have t99 := p97 0 72 (fun q => absurd q.1 (by decide))
        have t100 := p97 0 73 (fun q => absurd q.1 (by decide))
        have t101 := p97 0 69 (fun q => absurd q.1 (by decide))
        have t102 := p97 0 3 (fun q => absurd q.1 (by decide))
        have t103 := p97 0 2 (fun q => absurd q.1 (by decide))
        have f104 := (gr_b_0_71 hI96)
        have f105 := (gr_b_0_72 hI96)
        have f106 := (gr_b_0_73 hI96)
        have f107 := (gr_b_0_69 hI96)
        have f108 := (gr_b_0_3 hI96)
        have f109 := (gr_b_0_2 hI96)
        have KGR_I96 := gr_GR_fr KGR_I82 (fun k => p97 19 k (fun q => absurd q.1 (by decide))) (fun k => p97 18 k (fun q => absurd q.1 (by decide))) (fun k => p97 36 k (fun q => absurd q.1 (by decide))) (fun k => p97 41 k (fun q => absurd q.1 (by decide))) (fun k => p97 42 k (fun q => absurd q.1 (by decide))) (fun k => p97 43 k (fun q => absurd q.1 (by decide))) (fun k => p97 45 k (fun q => absurd q.1 (by decide))) (fun k => p97 46 k (fun q => absurd q.1 (by decide))) (fun k => p97 47 k (fun q => absurd q.1 (by decide))) (fun k => p97 6 k (fun q => absurd q.1 (by decide))) (fun k => p97 7 k (fun q => absurd q.1 (by decide))) (fun k => p97 8 k (fun q => absurd q.1 (by decide))) (p97 0 3 (fun q => absurd q.1 (by decide)))
        have KST_I96 := gr_ST_fr KST_I82 (fun k => p97 6 k (fun q => absurd q.1 (by decide))) (fun k => p97 19 k (fun q => absurd q.1 (by decide))) (fun k => p97 18 k (fun q => absurd q.1 (by decide))) (fun k => p97 41 k (fun q => absurd q.1 (by decide))) (fun k => p97 36 k (fun q => absurd q.1 (by decide))) (p97 0 3 (fun q => absurd q.1 (by decide)))
        have KTO_I96 := gr_TO_fr KTO_I82 (fun k => p97 52 k (fun q => absurd q.1 (by decide))) (fun k => p97 53 k (fun q => absurd q.1 (by decide))) (fun k => p97 54 k (fun q => absurd q.1 (by decide))) (fun k => p97 55 k (fun q => absurd q.1 (by decide))) (fun k => p97 6 k (fun q => absurd q.1 (by decide))) (p97 0 64 (fun q => absurd q.1 (by decide))) (p97 0 3 (fun q => absurd q.1 (by decide)))
        have A110 := gr_ATp_sr A95 p97 rfl
        have KFM_I96 : gr_FM I96 := gr_FM_new KFM_I66 p83 (by omega) (by omega) p97 q97
        have KMQ_I96 : gr_MQ I9 I96 := gr_MQ_new KMQ_I66 (by omega) p83 (by omega) (by omega) p97 q97
        refine gv_run 1 true hD (pcₚ := 292) (lvₚ := [(0, .inr (.inr (some 0))), (3, .inl v3_9), (4, .inl v4_29), (5, .inl v5_39)]) (stₚ := [.inl 1]) (hₚ := gr_h I96 J38) (C := (True ∧ True)) rfl ⟨trivial, trivial⟩ ?_
        have b111 : (I96 0 71 = 5 ∨ I96 0 73 ≤ I96 0 69) ∧ (I96 0 72 ≤ I96 0 69) ∧ (I96 0 71 = 0 ∨ (I96 0 72 < I96 0 73 ∧ I96 0 72 < I96 0 69)) ∧ (I96 0 71 = 3 → 2 ≤ I96 0 73 - I96 0 72 ∧ I96 0 73 - I96 0 72 ≤ 14) ∧ (I96 0 72 ≤ I96 0 73) ∧ (I96 0 69 = I 0 69) ∧ (I 0 73 ≤ I96 0 73) ∧ (I 0 72 ≤ I96 0 72) := by omega
        exact gv_zret hD rfl (by omega) ⟨I96, J38, rfl, hI96, FI96, FJ38, KGR_I96, KST_I96, KTO_I96, KFM_I96, KMQ_I96, ⟨_, rfl, by omega, by omega, b111.1, b111.2.1, b111.2.2.1, b111.2.2.2.1, b111.2.2.2.2.1, b111.2.2.2.2.2.1, b111.2.2.2.2.2.2.1, b111.2.2.2.2.2.2.2, (Or.inl ⟨by omega, by rw [e3_39]; exact ⟨by omega, A110, (by rw [← e4_39, ← e5_39]; exact ⟨gs_Ufl_e e6_39 (by omega) (by omega) p50 q50 p67 p83 (by omega) (by omega) p97 q97, gs_Ufc_mk e10_39 (by omega) p50 p67 q67 ((p50 0 101 (fun q => absurd q.1 (by decide))).trans e9_39) p83 p97⟩)⟩⟩)⟩⟩
      · have f112 := (gr_b_0_3 hI37)
        refine gv_run 7 true hD (pcₚ := 235) (lvₚ := [(0, .inr (.inr (some 0))), (3, .inl v3_9), (4, .inl v4_29), (5, .inl v5_39)]) (stₚ := [.inl v5_39, .inl (4 * (I37 0 3)), .inr (.inr (some 7))]) (hₚ := gr_h I37 J38) (C := (((((((True ∧ True) ∧ True) ∧ True) ∧ True) ∧ True) ∧ True) ∧ True)) rfl ⟨⟨⟨⟨⟨⟨⟨trivial, trivial⟩, trivial⟩, trivial⟩, trivial⟩, trivial⟩, trivial⟩, trivial⟩ ?_
        have f113 := (gr_b_61 hI37 (Int.toNat v5_39))
        refine gv_run 5 true hD (pcₚ := 243) (lvₚ := [(0, .inr (.inr (some 0))), (3, .inl v3_9), (4, .inl v4_29), (5, .inl v5_39)]) (stₚ := [.inl (I37 61 (Int.toNat v5_39)), .inl ((4 * (I37 0 3)) + v5_39), .inr (.inr (some 7))]) (hₚ := gr_h I37 J38) (C := (((((True ∧ True) ∧ True) ∧ True) ∧ True) ∧ (0 ≤ v5_39 ∧ v5_39 < ((4 : Nat) : Int)))) rfl ⟨⟨⟨⟨⟨trivial, trivial⟩, trivial⟩, trivial⟩, trivial⟩, ⟨by omega, by omega⟩⟩ ?_
        refine gv_run 1 true hD (pcₚ := 244) (lvₚ := [(0, .inr (.inr (some 0))), (3, .inl v3_9), (4, .inl v4_29), (5, .inl v5_39)]) (stₚ := []) (hₚ := gz_up (gr_h I37 J38) 7 (Int.toNat (((4 * (I37 0 3)) + v5_39))) (.inl ((I37 61 (Int.toNat v5_39))))) (C := (True ∧ (0 ≤ (((4 * (I37 0 3)) + v5_39)) ∧ (((4 * (I37 0 3)) + v5_39)) < ((384 : Nat) : Int)))) rfl ⟨trivial, ⟨by omega, by omega⟩⟩ ?_
        refine gr_st hI37 FI37 rfl rfl ⟨⟨by show 0 ≤ _; omega, by show _ ≤ 31; omega⟩, trivial⟩ (fun I114 hI114 FI114 q115 p115 => ?_)
        have t116 := p115 0 71 (fun q => absurd q.1 (by decide))
        have t117 := p115 0 72 (fun q => absurd q.1 (by decide))
        have t118 := p115 0 73 (fun q => absurd q.1 (by decide))
        have t119 := p115 0 69 (fun q => absurd q.1 (by decide))
        have t120 := p115 0 3 (fun q => absurd q.1 (by decide))
        have t121 := p115 0 2 (fun q => absurd q.1 (by decide))
        have f122 := (gr_b_0_71 hI114)
        have f123 := (gr_b_0_72 hI114)
        have f124 := (gr_b_0_73 hI114)
        have f125 := (gr_b_0_69 hI114)
        have f126 := (gr_b_0_3 hI114)
        have f127 := (gr_b_0_2 hI114)
        have KGR_I114 := gr_GR_7 KGR_I37 p115 (by omega)
        have KST_I114 := gr_ST_fr KST_I37 (fun k => p115 6 k (fun q => absurd q.1 (by decide))) (fun k => p115 19 k (fun q => absurd q.1 (by decide))) (fun k => p115 18 k (fun q => absurd q.1 (by decide))) (fun k => p115 41 k (fun q => absurd q.1 (by decide))) (fun k => p115 36 k (fun q => absurd q.1 (by decide))) (p115 0 3 (fun q => absurd q.1 (by decide)))
        have KTO_I114 := gr_TO_fr KTO_I37 (fun k => p115 52 k (fun q => absurd q.1 (by decide))) (fun k => p115 53 k (fun q => absurd q.1 (by decide))) (fun k => p115 54 k (fun q => absurd q.1 (by decide))) (fun k => p115 55 k (fun q => absurd q.1 (by decide))) (fun k => p115 6 k (fun q => absurd q.1 (by decide))) (p115 0 64 (fun q => absurd q.1 (by decide))) (p115 0 3 (fun q => absurd q.1 (by decide)))
        have KFM_I114 := gr_FM_fr KFM_I37 (fun k => p115 10 k (fun q => absurd q.1 (by decide))) (fun k => p115 55 k (fun q => absurd q.1 (by decide))) (fun k => p115 52 k (fun q => absurd q.1 (by decide))) (fun k => p115 53 k (fun q => absurd q.1 (by decide))) (fun k => p115 54 k (fun q => absurd q.1 (by decide))) (p115 0 64 (fun q => absurd q.1 (by decide))) (p115 0 3 (fun q => absurd q.1 (by decide)))
        have KMQ_I114 := gr_MQ_fr KMQ_I37 (fun k => p115 10 k (fun q => absurd q.1 (by decide))) (fun k => p115 55 k (fun q => absurd q.1 (by decide))) (fun k => p115 52 k (fun q => absurd q.1 (by decide))) (fun k => p115 53 k (fun q => absurd q.1 (by decide))) (fun k => p115 54 k (fun q => absurd q.1 (by decide))) (fun k => p115 60 k (fun q => absurd q.1 (by decide))) (p115 0 64 (fun q => absurd q.1 (by decide))) (p115 0 3 (fun q => absurd q.1 (by decide))) (p115 0 99 (fun q => absurd q.1 (by decide)))
        have A128 := gr_ATp_sr e2_39 p115 rfl
        refine gv_run 2 true hD (pcₚ := 217) (lvₚ := [(5, .inl (v5_39 + 1)), (0, .inr (.inr (some 0))), (3, .inl v3_9), (4, .inl v4_29)]) (stₚ := []) (hₚ := gr_h I114 J38) (C := ((True ∧ True) ∧ True)) rfl ⟨⟨trivial, trivial⟩, trivial⟩ ?_
        refine gv_pick [1, 2, 3, 0] rfl ?_
        exact ih217 I114 J38 (v5_39 + 1) p_39 (by omega) hI114 FI114 FJ38 KGR_I114 KST_I114 KTO_I114 KFM_I114 KMQ_I114 (by omega) A128 e3_39 e4_39 e5_39 (by rw [show Int.toNat (v5_39 + 1) = Int.toNat v5_39 + 1 from by omega]; exact gs_Ufl_s e6_39 (by omega) (by omega) rfl p115 q115) (by omega) (by omega) (((p115 0 101 (fun q => absurd q.1 (by decide)))).trans e9_39) (fun k => ((p115 9 k (fun q => absurd q.1 (by decide))).trans (e10_39 k)))
  refine gv_run 1 true hD (pcₚ := 195) (lvₚ := [(0, .inr (.inr (some 0))), (1, .inr (.inl v1_9)), (3, .inl v3_9), (4, .inl v4_29)]) (stₚ := [.inr (.inr (some 0))]) (hₚ := gr_h I27 J28) (C := (True ∧ True)) rfl ⟨trivial, trivial⟩ ?_
  have t129 := (show I27 0 3 = I 0 3 from (e9_29.1))
  have f130 := (gr_b_0_3 hI27)
  refine gv_run 4 true hD (pcₚ := 203) (lvₚ := [(0, .inr (.inr (some 0))), (1, .inr (.inl v1_9)), (3, .inl v3_9), (4, .inl v4_29)]) (stₚ := [.inr (.inl v1_9), .inl (I27 0 3), .inr (.inr (some 3))]) (hₚ := gr_h I27 J28) (C := ((((True ∧ True) ∧ True) ∧ True) ∧ True)) rfl ⟨⟨⟨⟨trivial, trivial⟩, trivial⟩, trivial⟩, trivial⟩ ?_
  refine gv_run 1 true hD (pcₚ := 204) (lvₚ := [(0, .inr (.inr (some 0))), (1, .inr (.inl v1_9)), (3, .inl v3_9), (4, .inl v4_29)]) (stₚ := []) (hₚ := gz_up (gr_h I27 J28) 3 (Int.toNat ((I27 0 3))) (.inr (.inl v1_9))) (C := (True ∧ (0 ≤ (I27 0 3) ∧ (I27 0 3) < ((96 : Nat) : Int)))) rfl ⟨trivial, ⟨by omega, by omega⟩⟩ ?_
  refine gr_stJq FJ28 rfl rfl (fun J131 FJ131 q132 p132 => ?_)
  have A133 := gr_ATp_sj' e2_29 p132 rfl
  have f134 := (gr_b_0_3 hI27)
  refine gv_run 5 true hD (pcₚ := 213) (lvₚ := [(0, .inr (.inr (some 0))), (1, .inr (.inl v1_9)), (3, .inl v3_9), (4, .inl v4_29)]) (stₚ := [.inl v3_9, .inl (I27 0 3), .inr (.inr (some 6))]) (hₚ := gr_h I27 J131) (C := (((((True ∧ True) ∧ True) ∧ True) ∧ True) ∧ True)) rfl ⟨⟨⟨⟨⟨trivial, trivial⟩, trivial⟩, trivial⟩, trivial⟩, trivial⟩ ?_
  refine gv_run 1 true hD (pcₚ := 214) (lvₚ := [(0, .inr (.inr (some 0))), (1, .inr (.inl v1_9)), (3, .inl v3_9), (4, .inl v4_29)]) (stₚ := []) (hₚ := gz_up (gr_h I27 J131) 6 (Int.toNat ((I27 0 3))) (.inl v3_9)) (C := (True ∧ (0 ≤ (I27 0 3) ∧ (I27 0 3) < ((96 : Nat) : Int)))) rfl ⟨trivial, ⟨by omega, by omega⟩⟩ ?_
  refine gr_st hI27 FI27 rfl rfl ⟨⟨by show 0 ≤ _; omega, by show _ ≤ 4; omega⟩, trivial⟩ (fun I135 hI135 FI135 q136 p136 => ?_)
  have t137 := p136 0 71 (fun q => absurd q.1 (by decide))
  have t138 := p136 0 72 (fun q => absurd q.1 (by decide))
  have t139 := p136 0 73 (fun q => absurd q.1 (by decide))
  have t140 := p136 0 69 (fun q => absurd q.1 (by decide))
  have t141 := p136 0 3 (fun q => absurd q.1 (by decide))
  have t142 := p136 0 2 (fun q => absurd q.1 (by decide))
  have f143 := (gr_b_0_71 hI135)
  have f144 := (gr_b_0_72 hI135)
  have f145 := (gr_b_0_73 hI135)
  have f146 := (gr_b_0_69 hI135)
  have f147 := (gr_b_0_3 hI135)
  have f148 := (gr_b_0_2 hI135)
  have KGR_I135 := gr_GR_6 KGR_I27 p136 (by omega)
  have KST_I135 := gr_ST_6 KST_I27 p136 (by omega)
  have KTO_I135 := gr_TO_6 KTO_I27 p136 (by omega)
  have KFM_I135 := gr_FM_fr KFM_I27 (fun k => p136 10 k (fun q => absurd q.1 (by decide))) (fun k => p136 55 k (fun q => absurd q.1 (by decide))) (fun k => p136 52 k (fun q => absurd q.1 (by decide))) (fun k => p136 53 k (fun q => absurd q.1 (by decide))) (fun k => p136 54 k (fun q => absurd q.1 (by decide))) (p136 0 64 (fun q => absurd q.1 (by decide))) (p136 0 3 (fun q => absurd q.1 (by decide)))
  have KMQ_I135 := gr_MQ_fr KMQ_I27 (fun k => p136 10 k (fun q => absurd q.1 (by decide))) (fun k => p136 55 k (fun q => absurd q.1 (by decide))) (fun k => p136 52 k (fun q => absurd q.1 (by decide))) (fun k => p136 53 k (fun q => absurd q.1 (by decide))) (fun k => p136 54 k (fun q => absurd q.1 (by decide))) (fun k => p136 60 k (fun q => absurd q.1 (by decide))) (p136 0 64 (fun q => absurd q.1 (by decide))) (p136 0 3 (fun q => absurd q.1 (by decide))) (p136 0 99 (fun q => absurd q.1 (by decide)))
  have A149 := gr_ATp_sr A133 p136 rfl
  refine gv_run 2 true hD (pcₚ := 217) (lvₚ := [(5, .inl 0), (0, .inr (.inr (some 0))), (1, .inr (.inl v1_9)), (3, .inl v3_9), (4, .inl v4_29)]) (stₚ := []) (hₚ := gr_h I135 J131) (C := ((True ∧ True) ∧ True)) rfl ⟨⟨trivial, trivial⟩, trivial⟩ ?_
  refine gv_pick [1, 3, 4, 0] rfl ?_
  exact L217 _ I135 J131 0 p_29 (Nat.lt_succ_self _) hI135 FI135 FJ131 KGR_I135 KST_I135 KTO_I135 KFM_I135 KMQ_I135 (by omega) A149 e4_29 e6_29 e5_29 (gs_Ufl_0 ⟨(e9_29.1), fun j => ⟨(e9_29.2.1 j), (e9_29.2.2.1 j), (e9_29.2.2.2.1 j), (e9_29.2.2.2.2.1 j), (e9_29.2.2.2.2.2.1 j), (e9_29.2.2.2.2.2.2 j)⟩⟩ (fun i hi => (rfl).trans (e7_29 i (by omega))) (by omega) p132 (q132.trans e3_29) (by omega) p136 q136) ((p136 0 3 (fun q => absurd q.1 (by decide))).trans (e9_29.1)) (by omega) (((p136 0 101 (fun q => absurd q.1 (by decide)))).trans e8_29) (fun k => ((p136 9 k (fun q => absurd q.1 (by decide))).trans (e9_29.2.2.2.2.2.2 k)))
set_option maxHeartbeats 32000000 in
set_option maxRecDepth 100000 in
theorem r_fun_p {ws0 : List Cond} {tb : String → gz_T} (hws : ∀ w ∈ gr_ws, w ∈ ws0) (htb : tb RX13 = gr_T) (ext : gz_Sh) (I9 : gr_I) (β : Int → Int) (N9 : Int) (p9 : Int) (I : gr_I) (J : gr_J) (hI : gr_Inv I)   (x0 : I 0 71 = 5 ∨ I 0 73 ≤ I 0 69) (x1 : I 0 72 ≤ I 0 69) (x2 : I 0 71 = 0 ∨ (I 0 72 < I 0 73 ∧ I 0 72 < I 0 69)) (x3 : I 0 71 = 3 → 2 ≤ I 0 73 - I 0 72 ∧ I 0 73 - I 0 72 ≤ 14) (x4 : I 0 72 ≤ I 0 73) (x5 : 0 ≤ I9 0 64) (x6 : gr_ATp β N9 p9 I J) (x7 : 0 ≤ p9) (x8 : gr_KW J) (KGR_I : gr_GR I) (KST_I : gr_ST I9 I) (KTO_I : gr_TO I) (KFM_I : gr_FM I) (KMQ_I : gr_MQ I9 I) : ∃ r hₚ, gz_Ev ws0 tb 12 (yX13_fun, cX13_fun, 6, (some .boolean)) [.inr (.inr (some 0))] (gr_sh ++ ext) (gr_h I J) r (gr_sh ++ ext) hₚ 0 0 ∧ (∃ (Iₚ : gr_I) (Jₚ : gr_J), hₚ = gr_h Iₚ Jₚ ∧ gr_Inv Iₚ ∧ gr_fr [3, 71, 72, 73, 74, 75, 76, 77, 101] [3, 6, 7, 8, 9, 10, 61] I Iₚ ∧ gr_fj [3, 71, 72, 73, 74, 75, 76, 77, 101] [3, 6, 7, 8, 9, 10, 61] J Jₚ ∧ gr_GR Iₚ ∧ gr_ST I9 Iₚ ∧ gr_TO Iₚ ∧ gr_FM Iₚ ∧ gr_MQ I9 Iₚ ∧ (∃ z : Int, r = some (.inl z) ∧ 0 ≤ z ∧ z ≤ 1 ∧ (Iₚ 0 71 = 5 ∨ Iₚ 0 73 ≤ Iₚ 0 69) ∧ (Iₚ 0 72 ≤ Iₚ 0 69) ∧ (Iₚ 0 71 = 0 ∨ (Iₚ 0 72 < Iₚ 0 73 ∧ Iₚ 0 72 < Iₚ 0 69)) ∧ (Iₚ 0 71 = 3 → 2 ≤ Iₚ 0 73 - Iₚ 0 72 ∧ Iₚ 0 73 - Iₚ 0 72 ≤ 14) ∧ (Iₚ 0 72 ≤ Iₚ 0 73) ∧ (Iₚ 0 69 = I 0 69) ∧ (I 0 73 ≤ Iₚ 0 73) ∧ (I 0 72 ≤ Iₚ 0 72) ∧ (gs_Or z (0 ≤ (gs_fun β N9 I J (I 0 78) p9) ∧ gr_ATp β N9 (gs_fun β N9 I J (I 0 78) p9) Iₚ Jₚ ∧ gs_Ufun (gs_rn β N9 p9) (gs_cn β N9 5 (gs_need β N9 58 (gs_X β N9 p9))) (fun i => gs_lk I J 2 2 (gs_rn β N9 (gs_nx β N9 i (gs_need β N9 58 (gs_X β N9 p9))))) (gs_lk I J 2 2 (gs_rn β N9 (gs_need β N9 62 (gs_fl β N9 I J 4 (gs_need β N9 58 (gs_X β N9 p9)))))) I J Iₚ Jₚ ∧ gs_Ufc (gs_prc β N9 (gs_X β N9 (gs_need β N9 62 (gs_fl β N9 I J 4 (gs_need β N9 58 (gs_X β N9 p9)))))) I Iₚ) ((gs_fun β N9 I J (I 0 78) p9) < 0 ∧ Iₚ 0 77 = -1 - (gs_fun β N9 I J (I 0 78) p9) ∧ gs_Sfun I J Iₚ Jₚ)))) := by
  have FI : gr_fr [3, 71, 72, 73, 74, 75, 76, 77, 101] [3, 6, 7, 8, 9, 10, 61] I I := fun _ _ _ => rfl
  have FJ : gr_fj [3, 71, 72, 73, 74, 75, 76, 77, 101] [3, 6, 7, 8, 9, 10, 61] J J := fun _ _ _ => rfl
  have hD : gv_D (gr_E ws0 tb 11 (yX13_fun, cX13_fun, 6, (some .boolean)) kX13_fun) := gq_of oX13_fun
  refine gr_ev (d := 11) (l := kX13_fun) (Po := fun r hₚ => (∃ (Iₚ : gr_I) (Jₚ : gr_J), hₚ = gr_h Iₚ Jₚ ∧ gr_Inv Iₚ ∧ gr_fr [3, 71, 72, 73, 74, 75, 76, 77, 101] [3, 6, 7, 8, 9, 10, 61] I Iₚ ∧ gr_fj [3, 71, 72, 73, 74, 75, 76, 77, 101] [3, 6, 7, 8, 9, 10, 61] J Jₚ ∧ gr_GR Iₚ ∧ gr_ST I9 Iₚ ∧ gr_TO Iₚ ∧ gr_FM Iₚ ∧ gr_MQ I9 Iₚ ∧ (∃ z : Int, r = some (.inl z) ∧ 0 ≤ z ∧ z ≤ 1 ∧ (Iₚ 0 71 = 5 ∨ Iₚ 0 73 ≤ Iₚ 0 69) ∧ (Iₚ 0 72 ≤ Iₚ 0 69) ∧ (Iₚ 0 71 = 0 ∨ (Iₚ 0 72 < Iₚ 0 73 ∧ Iₚ 0 72 < Iₚ 0 69)) ∧ (Iₚ 0 71 = 3 → 2 ≤ Iₚ 0 73 - Iₚ 0 72 ∧ Iₚ 0 73 - Iₚ 0 72 ≤ 14) ∧ (Iₚ 0 72 ≤ Iₚ 0 73) ∧ (Iₚ 0 69 = I 0 69) ∧ (I 0 73 ≤ Iₚ 0 73) ∧ (I 0 72 ≤ Iₚ 0 72) ∧ (gs_Or z (0 ≤ (gs_fun β N9 I J (I 0 78) p9) ∧ gr_ATp β N9 (gs_fun β N9 I J (I 0 78) p9) Iₚ Jₚ ∧ gs_Ufun (gs_rn β N9 p9) (gs_cn β N9 5 (gs_need β N9 58 (gs_X β N9 p9))) (fun i => gs_lk I J 2 2 (gs_rn β N9 (gs_nx β N9 i (gs_need β N9 58 (gs_X β N9 p9))))) (gs_lk I J 2 2 (gs_rn β N9 (gs_need β N9 62 (gs_fl β N9 I J 4 (gs_need β N9 58 (gs_X β N9 p9)))))) I J Iₚ Jₚ ∧ gs_Ufc (gs_prc β N9 (gs_X β N9 (gs_need β N9 62 (gs_fl β N9 I J 4 (gs_need β N9 58 (gs_X β N9 p9)))))) I Iₚ) ((gs_fun β N9 I J (I 0 78) p9) < 0 ∧ Iₚ 0 77 = -1 - (gs_fun β N9 I J (I 0 78) p9) ∧ gs_Sfun I J Iₚ Jₚ))))) htb rfl (Nat.le_of_ble_eq_true rfl) ?_
  have tAT := gr_ATp_l x6
  have KW := x8
  have f1 := (gr_b_0_71 hI)
  have f2 := (gr_b_0_72 hI)
  have f3 := (gr_b_0_73 hI)
  have f4 := (gr_b_0_69 hI)
  have f5 := (gr_b_0_3 hI)
  have f6 := (gr_b_0_2 hI)
  have L53 : ∀ (n : Nat) (I7 : gr_I) (J8 : gr_J) (v1_9 : Int64) (v3_9 : Int) (p_9 : Int), (1001 - I7 0 72).toNat < n → gr_Inv I7 → gr_fr [3, 71, 72, 73, 74, 75, 76, 77, 101] [3, 6, 7, 8, 9, 10, 61] I I7 → gr_fj [3, 71, 72, 73, 74, 75, 76, 77, 101] [3, 6, 7, 8, 9, 10, 61] J J8 → gr_GR I7 → gr_ST I9 I7 → gr_TO I7 → gr_FM I7 → gr_MQ I9 I7 → ((0 ≤ v3_9 ∧ v3_9 ≤ 4) ∧ (0 ≤ p_9) ∧ (I7 0 71 = 5 ∨ I7 0 73 ≤ I7 0 69) ∧ (I7 0 72 ≤ I7 0 69) ∧ (I7 0 71 = 0 ∨ (I7 0 72 < I7 0 73 ∧ I7 0 72 < I7 0 69)) ∧ (I7 0 71 = 3 → 2 ≤ I7 0 73 - I7 0 72 ∧ I7 0 73 - I7 0 72 ≤ 14) ∧ (I7 0 72 ≤ I7 0 73) ∧ (I7 0 69 = I 0 69) ∧ (I 0 73 ≤ I7 0 73) ∧ (I 0 72 ≤ I7 0 72)) → (gr_ATp β N9 p_9 I7 J8) → (v1_9 = (gs_rn β N9 p9)) → ((gs_fun β N9 I J (I 0 78) p9) = gs_fun1 β N9 I J (I 0 78) (gs_fl β N9 I J 4 (gs_need β N9 58 (gs_X β N9 p9)))) → (gs_fl β N9 I J 4 (gs_need β N9 58 (gs_X β N9 p9)) = gs_fl β N9 I J (Int.toNat (4 - v3_9)) p_9) → (gs_cn β N9 5 (gs_need β N9 58 (gs_X β N9 p9)) = v3_9 + gs_cn β N9 (Int.toNat (5 - v3_9)) p_9) → (p_9 = gs_nx β N9 (Int.toNat v3_9) (gs_need β N9 58 (gs_X β N9 p9))) → (∀ i : Nat, i < Int.toNat v3_9 → I7 61 i = gs_lk I J 2 2 (gs_rn β N9 (gs_nx β N9 i (gs_need β N9 58 (gs_X β N9 p9))))) → (I7 0 3 = I 0 3 ∧ (∀ k, J8 3 k = J 3 k) ∧ (∀ k, I7 6 k = I 6 k) ∧ (∀ k, I7 7 k = I 7 k) ∧ (∀ k, I7 8 k = I 8 k) ∧ (∀ k, I7 10 k = I 10 k) ∧ (∀ k, I7 9 k = I 9 k)) → gv_X (gr_E ws0 tb 11 (yX13_fun, cX13_fun, 6, (some .boolean)) kX13_fun) (gv_Q cX13_fun (some .boolean) (gr_sh ++ ext) (fun r hₚ => (∃ (Iₚ : gr_I) (Jₚ : gr_J), hₚ = gr_h Iₚ Jₚ ∧ gr_Inv Iₚ ∧ gr_fr [3, 71, 72, 73, 74, 75, 76, 77, 101] [3, 6, 7, 8, 9, 10, 61] I Iₚ ∧ gr_fj [3, 71, 72, 73, 74, 75, 76, 77, 101] [3, 6, 7, 8, 9, 10, 61] J Jₚ ∧ gr_GR Iₚ ∧ gr_ST I9 Iₚ ∧ gr_TO Iₚ ∧ gr_FM Iₚ ∧ gr_MQ I9 Iₚ ∧ (∃ z : Int, r = some (.inl z) ∧ 0 ≤ z ∧ z ≤ 1 ∧ (Iₚ 0 71 = 5 ∨ Iₚ 0 73 ≤ Iₚ 0 69) ∧ (Iₚ 0 72 ≤ Iₚ 0 69) ∧ (Iₚ 0 71 = 0 ∨ (Iₚ 0 72 < Iₚ 0 73 ∧ Iₚ 0 72 < Iₚ 0 69)) ∧ (Iₚ 0 71 = 3 → 2 ≤ Iₚ 0 73 - Iₚ 0 72 ∧ Iₚ 0 73 - Iₚ 0 72 ≤ 14) ∧ (Iₚ 0 72 ≤ Iₚ 0 73) ∧ (Iₚ 0 69 = I 0 69) ∧ (I 0 73 ≤ Iₚ 0 73) ∧ (I 0 72 ≤ Iₚ 0 72) ∧ (gs_Or z (0 ≤ (gs_fun β N9 I J (I 0 78) p9) ∧ gr_ATp β N9 (gs_fun β N9 I J (I 0 78) p9) Iₚ Jₚ ∧ gs_Ufun (gs_rn β N9 p9) (gs_cn β N9 5 (gs_need β N9 58 (gs_X β N9 p9))) (fun i => gs_lk I J 2 2 (gs_rn β N9 (gs_nx β N9 i (gs_need β N9 58 (gs_X β N9 p9))))) (gs_lk I J 2 2 (gs_rn β N9 (gs_need β N9 62 (gs_fl β N9 I J 4 (gs_need β N9 58 (gs_X β N9 p9)))))) I J Iₚ Jₚ ∧ gs_Ufc (gs_prc β N9 (gs_X β N9 (gs_need β N9 62 (gs_fl β N9 I J 4 (gs_need β N9 58 (gs_X β N9 p9)))))) I Iₚ) ((gs_fun β N9 I J (I 0 78) p9) < 0 ∧ Iₚ 0 77 = -1 - (gs_fun β N9 I J (I 0 78) p9) ∧ gs_Sfun I J Iₚ Jₚ)))))) (53, [(0, .inr (.inr (some 0))), (1, .inr (.inl v1_9)), (3, .inl v3_9)], [], gr_sh ++ ext, gr_h I7 J8) := by
    intro n
    induction n with
    | zero => intro I7 J8 v1_9 v3_9 p_9 hn; omega
    | succ n ih53 =>
      intro I7 J8 v1_9 v3_9 p_9 hn hI7 FI7 FJ8 KGR_I7 KST_I7 KTO_I7 KFM_I7 KMQ_I7 m_9 e1_9 e2_9 e3_9 e4_9 e5_9 e6_9 e7_9 e8_9
      obtain ⟨hv3_9, e0_9, e9_9, e10_9, e11_9, e12_9, e13_9, e14_9, e15_9, e16_9⟩ := m_9
      have f10 := (gr_b_0_71 hI7)
      have f11 := (gr_b_0_72 hI7)
      have f12 := (gr_b_0_73 hI7)
      have f13 := (gr_b_0_69 hI7)
      have f14 := (gr_b_0_3 hI7)
      have f15 := (gr_b_0_2 hI7)
      have t16 := gr_ATp_l e1_9
      have L131 : ∀ (I17 : gr_I) (J18 : gr_J) (p_19 : Int), gr_Inv I17 → gr_fr [3, 71, 72, 73, 74, 75, 76, 77, 101] [3, 6, 7, 8, 9, 10, 61] I I17 → gr_fj [3, 71, 72, 73, 74, 75, 76, 77, 101] [3, 6, 7, 8, 9, 10, 61] J J18 → gr_GR I17 → gr_ST I9 I17 → gr_TO I17 → gr_FM I17 → gr_MQ I9 I17 → ((0 ≤ v3_9 ∧ v3_9 ≤ 4) ∧ (I17 0 71 = 1) ∧ (0 ≤ p_19) ∧ (I17 0 71 = 5 ∨ I17 0 73 ≤ I17 0 69) ∧ (I17 0 72 ≤ I17 0 69) ∧ (I17 0 71 = 0 ∨ (I17 0 72 < I17 0 73 ∧ I17 0 72 < I17 0 69)) ∧ (I17 0 71 = 3 → 2 ≤ I17 0 73 - I17 0 72 ∧ I17 0 73 - I17 0 72 ≤ 14) ∧ (I17 0 72 ≤ I17 0 73) ∧ (I17 0 69 = I 0 69) ∧ (I 0 73 ≤ I17 0 73) ∧ (I 0 72 ≤ I17 0 72)) → (gr_ATp β N9 p_19 I17 J18) → (v1_9 = (gs_rn β N9 p9)) → ((gs_fun β N9 I J (I 0 78) p9) = gs_fun2 β N9 I J (I 0 78) p_19) → (p_19 = (gs_need β N9 62 (gs_fl β N9 I J 4 (gs_need β N9 58 (gs_X β N9 p9))))) → (v3_9 = gs_cn β N9 5 (gs_need β N9 58 (gs_X β N9 p9))) → (∀ i : Nat, i < Int.toNat v3_9 → I17 61 i = gs_lk I J 2 2 (gs_rn β N9 (gs_nx β N9 i (gs_need β N9 58 (gs_X β N9 p9))))) → (gs_T β N9 p_19 = 1) → (I17 0 3 = I 0 3 ∧ (∀ k, J18 3 k = J 3 k) ∧ (∀ k, I17 6 k = I 6 k) ∧ (∀ k, I17 7 k = I 7 k) ∧ (∀ k, I17 8 k = I 8 k) ∧ (∀ k, I17 10 k = I 10 k) ∧ (∀ k, I17 9 k = I 9 k)) → gv_X (gr_E ws0 tb 11 (yX13_fun, cX13_fun, 6, (some .boolean)) kX13_fun) (gv_Q cX13_fun (some .boolean) (gr_sh ++ ext) (fun r hₚ => (∃ (Iₚ : gr_I) (Jₚ : gr_J), hₚ = gr_h Iₚ Jₚ ∧ gr_Inv Iₚ ∧ gr_fr [3, 71, 72, 73, 74, 75, 76, 77, 101] [3, 6, 7, 8, 9, 10, 61] I Iₚ ∧ gr_fj [3, 71, 72, 73, 74, 75, 76, 77, 101] [3, 6, 7, 8, 9, 10, 61] J Jₚ ∧ gr_GR Iₚ ∧ gr_ST I9 Iₚ ∧ gr_TO Iₚ ∧ gr_FM Iₚ ∧ gr_MQ I9 Iₚ ∧ (∃ z : Int, r = some (.inl z) ∧ 0 ≤ z ∧ z ≤ 1 ∧ (Iₚ 0 71 = 5 ∨ Iₚ 0 73 ≤ Iₚ 0 69) ∧ (Iₚ 0 72 ≤ Iₚ 0 69) ∧ (Iₚ 0 71 = 0 ∨ (Iₚ 0 72 < Iₚ 0 73 ∧ Iₚ 0 72 < Iₚ 0 69)) ∧ (Iₚ 0 71 = 3 → 2 ≤ Iₚ 0 73 - Iₚ 0 72 ∧ Iₚ 0 73 - Iₚ 0 72 ≤ 14) ∧ (Iₚ 0 72 ≤ Iₚ 0 73) ∧ (Iₚ 0 69 = I 0 69) ∧ (I 0 73 ≤ Iₚ 0 73) ∧ (I 0 72 ≤ Iₚ 0 72) ∧ (gs_Or z (0 ≤ (gs_fun β N9 I J (I 0 78) p9) ∧ gr_ATp β N9 (gs_fun β N9 I J (I 0 78) p9) Iₚ Jₚ ∧ gs_Ufun (gs_rn β N9 p9) (gs_cn β N9 5 (gs_need β N9 58 (gs_X β N9 p9))) (fun i => gs_lk I J 2 2 (gs_rn β N9 (gs_nx β N9 i (gs_need β N9 58 (gs_X β N9 p9))))) (gs_lk I J 2 2 (gs_rn β N9 (gs_need β N9 62 (gs_fl β N9 I J 4 (gs_need β N9 58 (gs_X β N9 p9)))))) I J Iₚ Jₚ ∧ gs_Ufc (gs_prc β N9 (gs_X β N9 (gs_need β N9 62 (gs_fl β N9 I J 4 (gs_need β N9 58 (gs_X β N9 p9)))))) I Iₚ) ((gs_fun β N9 I J (I 0 78) p9) < 0 ∧ Iₚ 0 77 = -1 - (gs_fun β N9 I J (I 0 78) p9) ∧ gs_Sfun I J Iₚ Jₚ)))))) (131, [(0, .inr (.inr (some 0))), (1, .inr (.inl v1_9)), (3, .inl v3_9)], [], gr_sh ++ ext, gr_h I17 J18) := by
        intro I17 J18 p_19 hI17 FI17 FJ18 KGR_I17 KST_I17 KTO_I17 KFM_I17 KMQ_I17 m_19 e2_19 e3_19 e4_19 e5_19 e6_19 e7_19 e8_19 e9_19
        clear hv3_9 e0_9 e9_9 e10_9 e11_9 e12_9 e13_9 e14_9 e15_9 e16_9 f10 f11 f12 f13 f14 f15 t16
        obtain ⟨hv3_9_19, e0_19, e1_19, e10_19, e11_19, e12_19, e13_19, e14_19, e15_19, e16_19, e17_19⟩ := m_19
        have f20 := (gr_b_0_71 hI17)
        have f21 := (gr_b_0_72 hI17)
        have f22 := (gr_b_0_73 hI17)
        have f23 := (gr_b_0_69 hI17)
        have f24 := (gr_b_0_3 hI17)
        have f25 := (gr_b_0_2 hI17)
        have t26 := gr_ATp_l e2_19
        have L194 : ∀ (I27 : gr_I) (J28 : gr_J) (v4_29 : Int) (p_29 : Int), gr_Inv I27 → gr_fr [3, 71, 72, 73, 74, 75, 76, 77, 101] [3, 6, 7, 8, 9, 10, 61] I I27 → gr_fj [3, 71, 72, 73, 74, 75, 76, 77, 101] [3, 6, 7, 8, 9, 10, 61] J J28 → gr_GR I27 → gr_ST I9 I27 → gr_TO I27 → gr_FM I27 → gr_MQ I9 I27 → ((0 ≤ v3_9 ∧ v3_9 ≤ 4) ∧ (0 ≤ v4_29 ∧ v4_29 ≤ 31) ∧ (I27 0 3 ≤ 95) ∧ (0 ≤ p_29) ∧ (I27 0 71 = 5 ∨ I27 0 73 ≤ I27 0 69) ∧ (I27 0 72 ≤ I27 0 69) ∧ (I27 0 71 = 0 ∨ (I27 0 72 < I27 0 73 ∧ I27 0 72 < I27 0 69)) ∧ (I27 0 71 = 3 → 2 ≤ I27 0 73 - I27 0 72 ∧ I27 0 73 - I27 0 72 ≤ 14) ∧ (I27 0 72 ≤ I27 0 73) ∧ (I27 0 69 = I 0 69) ∧ (I 0 73 ≤ I27 0 73) ∧ (I 0 72 ≤ I27 0 72)) → (gr_ATp β N9 p_29 I27 J28) → (v1_9 = (gs_rn β N9 p9)) → ((gs_fun β N9 I J (I 0 78) p9) = p_29) → (v4_29 = gs_lk I J 2 2 (gs_rn β N9 (gs_need β N9 62 (gs_fl β N9 I J 4 (gs_need β N9 58 (gs_X β N9 p9)))))) → (v3_9 = gs_cn β N9 5 (gs_need β N9 58 (gs_X β N9 p9))) → (∀ i : Nat, i < Int.toNat v3_9 → I27 61 i = gs_lk I J 2 2 (gs_rn β N9 (gs_nx β N9 i (gs_need β N9 58 (gs_X β N9 p9))))) → (I27 0 101 = gs_prc β N9 (gs_X β N9 (gs_need β N9 62 (gs_fl β N9 I J 4 (gs_need β N9 58 (gs_X β N9 p9)))))) → (I27 0 3 = I 0 3 ∧ (∀ k, J28 3 k = J 3 k) ∧ (∀ k, I27 6 k = I 6 k) ∧ (∀ k, I27 7 k = I 7 k) ∧ (∀ k, I27 8 k = I 8 k) ∧ (∀ k, I27 10 k = I 10 k) ∧ (∀ k, I27 9 k = I 9 k)) → gv_X (gr_E ws0 tb 11 (yX13_fun, cX13_fun, 6, (some .boolean)) kX13_fun) (gv_Q cX13_fun (some .boolean) (gr_sh ++ ext) (fun r hₚ => (∃ (Iₚ : gr_I) (Jₚ : gr_J), hₚ = gr_h Iₚ Jₚ ∧ gr_Inv Iₚ ∧ gr_fr [3, 71, 72, 73, 74, 75, 76, 77, 101] [3, 6, 7, 8, 9, 10, 61] I Iₚ ∧ gr_fj [3, 71, 72, 73, 74, 75, 76, 77, 101] [3, 6, 7, 8, 9, 10, 61] J Jₚ ∧ gr_GR Iₚ ∧ gr_ST I9 Iₚ ∧ gr_TO Iₚ ∧ gr_FM Iₚ ∧ gr_MQ I9 Iₚ ∧ (∃ z : Int, r = some (.inl z) ∧ 0 ≤ z ∧ z ≤ 1 ∧ (Iₚ 0 71 = 5 ∨ Iₚ 0 73 ≤ Iₚ 0 69) ∧ (Iₚ 0 72 ≤ Iₚ 0 69) ∧ (Iₚ 0 71 = 0 ∨ (Iₚ 0 72 < Iₚ 0 73 ∧ Iₚ 0 72 < Iₚ 0 69)) ∧ (Iₚ 0 71 = 3 → 2 ≤ Iₚ 0 73 - Iₚ 0 72 ∧ Iₚ 0 73 - Iₚ 0 72 ≤ 14) ∧ (Iₚ 0 72 ≤ Iₚ 0 73) ∧ (Iₚ 0 69 = I 0 69) ∧ (I 0 73 ≤ Iₚ 0 73) ∧ (I 0 72 ≤ Iₚ 0 72) ∧ (gs_Or z (0 ≤ (gs_fun β N9 I J (I 0 78) p9) ∧ gr_ATp β N9 (gs_fun β N9 I J (I 0 78) p9) Iₚ Jₚ ∧ gs_Ufun (gs_rn β N9 p9) (gs_cn β N9 5 (gs_need β N9 58 (gs_X β N9 p9))) (fun i => gs_lk I J 2 2 (gs_rn β N9 (gs_nx β N9 i (gs_need β N9 58 (gs_X β N9 p9))))) (gs_lk I J 2 2 (gs_rn β N9 (gs_need β N9 62 (gs_fl β N9 I J 4 (gs_need β N9 58 (gs_X β N9 p9)))))) I J Iₚ Jₚ ∧ gs_Ufc (gs_prc β N9 (gs_X β N9 (gs_need β N9 62 (gs_fl β N9 I J 4 (gs_need β N9 58 (gs_X β N9 p9)))))) I Iₚ) ((gs_fun β N9 I J (I 0 78) p9) < 0 ∧ Iₚ 0 77 = -1 - (gs_fun β N9 I J (I 0 78) p9) ∧ gs_Sfun I J Iₚ Jₚ)))))) (194, [(0, .inr (.inr (some 0))), (1, .inr (.inl v1_9)), (3, .inl v3_9), (4, .inl v4_29)], [], gr_sh ++ ext, gr_h I27 J28) := r_fun_p_L194 (ws0 := ws0) (tb := tb) hws htb ext I9 β N9 p9 I J hI x0 x1 x2 x3 x4 x5 x6 x7 x8 KGR_I KST_I KTO_I KFM_I KMQ_I v1_9 v3_9
        have f150 := (gr_b_0_2 hI17)
        refine gv_run 7 true hD (pcₚ := 144) (lvₚ := [(0, .inr (.inr (some 0))), (1, .inr (.inl v1_9)), (3, .inl v3_9)]) (stₚ := [.inr (.inl (J18 0 75)), .inl (I17 0 2), .inl 0, .inr (.inr (some 2))]) (hₚ := gr_h I17 J18) (C := (((((((True ∧ True) ∧ True) ∧ True) ∧ True) ∧ True) ∧ True) ∧ True)) rfl ⟨⟨⟨⟨⟨⟨⟨trivial, trivial⟩, trivial⟩, trivial⟩, trivial⟩, trivial⟩, trivial⟩, trivial⟩ ?_
        obtain ⟨r151, h151, E151, P151⟩ := r_find_2_p (ws0 := ws0) (tb := tb) hws htb ext I17 J18 hI17 0 (I17 0 2) (J18 0 75) ⟨by omega, by omega⟩ ⟨by omega, by omega⟩ (by omega)
        obtain ⟨rfl, ⟨z151, rfl, q151⟩⟩ := P151
        have t152 := q151.2.2.2.trans (gs_lk_eq (I := I) (J := J) (w := gs_rn β N9 p_19) (fun k => (FJ18 2 k rfl)) (FI17 0 2 rfl) (gr_ATp_w e2_19))
        refine gv_callS hD rfl (As := [.inr (.inr (some 2)), .inl 0, .inl (I17 0 2), .inr (.inl (J18 0 75))]) (st := []) rfl (gr_lS hws rfl) (Nat.le_of_ble_eq_true rfl) (gz_Ev_mono (d := 1) (by decide) E151) ?_
        show gv_X _ _ (147, [(0, .inr (.inr (some 0))), (1, .inr (.inl v1_9)), (3, .inl v3_9)], [.inl z151], gr_sh ++ ext, gr_h I17 J18)
        refine gv_run 2 true hD (pcₚ := 151) (lvₚ := [(4, .inl z151), (0, .inr (.inr (some 0))), (1, .inr (.inl v1_9)), (3, .inl v3_9)]) (stₚ := [.inl z151]) (hₚ := gr_h I17 J18) (C := ((True ∧ True) ∧ True)) rfl ⟨⟨trivial, trivial⟩, trivial⟩ ?_
        refine gv_if_ge (t := 160) hD rfl rfl ⟨by omega, by omega⟩ (fun c153 => ?_) (fun c153 => ?_)
        · refine gv_run 1 true hD (pcₚ := 161) (lvₚ := [(4, .inl z151), (0, .inr (.inr (some 0))), (1, .inr (.inl v1_9)), (3, .inl v3_9)]) (stₚ := [.inr (.inr (some 0))]) (hₚ := gr_h I17 J18) (C := (True ∧ True)) rfl ⟨trivial, trivial⟩ ?_
          obtain ⟨r154, h154, E154, P154⟩ := r_next_p (ws0 := ws0) (tb := tb) hws htb ext β N9 I17 J18 hI17   (by omega) e2_19.1.1 e2_19.1.2
          obtain ⟨I155, J156, rfl, hI155, g154, k154, ⟨rfl, q154⟩⟩ := P154
          have FI155 := gr_frt FI17 g154 rfl rfl
          have FJ156 := gr_fjt FJ18 k154 rfl rfl
          have t157 := g154 0 69 rfl
          have t158 := g154 0 3 rfl
          have t159 := g154 0 2 rfl
          have f160 := (gr_b_0_71 hI155)
          have f161 := (gr_b_0_72 hI155)
          have f162 := (gr_b_0_73 hI155)
          have f163 := (gr_b_0_69 hI155)
          have f164 := (gr_b_0_3 hI155)
          have f165 := (gr_b_0_2 hI155)
          have KGR_I155 := gr_GR_fr KGR_I17 (fun k => g154 19 k rfl) (fun k => g154 18 k rfl) (fun k => g154 36 k rfl) (fun k => g154 41 k rfl) (fun k => g154 42 k rfl) (fun k => g154 43 k rfl) (fun k => g154 45 k rfl) (fun k => g154 46 k rfl) (fun k => g154 47 k rfl) (fun k => g154 6 k rfl) (fun k => g154 7 k rfl) (fun k => g154 8 k rfl) (g154 0 3 rfl)
          have KST_I155 := gr_ST_fr KST_I17 (fun k => g154 6 k rfl) (fun k => g154 19 k rfl) (fun k => g154 18 k rfl) (fun k => g154 41 k rfl) (fun k => g154 36 k rfl) (g154 0 3 rfl)
          have KTO_I155 := gr_TO_fr KTO_I17 (fun k => g154 52 k rfl) (fun k => g154 53 k rfl) (fun k => g154 54 k rfl) (fun k => g154 55 k rfl) (fun k => g154 6 k rfl) (g154 0 64 rfl) (g154 0 3 rfl)
          have KFM_I155 := gr_FM_fr KFM_I17 (fun k => g154 10 k rfl) (fun k => g154 55 k rfl) (fun k => g154 52 k rfl) (fun k => g154 53 k rfl) (fun k => g154 54 k rfl) (g154 0 64 rfl) (g154 0 3 rfl)
          have KMQ_I155 := gr_MQ_fr KMQ_I17 (fun k => g154 10 k rfl) (fun k => g154 55 k rfl) (fun k => g154 52 k rfl) (fun k => g154 53 k rfl) (fun k => g154 54 k rfl) (fun k => g154 60 k rfl) (g154 0 64 rfl) (g154 0 3 rfl) (g154 0 99 rfl)
          have A166 := gr_ATp_nx e2_19 q154.2.2.2.2.2
          have t167 := gr_ATp_l A166
          refine gv_callV hD rfl (As := []) (st := []) rfl (by decide) rfl rfl (gr_lV hws rfl) (Nat.le_of_ble_eq_true rfl) (gz_Ev_mono (d := 10) (by decide) E154) ?_
          show gv_X _ _ (164, [(4, .inl z151), (0, .inr (.inr (some 0))), (1, .inr (.inl v1_9)), (3, .inl v3_9)], [], gr_sh ++ ext, gr_h I155 J156)
          refine gv_run 1 true hD (pcₚ := 165) (lvₚ := [(4, .inl z151), (0, .inr (.inr (some 0))), (1, .inr (.inl v1_9)), (3, .inl v3_9)]) (stₚ := [.inr (.inr (some 0))]) (hₚ := gr_h I155 J156) (C := (True ∧ True)) rfl ⟨trivial, trivial⟩ ?_
          obtain ⟨r168, h168, E168, P168⟩ := r_cost_p (ws0 := ws0) (tb := tb) hws htb ext β N9 (gs_X β N9 p_19) I155 J156 hI155   (by omega) (by omega) (by omega) (by omega) (by omega) A166 (by omega) (fun k h1 h2 => (FJ156 0 k (gs_kwF h1 h2 rfl)).trans (KW k h1 h2))
          obtain ⟨I169, J170, rfl, hI169, g168, k168, ⟨z168, rfl, q168⟩⟩ := P168
          have FI169 := gr_frt FI155 g168 rfl rfl
          have FJ170 := gr_fjt FJ156 k168 rfl rfl
          have t171 := g168 0 69 rfl
          have t172 := g168 0 3 rfl
          have t173 := g168 0 2 rfl
          have f174 := (gr_b_0_71 hI169)
          have f175 := (gr_b_0_72 hI169)
          have f176 := (gr_b_0_73 hI169)
          have f177 := (gr_b_0_69 hI169)
          have f178 := (gr_b_0_3 hI169)
          have f179 := (gr_b_0_2 hI169)
          have KGR_I169 := gr_GR_fr KGR_I155 (fun k => g168 19 k rfl) (fun k => g168 18 k rfl) (fun k => g168 36 k rfl) (fun k => g168 41 k rfl) (fun k => g168 42 k rfl) (fun k => g168 43 k rfl) (fun k => g168 45 k rfl) (fun k => g168 46 k rfl) (fun k => g168 47 k rfl) (fun k => g168 6 k rfl) (fun k => g168 7 k rfl) (fun k => g168 8 k rfl) (g168 0 3 rfl)
          have KST_I169 := gr_ST_fr KST_I155 (fun k => g168 6 k rfl) (fun k => g168 19 k rfl) (fun k => g168 18 k rfl) (fun k => g168 41 k rfl) (fun k => g168 36 k rfl) (g168 0 3 rfl)
          have KTO_I169 := gr_TO_fr KTO_I155 (fun k => g168 52 k rfl) (fun k => g168 53 k rfl) (fun k => g168 54 k rfl) (fun k => g168 55 k rfl) (fun k => g168 6 k rfl) (g168 0 64 rfl) (g168 0 3 rfl)
          have KFM_I169 := gr_FM_fr KFM_I155 (fun k => g168 10 k rfl) (fun k => g168 55 k rfl) (fun k => g168 52 k rfl) (fun k => g168 53 k rfl) (fun k => g168 54 k rfl) (g168 0 64 rfl) (g168 0 3 rfl)
          have KMQ_I169 := gr_MQ_fr KMQ_I155 (fun k => g168 10 k rfl) (fun k => g168 55 k rfl) (fun k => g168 52 k rfl) (fun k => g168 53 k rfl) (fun k => g168 54 k rfl) (fun k => g168 60 k rfl) (g168 0 64 rfl) (g168 0 3 rfl) (g168 0 99 rfl)
          refine gv_callV hD rfl (As := []) (st := []) rfl (by decide) rfl rfl (gr_lV hws rfl) (Nat.le_of_ble_eq_true rfl) (gz_Ev_mono (d := 11) (by decide) E168) ?_
          show gv_X _ _ (168, [(4, .inl z151), (0, .inr (.inr (some 0))), (1, .inr (.inl v1_9)), (3, .inl v3_9)], [.inl z168], gr_sh ++ ext, gr_h I169 J170)
          refine gv_if_eq (t := 192) hD rfl rfl ⟨by omega, by omega⟩ (fun c180 => ?_) (fun c180 => ?_)
          · obtain ⟨u181, u181_⟩ := gs_or0 q168.2.2.2.2.2.2.2.2.2.2 (by omega)
            refine gv_run 1 true hD (pcₚ := 193) (lvₚ := [(4, .inl z151), (0, .inr (.inr (some 0))), (1, .inr (.inl v1_9)), (3, .inl v3_9)]) (stₚ := [.inl 0]) (hₚ := gr_h I169 J170) (C := (True ∧ True)) rfl ⟨trivial, trivial⟩ ?_
            have b182 : (I169 0 71 = 5 ∨ I169 0 73 ≤ I169 0 69) ∧ (I169 0 72 ≤ I169 0 69) ∧ (I169 0 71 = 0 ∨ (I169 0 72 < I169 0 73 ∧ I169 0 72 < I169 0 69)) ∧ (I169 0 71 = 3 → 2 ≤ I169 0 73 - I169 0 72 ∧ I169 0 73 - I169 0 72 ≤ 14) ∧ (I169 0 72 ≤ I169 0 73) ∧ (I169 0 69 = I 0 69) ∧ (I 0 73 ≤ I169 0 73) ∧ (I 0 72 ≤ I169 0 72) := by omega
            exact gv_zret hD rfl (by omega) ⟨I169, J170, rfl, hI169, FI169, FJ170, KGR_I169, KST_I169, KTO_I169, KFM_I169, KMQ_I169, ⟨_, rfl, by omega, by omega, b182.1, b182.2.1, b182.2.2.1, b182.2.2.2.1, b182.2.2.2.2.1, b182.2.2.2.2.2.1, b182.2.2.2.2.2.2.1, b182.2.2.2.2.2.2.2, (Or.inr ⟨by omega, by first | (exfalso; omega) | (rw [e4_19]; unfold gs_fun2 gs_fun3; (repeat first | rw [if_pos (by omega)] | rw [if_neg (by omega)]); exact ⟨by omega, by omega, ⟨(((g168 0 3 rfl).trans (g154 0 3 rfl)).trans (e9_19.1)), fun j => ⟨(((k168 3 j rfl).trans (k154 3 j rfl)).trans (e9_19.2.1 j)), (((g168 6 j rfl).trans (g154 6 j rfl)).trans (e9_19.2.2.1 j)), (((g168 7 j rfl).trans (g154 7 j rfl)).trans (e9_19.2.2.2.1 j)), (((g168 8 j rfl).trans (g154 8 j rfl)).trans (e9_19.2.2.2.2.1 j)), (((g168 10 j rfl).trans (g154 10 j rfl)).trans (e9_19.2.2.2.2.2.1 j)), (((g168 9 j rfl).trans (g154 9 j rfl)).trans (e9_19.2.2.2.2.2.2 j))⟩⟩⟩)⟩)⟩⟩
          · obtain ⟨u183, A183, R183⟩ := gs_or1 q168.2.2.2.2.2.2.2.2.2.2 (by omega)
            have t184 := gr_ATp_l A183
            have f185 := (gr_b_0_3 hI169)
            refine gv_run 3 true hD (pcₚ := 176) (lvₚ := [(4, .inl z151), (0, .inr (.inr (some 0))), (1, .inr (.inl v1_9)), (3, .inl v3_9)]) (stₚ := [.inl (I169 0 3), .inr (.inr (some 0))]) (hₚ := gr_h I169 J170) (C := (((True ∧ True) ∧ True) ∧ True)) rfl ⟨⟨⟨trivial, trivial⟩, trivial⟩, trivial⟩ ?_
            rw [(t172.trans t158)]
            refine gv_run 1 true hD (pcₚ := 178) (lvₚ := [(4, .inl z151), (0, .inr (.inr (some 0))), (1, .inr (.inl v1_9)), (3, .inl v3_9)]) (stₚ := [.inl 96, .inl (I17 0 3), .inr (.inr (some 0))]) (hₚ := gr_h I169 J170) (C := (True ∧ True)) rfl ⟨trivial, trivial⟩ ?_
            have t186 := (show I169 0 3 = I 0 3 from (((g168 0 3 rfl).trans (g154 0 3 rfl)).trans (e9_19.1)))
            refine gv_icmp_ge (t := 185) hD rfl rfl ⟨⟨by omega, by omega⟩, ⟨by omega, by omega⟩⟩ (fun c187 => ?_) (fun c187 => ?_)
            · refine gv_run 1 true hD (pcₚ := 186) (lvₚ := [(4, .inl z151), (0, .inr (.inr (some 0))), (1, .inr (.inl v1_9)), (3, .inl v3_9)]) (stₚ := [.inl 0, .inr (.inr (some 0))]) (hₚ := gr_h I169 J170) (C := (True ∧ True)) rfl ⟨trivial, trivial⟩ ?_
              obtain ⟨r188, h188, E188, P188⟩ := r_done_p (ws0 := ws0) (tb := tb) hws htb ext β N9 ((gs_cost β N9 (gs_X β N9 p_19))) I169 J170 hI169 0 ⟨by omega, by omega⟩ (by omega) (by omega) (by omega) (by omega) (by omega) A183 (by omega)
              obtain ⟨I189, J190, rfl, hI189, g188, k188, ⟨z188, rfl, q188⟩⟩ := P188
              have FI189 := gr_frt FI169 g188 rfl rfl
              have FJ190 := gr_fjt FJ170 k188 rfl rfl
              have t191 := g188 0 69 rfl
              have t192 := g188 0 3 rfl
              have t193 := g188 0 2 rfl
              have f194 := (gr_b_0_71 hI189)
              have f195 := (gr_b_0_72 hI189)
              have f196 := (gr_b_0_73 hI189)
              have f197 := (gr_b_0_69 hI189)
              have f198 := (gr_b_0_3 hI189)
              have f199 := (gr_b_0_2 hI189)
              have KGR_I189 := gr_GR_fr KGR_I169 (fun k => g188 19 k rfl) (fun k => g188 18 k rfl) (fun k => g188 36 k rfl) (fun k => g188 41 k rfl) (fun k => g188 42 k rfl) (fun k => g188 43 k rfl) (fun k => g188 45 k rfl) (fun k => g188 46 k rfl) (fun k => g188 47 k rfl) (fun k => g188 6 k rfl) (fun k => g188 7 k rfl) (fun k => g188 8 k rfl) (g188 0 3 rfl)
              have KST_I189 := gr_ST_fr KST_I169 (fun k => g188 6 k rfl) (fun k => g188 19 k rfl) (fun k => g188 18 k rfl) (fun k => g188 41 k rfl) (fun k => g188 36 k rfl) (g188 0 3 rfl)
              have KTO_I189 := gr_TO_fr KTO_I169 (fun k => g188 52 k rfl) (fun k => g188 53 k rfl) (fun k => g188 54 k rfl) (fun k => g188 55 k rfl) (fun k => g188 6 k rfl) (g188 0 64 rfl) (g188 0 3 rfl)
              have KFM_I189 := gr_FM_fr KFM_I169 (fun k => g188 10 k rfl) (fun k => g188 55 k rfl) (fun k => g188 52 k rfl) (fun k => g188 53 k rfl) (fun k => g188 54 k rfl) (g188 0 64 rfl) (g188 0 3 rfl)
              have KMQ_I189 := gr_MQ_fr KMQ_I169 (fun k => g188 10 k rfl) (fun k => g188 55 k rfl) (fun k => g188 52 k rfl) (fun k => g188 53 k rfl) (fun k => g188 54 k rfl) (fun k => g188 60 k rfl) (g188 0 64 rfl) (g188 0 3 rfl) (g188 0 99 rfl)
              refine gv_callV hD rfl (As := [.inl 0]) (st := []) rfl (by decide) rfl rfl (gr_lV hws rfl) (Nat.le_of_ble_eq_true rfl) (gz_Ev_mono (d := 11) (by decide) E188) ?_
              show gv_X _ _ (189, [(4, .inl z151), (0, .inr (.inr (some 0))), (1, .inr (.inl v1_9)), (3, .inl v3_9)], [.inl z188], gr_sh ++ ext, gr_h I189 J190)
              refine gv_if_ne (t := 194) hD rfl rfl ⟨by omega, by omega⟩ (fun c200 => ?_) (fun c200 => ?_)
              · have Q201 := q188.2.2.2.2.2.2.2.2.2.2.2.2
                rw [FI169 0 78 rfl] at Q201
                obtain ⟨u201, A201⟩ := gs_or1 Q201 (by omega)
                have t202 := gr_ATp_l A201
                refine gv_pick [1, 2, 3, 0] rfl ?_
                exact L194 I189 J190 z151 ((gs_done β N9 0 (I 0 78) (gs_cost β N9 (gs_X β N9 p_19)))) hI189 FI189 FJ190 KGR_I189 KST_I189 KTO_I189 KFM_I189 KMQ_I189 (by omega) A201 e3_19 (by first | (exfalso; omega) | (rw [e4_19]; unfold gs_fun2 gs_fun3; (repeat first | rw [if_pos (by omega)] | rw [if_neg (by omega)]))) (by rw [← e5_19]; omega) e6_19 (fun i hi => ((((g188 61 i rfl).trans (g168 61 i rfl)).trans (g154 61 i rfl))).trans (e7_19 i (by omega))) (by first | (exfalso; omega) | (rw [← e5_19]; exact (((g188 0 101 rfl)).trans R183))) ⟨((((g188 0 3 rfl).trans (g168 0 3 rfl)).trans (g154 0 3 rfl)).trans (e9_19.1)), (fun k => ((((k188 3 k rfl).trans (k168 3 k rfl)).trans (k154 3 k rfl)).trans (e9_19.2.1 k))), (fun k => ((((g188 6 k rfl).trans (g168 6 k rfl)).trans (g154 6 k rfl)).trans (e9_19.2.2.1 k))), (fun k => ((((g188 7 k rfl).trans (g168 7 k rfl)).trans (g154 7 k rfl)).trans (e9_19.2.2.2.1 k))), (fun k => ((((g188 8 k rfl).trans (g168 8 k rfl)).trans (g154 8 k rfl)).trans (e9_19.2.2.2.2.1 k))), (fun k => ((((g188 10 k rfl).trans (g168 10 k rfl)).trans (g154 10 k rfl)).trans (e9_19.2.2.2.2.2.1 k))), (fun k => ((((g188 9 k rfl).trans (g168 9 k rfl)).trans (g154 9 k rfl)).trans (e9_19.2.2.2.2.2.2 k)))⟩
              · have Q203 := q188.2.2.2.2.2.2.2.2.2.2.2.2
                rw [FI169 0 78 rfl] at Q203
                obtain ⟨u203, u203_⟩ := gs_or0 Q203 (by omega)
                refine gv_run 1 true hD (pcₚ := 193) (lvₚ := [(4, .inl z151), (0, .inr (.inr (some 0))), (1, .inr (.inl v1_9)), (3, .inl v3_9)]) (stₚ := [.inl 0]) (hₚ := gr_h I189 J190) (C := (True ∧ True)) rfl ⟨trivial, trivial⟩ ?_
                have b204 : (I189 0 71 = 5 ∨ I189 0 73 ≤ I189 0 69) ∧ (I189 0 72 ≤ I189 0 69) ∧ (I189 0 71 = 0 ∨ (I189 0 72 < I189 0 73 ∧ I189 0 72 < I189 0 69)) ∧ (I189 0 71 = 3 → 2 ≤ I189 0 73 - I189 0 72 ∧ I189 0 73 - I189 0 72 ≤ 14) ∧ (I189 0 72 ≤ I189 0 73) ∧ (I189 0 69 = I 0 69) ∧ (I 0 73 ≤ I189 0 73) ∧ (I 0 72 ≤ I189 0 72) := by omega
                exact gv_zret hD rfl (by omega) ⟨I189, J190, rfl, hI189, FI189, FJ190, KGR_I189, KST_I189, KTO_I189, KFM_I189, KMQ_I189, ⟨_, rfl, by omega, by omega, b204.1, b204.2.1, b204.2.2.1, b204.2.2.2.1, b204.2.2.2.2.1, b204.2.2.2.2.2.1, b204.2.2.2.2.2.2.1, b204.2.2.2.2.2.2.2, (Or.inr ⟨by omega, by first | (exfalso; omega) | (rw [e4_19]; unfold gs_fun2 gs_fun3; (repeat first | rw [if_pos (by omega)] | rw [if_neg (by omega)]); exact ⟨by omega, by omega, ⟨((((g188 0 3 rfl).trans (g168 0 3 rfl)).trans (g154 0 3 rfl)).trans (e9_19.1)), fun j => ⟨((((k188 3 j rfl).trans (k168 3 j rfl)).trans (k154 3 j rfl)).trans (e9_19.2.1 j)), ((((g188 6 j rfl).trans (g168 6 j rfl)).trans (g154 6 j rfl)).trans (e9_19.2.2.1 j)), ((((g188 7 j rfl).trans (g168 7 j rfl)).trans (g154 7 j rfl)).trans (e9_19.2.2.2.1 j)), ((((g188 8 j rfl).trans (g168 8 j rfl)).trans (g154 8 j rfl)).trans (e9_19.2.2.2.2.1 j)), ((((g188 10 j rfl).trans (g168 10 j rfl)).trans (g154 10 j rfl)).trans (e9_19.2.2.2.2.2.1 j)), ((((g188 9 j rfl).trans (g168 9 j rfl)).trans (g154 9 j rfl)).trans (e9_19.2.2.2.2.2.2 j))⟩⟩⟩)⟩)⟩⟩
            · refine gv_run 2 true hD (pcₚ := 186) (lvₚ := [(4, .inl z151), (0, .inr (.inr (some 0))), (1, .inr (.inl v1_9)), (3, .inl v3_9)]) (stₚ := [.inl 1, .inr (.inr (some 0))]) (hₚ := gr_h I169 J170) (C := ((True ∧ True) ∧ True)) rfl ⟨⟨trivial, trivial⟩, trivial⟩ ?_
              obtain ⟨r205, h205, E205, P205⟩ := r_done_p (ws0 := ws0) (tb := tb) hws htb ext β N9 ((gs_cost β N9 (gs_X β N9 p_19))) I169 J170 hI169 1 ⟨by omega, by omega⟩ (by omega) (by omega) (by omega) (by omega) (by omega) A183 (by omega)
              obtain ⟨I206, J207, rfl, hI206, g205, k205, ⟨z205, rfl, q205⟩⟩ := P205
              have FI206 := gr_frt FI169 g205 rfl rfl
              have FJ207 := gr_fjt FJ170 k205 rfl rfl
              have t208 := g205 0 69 rfl
              have t209 := g205 0 3 rfl
              have t210 := g205 0 2 rfl
              have f211 := (gr_b_0_71 hI206)
              have f212 := (gr_b_0_72 hI206)
              have f213 := (gr_b_0_73 hI206)
              have f214 := (gr_b_0_69 hI206)
              have f215 := (gr_b_0_3 hI206)
              have f216 := (gr_b_0_2 hI206)
              have KGR_I206 := gr_GR_fr KGR_I169 (fun k => g205 19 k rfl) (fun k => g205 18 k rfl) (fun k => g205 36 k rfl) (fun k => g205 41 k rfl) (fun k => g205 42 k rfl) (fun k => g205 43 k rfl) (fun k => g205 45 k rfl) (fun k => g205 46 k rfl) (fun k => g205 47 k rfl) (fun k => g205 6 k rfl) (fun k => g205 7 k rfl) (fun k => g205 8 k rfl) (g205 0 3 rfl)
              have KST_I206 := gr_ST_fr KST_I169 (fun k => g205 6 k rfl) (fun k => g205 19 k rfl) (fun k => g205 18 k rfl) (fun k => g205 41 k rfl) (fun k => g205 36 k rfl) (g205 0 3 rfl)
              have KTO_I206 := gr_TO_fr KTO_I169 (fun k => g205 52 k rfl) (fun k => g205 53 k rfl) (fun k => g205 54 k rfl) (fun k => g205 55 k rfl) (fun k => g205 6 k rfl) (g205 0 64 rfl) (g205 0 3 rfl)
              have KFM_I206 := gr_FM_fr KFM_I169 (fun k => g205 10 k rfl) (fun k => g205 55 k rfl) (fun k => g205 52 k rfl) (fun k => g205 53 k rfl) (fun k => g205 54 k rfl) (g205 0 64 rfl) (g205 0 3 rfl)
              have KMQ_I206 := gr_MQ_fr KMQ_I169 (fun k => g205 10 k rfl) (fun k => g205 55 k rfl) (fun k => g205 52 k rfl) (fun k => g205 53 k rfl) (fun k => g205 54 k rfl) (fun k => g205 60 k rfl) (g205 0 64 rfl) (g205 0 3 rfl) (g205 0 99 rfl)
              refine gv_callV hD rfl (As := [.inl 1]) (st := []) rfl (by decide) rfl rfl (gr_lV hws rfl) (Nat.le_of_ble_eq_true rfl) (gz_Ev_mono (d := 11) (by decide) E205) ?_
              show gv_X _ _ (189, [(4, .inl z151), (0, .inr (.inr (some 0))), (1, .inr (.inl v1_9)), (3, .inl v3_9)], [.inl z205], gr_sh ++ ext, gr_h I206 J207)
              refine gv_if_ne (t := 194) hD rfl rfl ⟨by omega, by omega⟩ (fun c217 => ?_) (fun c217 => ?_)
              · have Q218 := q205.2.2.2.2.2.2.2.2.2.2.2.2
                rw [FI169 0 78 rfl] at Q218
                obtain ⟨u218, A218⟩ := gs_or1 Q218 (by omega)
                have t219 := gr_ATp_l A218
                refine gv_pick [1, 2, 3, 0] rfl ?_
                exact L194 I206 J207 z151 ((gs_done β N9 1 (I 0 78) (gs_cost β N9 (gs_X β N9 p_19)))) hI206 FI206 FJ207 KGR_I206 KST_I206 KTO_I206 KFM_I206 KMQ_I206 (by omega) A218 e3_19 (by first | (exfalso; omega) | (rw [e4_19]; unfold gs_fun2 gs_fun3; (repeat first | rw [if_pos (by omega)] | rw [if_neg (by omega)]))) (by rw [← e5_19]; omega) e6_19 (fun i hi => ((((g205 61 i rfl).trans (g168 61 i rfl)).trans (g154 61 i rfl))).trans (e7_19 i (by omega))) (by first | (exfalso; omega) | (rw [← e5_19]; exact (((g205 0 101 rfl)).trans R183))) ⟨((((g205 0 3 rfl).trans (g168 0 3 rfl)).trans (g154 0 3 rfl)).trans (e9_19.1)), (fun k => ((((k205 3 k rfl).trans (k168 3 k rfl)).trans (k154 3 k rfl)).trans (e9_19.2.1 k))), (fun k => ((((g205 6 k rfl).trans (g168 6 k rfl)).trans (g154 6 k rfl)).trans (e9_19.2.2.1 k))), (fun k => ((((g205 7 k rfl).trans (g168 7 k rfl)).trans (g154 7 k rfl)).trans (e9_19.2.2.2.1 k))), (fun k => ((((g205 8 k rfl).trans (g168 8 k rfl)).trans (g154 8 k rfl)).trans (e9_19.2.2.2.2.1 k))), (fun k => ((((g205 10 k rfl).trans (g168 10 k rfl)).trans (g154 10 k rfl)).trans (e9_19.2.2.2.2.2.1 k))), (fun k => ((((g205 9 k rfl).trans (g168 9 k rfl)).trans (g154 9 k rfl)).trans (e9_19.2.2.2.2.2.2 k)))⟩
              · have Q220 := q205.2.2.2.2.2.2.2.2.2.2.2.2
                rw [FI169 0 78 rfl] at Q220
                obtain ⟨u220, u220_⟩ := gs_or0 Q220 (by omega)
                refine gv_run 1 true hD (pcₚ := 193) (lvₚ := [(4, .inl z151), (0, .inr (.inr (some 0))), (1, .inr (.inl v1_9)), (3, .inl v3_9)]) (stₚ := [.inl 0]) (hₚ := gr_h I206 J207) (C := (True ∧ True)) rfl ⟨trivial, trivial⟩ ?_
                have b221 : (I206 0 71 = 5 ∨ I206 0 73 ≤ I206 0 69) ∧ (I206 0 72 ≤ I206 0 69) ∧ (I206 0 71 = 0 ∨ (I206 0 72 < I206 0 73 ∧ I206 0 72 < I206 0 69)) ∧ (I206 0 71 = 3 → 2 ≤ I206 0 73 - I206 0 72 ∧ I206 0 73 - I206 0 72 ≤ 14) ∧ (I206 0 72 ≤ I206 0 73) ∧ (I206 0 69 = I 0 69) ∧ (I 0 73 ≤ I206 0 73) ∧ (I 0 72 ≤ I206 0 72) := by omega
                exact gv_zret hD rfl (by omega) ⟨I206, J207, rfl, hI206, FI206, FJ207, KGR_I206, KST_I206, KTO_I206, KFM_I206, KMQ_I206, ⟨_, rfl, by omega, by omega, b221.1, b221.2.1, b221.2.2.1, b221.2.2.2.1, b221.2.2.2.2.1, b221.2.2.2.2.2.1, b221.2.2.2.2.2.2.1, b221.2.2.2.2.2.2.2, (Or.inr ⟨by omega, by first | (exfalso; omega) | (rw [e4_19]; unfold gs_fun2 gs_fun3; (repeat first | rw [if_pos (by omega)] | rw [if_neg (by omega)]); exact ⟨by omega, by omega, ⟨((((g205 0 3 rfl).trans (g168 0 3 rfl)).trans (g154 0 3 rfl)).trans (e9_19.1)), fun j => ⟨((((k205 3 j rfl).trans (k168 3 j rfl)).trans (k154 3 j rfl)).trans (e9_19.2.1 j)), ((((g205 6 j rfl).trans (g168 6 j rfl)).trans (g154 6 j rfl)).trans (e9_19.2.2.1 j)), ((((g205 7 j rfl).trans (g168 7 j rfl)).trans (g154 7 j rfl)).trans (e9_19.2.2.2.1 j)), ((((g205 8 j rfl).trans (g168 8 j rfl)).trans (g154 8 j rfl)).trans (e9_19.2.2.2.2.1 j)), ((((g205 10 j rfl).trans (g168 10 j rfl)).trans (g154 10 j rfl)).trans (e9_19.2.2.2.2.2.1 j)), ((((g205 9 j rfl).trans (g168 9 j rfl)).trans (g154 9 j rfl)).trans (e9_19.2.2.2.2.2.2 j))⟩⟩⟩)⟩)⟩⟩
        · refine gv_run 2 true hD (pcₚ := 156) (lvₚ := [(4, .inl z151), (0, .inr (.inr (some 0))), (1, .inr (.inl v1_9)), (3, .inl v3_9)]) (stₚ := [.inl 5, .inr (.inr (some 0))]) (hₚ := gr_h I17 J18) (C := ((True ∧ True) ∧ True)) rfl ⟨⟨trivial, trivial⟩, trivial⟩ ?_
          obtain ⟨r222, h222, E222, P222⟩ := r_no__p (ws0 := ws0) (tb := tb) hws htb ext β N9 p_19 I17 J18 hI17 5 ⟨by omega, by omega⟩ e2_19 (by omega)
          obtain ⟨I223, J224, rfl, hI223, g222, k222, ⟨z222, rfl, q222⟩⟩ := P222
          have FI223 := gr_frt FI17 g222 rfl rfl
          have FJ224 := gr_fjt FJ18 k222 rfl rfl
          have t225 := g222 0 71 rfl
          have t226 := g222 0 72 rfl
          have t227 := g222 0 73 rfl
          have t228 := g222 0 69 rfl
          have t229 := g222 0 3 rfl
          have t230 := g222 0 2 rfl
          have f231 := (gr_b_0_71 hI223)
          have f232 := (gr_b_0_72 hI223)
          have f233 := (gr_b_0_73 hI223)
          have f234 := (gr_b_0_69 hI223)
          have f235 := (gr_b_0_3 hI223)
          have f236 := (gr_b_0_2 hI223)
          have KGR_I223 := gr_GR_fr KGR_I17 (fun k => g222 19 k rfl) (fun k => g222 18 k rfl) (fun k => g222 36 k rfl) (fun k => g222 41 k rfl) (fun k => g222 42 k rfl) (fun k => g222 43 k rfl) (fun k => g222 45 k rfl) (fun k => g222 46 k rfl) (fun k => g222 47 k rfl) (fun k => g222 6 k rfl) (fun k => g222 7 k rfl) (fun k => g222 8 k rfl) (g222 0 3 rfl)
          have KST_I223 := gr_ST_fr KST_I17 (fun k => g222 6 k rfl) (fun k => g222 19 k rfl) (fun k => g222 18 k rfl) (fun k => g222 41 k rfl) (fun k => g222 36 k rfl) (g222 0 3 rfl)
          have KTO_I223 := gr_TO_fr KTO_I17 (fun k => g222 52 k rfl) (fun k => g222 53 k rfl) (fun k => g222 54 k rfl) (fun k => g222 55 k rfl) (fun k => g222 6 k rfl) (g222 0 64 rfl) (g222 0 3 rfl)
          have KFM_I223 := gr_FM_fr KFM_I17 (fun k => g222 10 k rfl) (fun k => g222 55 k rfl) (fun k => g222 52 k rfl) (fun k => g222 53 k rfl) (fun k => g222 54 k rfl) (g222 0 64 rfl) (g222 0 3 rfl)
          have KMQ_I223 := gr_MQ_fr KMQ_I17 (fun k => g222 10 k rfl) (fun k => g222 55 k rfl) (fun k => g222 52 k rfl) (fun k => g222 53 k rfl) (fun k => g222 54 k rfl) (fun k => g222 60 k rfl) (g222 0 64 rfl) (g222 0 3 rfl) (g222 0 99 rfl)
          have A237 := gr_ATp_F e2_19 g222 k222 rfl
          have t238 := gr_ATp_l A237
          refine gv_callV hD rfl (As := [.inl 5]) (st := []) rfl (by decide) rfl rfl (gr_lV hws rfl) (Nat.le_of_ble_eq_true rfl) (gz_Ev_mono (d := 2) (by decide) E222) ?_
          show gv_X _ _ (159, [(4, .inl z151), (0, .inr (.inr (some 0))), (1, .inr (.inl v1_9)), (3, .inl v3_9)], [.inl z222], gr_sh ++ ext, gr_h I223 J224)
          have b239 : (I223 0 71 = 5 ∨ I223 0 73 ≤ I223 0 69) ∧ (I223 0 72 ≤ I223 0 69) ∧ (I223 0 71 = 0 ∨ (I223 0 72 < I223 0 73 ∧ I223 0 72 < I223 0 69)) ∧ (I223 0 71 = 3 → 2 ≤ I223 0 73 - I223 0 72 ∧ I223 0 73 - I223 0 72 ≤ 14) ∧ (I223 0 72 ≤ I223 0 73) ∧ (I223 0 69 = I 0 69) ∧ (I 0 73 ≤ I223 0 73) ∧ (I 0 72 ≤ I223 0 72) := by omega
          exact gv_zret hD rfl (by omega) ⟨I223, J224, rfl, hI223, FI223, FJ224, KGR_I223, KST_I223, KTO_I223, KFM_I223, KMQ_I223, ⟨_, rfl, by omega, by omega, b239.1, b239.2.1, b239.2.2.1, b239.2.2.2.1, b239.2.2.2.2.1, b239.2.2.2.2.2.1, b239.2.2.2.2.2.2.1, b239.2.2.2.2.2.2.2, (Or.inr ⟨by omega, by first | (exfalso; omega) | (rw [e4_19]; unfold gs_fun2 gs_fun3; (repeat first | rw [if_pos (by omega)] | rw [if_neg (by omega)]); exact ⟨by omega, by omega, ⟨((g222 0 3 rfl).trans (e9_19.1)), fun j => ⟨((k222 3 j rfl).trans (e9_19.2.1 j)), ((g222 6 j rfl).trans (e9_19.2.2.1 j)), ((g222 7 j rfl).trans (e9_19.2.2.2.1 j)), ((g222 8 j rfl).trans (e9_19.2.2.2.2.1 j)), ((g222 10 j rfl).trans (e9_19.2.2.2.2.2.1 j)), ((g222 9 j rfl).trans (e9_19.2.2.2.2.2.2 j))⟩⟩⟩)⟩)⟩⟩
      have f240 := (gr_b_0_71 hI7)
      refine gv_run 3 true hD (pcₚ := 58) (lvₚ := [(0, .inr (.inr (some 0))), (1, .inr (.inl v1_9)), (3, .inl v3_9)]) (stₚ := [.inl 1, .inl (I7 0 71)]) (hₚ := gr_h I7 J8) (C := (((True ∧ True) ∧ True) ∧ True)) rfl ⟨⟨⟨trivial, trivial⟩, trivial⟩, trivial⟩ ?_
      refine gv_icmp_ne (t := 113) hD rfl rfl ⟨⟨by omega, by omega⟩, ⟨by omega, by omega⟩⟩ (fun c241 => ?_) (fun c241 => ?_)
      · have t242 := gr_ATp_k e1_9 (c := 1) ⟨by omega, by omega⟩
        refine gv_run 2 true hD (pcₚ := 116) (lvₚ := [(0, .inr (.inr (some 0))), (1, .inr (.inl v1_9)), (3, .inl v3_9)]) (stₚ := [.inl 62, .inr (.inr (some 0))]) (hₚ := gr_h I7 J8) (C := ((True ∧ True) ∧ True)) rfl ⟨⟨trivial, trivial⟩, trivial⟩ ?_
        obtain ⟨r243, h243, E243, P243⟩ := r_need_p (ws0 := ws0) (tb := tb) hws htb ext β N9 p_9 I7 J8 hI7 62 ⟨by omega, by omega⟩ (by omega) (by omega) (by omega) (by omega) (by omega) e1_9 (by omega)
        obtain ⟨I244, J245, rfl, hI244, g243, k243, ⟨z243, rfl, q243⟩⟩ := P243
        have FI244 := gr_frt FI7 g243 rfl rfl
        have FJ245 := gr_fjt FJ8 k243 rfl rfl
        have t246 := g243 0 69 rfl
        have t247 := g243 0 3 rfl
        have t248 := g243 0 2 rfl
        have f249 := (gr_b_0_71 hI244)
        have f250 := (gr_b_0_72 hI244)
        have f251 := (gr_b_0_73 hI244)
        have f252 := (gr_b_0_69 hI244)
        have f253 := (gr_b_0_3 hI244)
        have f254 := (gr_b_0_2 hI244)
        have KGR_I244 := gr_GR_fr KGR_I7 (fun k => g243 19 k rfl) (fun k => g243 18 k rfl) (fun k => g243 36 k rfl) (fun k => g243 41 k rfl) (fun k => g243 42 k rfl) (fun k => g243 43 k rfl) (fun k => g243 45 k rfl) (fun k => g243 46 k rfl) (fun k => g243 47 k rfl) (fun k => g243 6 k rfl) (fun k => g243 7 k rfl) (fun k => g243 8 k rfl) (g243 0 3 rfl)
        have KST_I244 := gr_ST_fr KST_I7 (fun k => g243 6 k rfl) (fun k => g243 19 k rfl) (fun k => g243 18 k rfl) (fun k => g243 41 k rfl) (fun k => g243 36 k rfl) (g243 0 3 rfl)
        have KTO_I244 := gr_TO_fr KTO_I7 (fun k => g243 52 k rfl) (fun k => g243 53 k rfl) (fun k => g243 54 k rfl) (fun k => g243 55 k rfl) (fun k => g243 6 k rfl) (g243 0 64 rfl) (g243 0 3 rfl)
        have KFM_I244 := gr_FM_fr KFM_I7 (fun k => g243 10 k rfl) (fun k => g243 55 k rfl) (fun k => g243 52 k rfl) (fun k => g243 53 k rfl) (fun k => g243 54 k rfl) (g243 0 64 rfl) (g243 0 3 rfl)
        have KMQ_I244 := gr_MQ_fr KMQ_I7 (fun k => g243 10 k rfl) (fun k => g243 55 k rfl) (fun k => g243 52 k rfl) (fun k => g243 53 k rfl) (fun k => g243 54 k rfl) (fun k => g243 60 k rfl) (g243 0 64 rfl) (g243 0 3 rfl) (g243 0 99 rfl)
        refine gv_callV hD rfl (As := [.inl 62]) (st := []) rfl (by decide) rfl rfl (gr_lV hws rfl) (Nat.le_of_ble_eq_true rfl) (gz_Ev_mono (d := 11) (by decide) E243) ?_
        show gv_X _ _ (119, [(0, .inr (.inr (some 0))), (1, .inr (.inl v1_9)), (3, .inl v3_9)], [.inl z243], gr_sh ++ ext, gr_h I244 J245)
        refine gv_if_eq (t := 129) hD rfl rfl ⟨by omega, by omega⟩ (fun c255 => ?_) (fun c255 => ?_)
        · obtain ⟨u256, u256_⟩ := gs_or0 q243.2.2.2.2.2.2.2.2.2.2.2 (by omega)
          refine gv_run 1 true hD (pcₚ := 130) (lvₚ := [(0, .inr (.inr (some 0))), (1, .inr (.inl v1_9)), (3, .inl v3_9)]) (stₚ := [.inl 0]) (hₚ := gr_h I244 J245) (C := (True ∧ True)) rfl ⟨trivial, trivial⟩ ?_
          have b257 : (I244 0 71 = 5 ∨ I244 0 73 ≤ I244 0 69) ∧ (I244 0 72 ≤ I244 0 69) ∧ (I244 0 71 = 0 ∨ (I244 0 72 < I244 0 73 ∧ I244 0 72 < I244 0 69)) ∧ (I244 0 71 = 3 → 2 ≤ I244 0 73 - I244 0 72 ∧ I244 0 73 - I244 0 72 ≤ 14) ∧ (I244 0 72 ≤ I244 0 73) ∧ (I244 0 69 = I 0 69) ∧ (I 0 73 ≤ I244 0 73) ∧ (I 0 72 ≤ I244 0 72) := by omega
          exact gv_zret hD rfl (by omega) ⟨I244, J245, rfl, hI244, FI244, FJ245, KGR_I244, KST_I244, KTO_I244, KFM_I244, KMQ_I244, ⟨_, rfl, by omega, by omega, b257.1, b257.2.1, b257.2.2.1, b257.2.2.2.1, b257.2.2.2.2.1, b257.2.2.2.2.2.1, b257.2.2.2.2.2.2.1, b257.2.2.2.2.2.2.2, (Or.inr ⟨by omega, by rw [e3_9, e4_9, gs_fl_e (by omega)]; unfold gs_fun1 gs_fun2 gs_fun3; (repeat first | rw [if_pos (by omega)] | rw [if_neg (by omega)]); exact ⟨by omega, by omega, ⟨((g243 0 3 rfl).trans (e8_9.1)), fun j => ⟨((k243 3 j rfl).trans (e8_9.2.1 j)), ((g243 6 j rfl).trans (e8_9.2.2.1 j)), ((g243 7 j rfl).trans (e8_9.2.2.2.1 j)), ((g243 8 j rfl).trans (e8_9.2.2.2.2.1 j)), ((g243 10 j rfl).trans (e8_9.2.2.2.2.2.1 j)), ((g243 9 j rfl).trans (e8_9.2.2.2.2.2.2 j))⟩⟩⟩⟩)⟩⟩
        · obtain ⟨u258, A258⟩ := gs_or1 q243.2.2.2.2.2.2.2.2.2.2.2 (by omega)
          have t259 := gr_ATp_l A258
          refine gv_run 1 true hD (pcₚ := 123) (lvₚ := [(0, .inr (.inr (some 0))), (1, .inr (.inl v1_9)), (3, .inl v3_9)]) (stₚ := [.inr (.inr (some 0))]) (hₚ := gr_h I244 J245) (C := (True ∧ True)) rfl ⟨trivial, trivial⟩ ?_
          obtain ⟨r260, h260, E260, P260⟩ := r_name_p (ws0 := ws0) (tb := tb) hws htb ext β N9 (gs_need β N9 62 p_9) I244 J245 hI244   A258 (by omega)
          obtain ⟨I261, J262, rfl, hI261, g260, k260, ⟨z260, rfl, q260⟩⟩ := P260
          have FI261 := gr_frt FI244 g260 rfl rfl
          have FJ262 := gr_fjt FJ245 k260 rfl rfl
          have t263 := g260 0 71 rfl
          have t264 := g260 0 72 rfl
          have t265 := g260 0 73 rfl
          have t266 := g260 0 69 rfl
          have t267 := g260 0 3 rfl
          have t268 := g260 0 2 rfl
          have f269 := (gr_b_0_71 hI261)
          have f270 := (gr_b_0_72 hI261)
          have f271 := (gr_b_0_73 hI261)
          have f272 := (gr_b_0_69 hI261)
          have f273 := (gr_b_0_3 hI261)
          have f274 := (gr_b_0_2 hI261)
          have KGR_I261 := gr_GR_fr KGR_I244 (fun k => g260 19 k rfl) (fun k => g260 18 k rfl) (fun k => g260 36 k rfl) (fun k => g260 41 k rfl) (fun k => g260 42 k rfl) (fun k => g260 43 k rfl) (fun k => g260 45 k rfl) (fun k => g260 46 k rfl) (fun k => g260 47 k rfl) (fun k => g260 6 k rfl) (fun k => g260 7 k rfl) (fun k => g260 8 k rfl) (g260 0 3 rfl)
          have KST_I261 := gr_ST_fr KST_I244 (fun k => g260 6 k rfl) (fun k => g260 19 k rfl) (fun k => g260 18 k rfl) (fun k => g260 41 k rfl) (fun k => g260 36 k rfl) (g260 0 3 rfl)
          have KTO_I261 := gr_TO_fr KTO_I244 (fun k => g260 52 k rfl) (fun k => g260 53 k rfl) (fun k => g260 54 k rfl) (fun k => g260 55 k rfl) (fun k => g260 6 k rfl) (g260 0 64 rfl) (g260 0 3 rfl)
          have KFM_I261 := gr_FM_fr KFM_I244 (fun k => g260 10 k rfl) (fun k => g260 55 k rfl) (fun k => g260 52 k rfl) (fun k => g260 53 k rfl) (fun k => g260 54 k rfl) (g260 0 64 rfl) (g260 0 3 rfl)
          have KMQ_I261 := gr_MQ_fr KMQ_I244 (fun k => g260 10 k rfl) (fun k => g260 55 k rfl) (fun k => g260 52 k rfl) (fun k => g260 53 k rfl) (fun k => g260 54 k rfl) (fun k => g260 60 k rfl) (g260 0 64 rfl) (g260 0 3 rfl) (g260 0 99 rfl)
          have A275 := gr_ATp_F A258 g260 k260 rfl
          have t276 := gr_ATp_l A275
          refine gv_callV hD rfl (As := []) (st := []) rfl (by decide) rfl rfl (gr_lV hws rfl) (Nat.le_of_ble_eq_true rfl) (gz_Ev_mono (d := 3) (by decide) E260) ?_
          show gv_X _ _ (126, [(0, .inr (.inr (some 0))), (1, .inr (.inl v1_9)), (3, .inl v3_9)], [.inl z260], gr_sh ++ ext, gr_h I261 J262)
          refine gv_if_ne (t := 131) hD rfl rfl ⟨by omega, by omega⟩ (fun c277 => ?_) (fun c277 => ?_)
          · exact L131 I261 J262 (gs_need β N9 62 p_9) hI261 FI261 FJ262 KGR_I261 KST_I261 KTO_I261 KFM_I261 KMQ_I261 (by omega) A275 e2_9 (by rw [e3_9, e4_9, gs_fl_e (by omega)]; unfold gs_fun1; (repeat first | rw [if_pos (by omega)] | rw [if_neg (by omega)])) (by rw [e4_9, gs_fl_e (by omega)]) (by rw [e5_9, gs_cn_e (by omega)]; omega) (fun i hi => (((g260 61 i rfl).trans (g243 61 i rfl))).trans (e7_9 i (by omega))) (by omega) ⟨(((g260 0 3 rfl).trans (g243 0 3 rfl)).trans (e8_9.1)), (fun k => (((k260 3 k rfl).trans (k243 3 k rfl)).trans (e8_9.2.1 k))), (fun k => (((g260 6 k rfl).trans (g243 6 k rfl)).trans (e8_9.2.2.1 k))), (fun k => (((g260 7 k rfl).trans (g243 7 k rfl)).trans (e8_9.2.2.2.1 k))), (fun k => (((g260 8 k rfl).trans (g243 8 k rfl)).trans (e8_9.2.2.2.2.1 k))), (fun k => (((g260 10 k rfl).trans (g243 10 k rfl)).trans (e8_9.2.2.2.2.2.1 k))), (fun k => (((g260 9 k rfl).trans (g243 9 k rfl)).trans (e8_9.2.2.2.2.2.2 k)))⟩
          · refine gv_run 1 true hD (pcₚ := 130) (lvₚ := [(0, .inr (.inr (some 0))), (1, .inr (.inl v1_9)), (3, .inl v3_9)]) (stₚ := [.inl 0]) (hₚ := gr_h I261 J262) (C := (True ∧ True)) rfl ⟨trivial, trivial⟩ ?_
            have b278 : (I261 0 71 = 5 ∨ I261 0 73 ≤ I261 0 69) ∧ (I261 0 72 ≤ I261 0 69) ∧ (I261 0 71 = 0 ∨ (I261 0 72 < I261 0 73 ∧ I261 0 72 < I261 0 69)) ∧ (I261 0 71 = 3 → 2 ≤ I261 0 73 - I261 0 72 ∧ I261 0 73 - I261 0 72 ≤ 14) ∧ (I261 0 72 ≤ I261 0 73) ∧ (I261 0 69 = I 0 69) ∧ (I 0 73 ≤ I261 0 73) ∧ (I 0 72 ≤ I261 0 72) := by omega
            exact gv_zret hD rfl (by omega) ⟨I261, J262, rfl, hI261, FI261, FJ262, KGR_I261, KST_I261, KTO_I261, KFM_I261, KMQ_I261, ⟨_, rfl, by omega, by omega, b278.1, b278.2.1, b278.2.2.1, b278.2.2.2.1, b278.2.2.2.2.1, b278.2.2.2.2.2.1, b278.2.2.2.2.2.2.1, b278.2.2.2.2.2.2.2, (Or.inr ⟨by omega, by rw [e3_9, e4_9, gs_fl_e (by omega)]; unfold gs_fun1 gs_fun2 gs_fun3; (repeat first | rw [if_pos (by omega)] | rw [if_neg (by omega)]); exact ⟨by omega, by omega, ⟨(((g260 0 3 rfl).trans (g243 0 3 rfl)).trans (e8_9.1)), fun j => ⟨(((k260 3 j rfl).trans (k243 3 j rfl)).trans (e8_9.2.1 j)), (((g260 6 j rfl).trans (g243 6 j rfl)).trans (e8_9.2.2.1 j)), (((g260 7 j rfl).trans (g243 7 j rfl)).trans (e8_9.2.2.2.1 j)), (((g260 8 j rfl).trans (g243 8 j rfl)).trans (e8_9.2.2.2.2.1 j)), (((g260 10 j rfl).trans (g243 10 j rfl)).trans (e8_9.2.2.2.2.2.1 j)), (((g260 9 j rfl).trans (g243 9 j rfl)).trans (e8_9.2.2.2.2.2.2 j))⟩⟩⟩⟩)⟩⟩
      · have t279 := gr_ATp_k e1_9 (c := 1) ⟨by omega, by omega⟩
        have f280 := (gr_b_0_2 hI7)
        refine gv_run 7 true hD (pcₚ := 74) (lvₚ := [(0, .inr (.inr (some 0))), (1, .inr (.inl v1_9)), (3, .inl v3_9)]) (stₚ := [.inr (.inl (J8 0 75)), .inl (I7 0 2), .inl 0, .inr (.inr (some 2))]) (hₚ := gr_h I7 J8) (C := (((((((True ∧ True) ∧ True) ∧ True) ∧ True) ∧ True) ∧ True) ∧ True)) rfl ⟨⟨⟨⟨⟨⟨⟨trivial, trivial⟩, trivial⟩, trivial⟩, trivial⟩, trivial⟩, trivial⟩, trivial⟩ ?_
        obtain ⟨r281, h281, E281, P281⟩ := r_find_2_p (ws0 := ws0) (tb := tb) hws htb ext I7 J8 hI7 0 (I7 0 2) (J8 0 75) ⟨by omega, by omega⟩ ⟨by omega, by omega⟩ (by omega)
        obtain ⟨rfl, ⟨z281, rfl, q281⟩⟩ := P281
        have t282 := q281.2.2.2.trans (gs_lk_eq (I := I) (J := J) (w := gs_rn β N9 p_9) (fun k => (FJ8 2 k rfl)) (FI7 0 2 rfl) (gr_ATp_w e1_9))
        refine gv_callS hD rfl (As := [.inr (.inr (some 2)), .inl 0, .inl (I7 0 2), .inr (.inl (J8 0 75))]) (st := []) rfl (gr_lS hws rfl) (Nat.le_of_ble_eq_true rfl) (gz_Ev_mono (d := 1) (by decide) E281) ?_
        show gv_X _ _ (77, [(0, .inr (.inr (some 0))), (1, .inr (.inl v1_9)), (3, .inl v3_9)], [.inl z281], gr_sh ++ ext, gr_h I7 J8)
        refine gv_run 2 true hD (pcₚ := 81) (lvₚ := [(4, .inl z281), (0, .inr (.inr (some 0))), (1, .inr (.inl v1_9)), (3, .inl v3_9)]) (stₚ := [.inl z281]) (hₚ := gr_h I7 J8) (C := ((True ∧ True) ∧ True)) rfl ⟨⟨trivial, trivial⟩, trivial⟩ ?_
        refine gv_if_lt (t := 89) hD rfl rfl ⟨by omega, by omega⟩ (fun c283 => ?_) (fun c283 => ?_)
        · refine gv_run 2 true hD (pcₚ := 91) (lvₚ := [(4, .inl z281), (0, .inr (.inr (some 0))), (1, .inr (.inl v1_9)), (3, .inl v3_9)]) (stₚ := [.inl 5, .inr (.inr (some 0))]) (hₚ := gr_h I7 J8) (C := ((True ∧ True) ∧ True)) rfl ⟨⟨trivial, trivial⟩, trivial⟩ ?_
          obtain ⟨r284, h284, E284, P284⟩ := r_no__p (ws0 := ws0) (tb := tb) hws htb ext β N9 p_9 I7 J8 hI7 5 ⟨by omega, by omega⟩ e1_9 (by omega)
          obtain ⟨I285, J286, rfl, hI285, g284, k284, ⟨z284, rfl, q284⟩⟩ := P284
          have FI285 := gr_frt FI7 g284 rfl rfl
          have FJ286 := gr_fjt FJ8 k284 rfl rfl
          have t287 := g284 0 71 rfl
          have t288 := g284 0 72 rfl
          have t289 := g284 0 73 rfl
          have t290 := g284 0 69 rfl
          have t291 := g284 0 3 rfl
          have t292 := g284 0 2 rfl
          have f293 := (gr_b_0_71 hI285)
          have f294 := (gr_b_0_72 hI285)
          have f295 := (gr_b_0_73 hI285)
          have f296 := (gr_b_0_69 hI285)
          have f297 := (gr_b_0_3 hI285)
          have f298 := (gr_b_0_2 hI285)
          have KGR_I285 := gr_GR_fr KGR_I7 (fun k => g284 19 k rfl) (fun k => g284 18 k rfl) (fun k => g284 36 k rfl) (fun k => g284 41 k rfl) (fun k => g284 42 k rfl) (fun k => g284 43 k rfl) (fun k => g284 45 k rfl) (fun k => g284 46 k rfl) (fun k => g284 47 k rfl) (fun k => g284 6 k rfl) (fun k => g284 7 k rfl) (fun k => g284 8 k rfl) (g284 0 3 rfl)
          have KST_I285 := gr_ST_fr KST_I7 (fun k => g284 6 k rfl) (fun k => g284 19 k rfl) (fun k => g284 18 k rfl) (fun k => g284 41 k rfl) (fun k => g284 36 k rfl) (g284 0 3 rfl)
          have KTO_I285 := gr_TO_fr KTO_I7 (fun k => g284 52 k rfl) (fun k => g284 53 k rfl) (fun k => g284 54 k rfl) (fun k => g284 55 k rfl) (fun k => g284 6 k rfl) (g284 0 64 rfl) (g284 0 3 rfl)
          have KFM_I285 := gr_FM_fr KFM_I7 (fun k => g284 10 k rfl) (fun k => g284 55 k rfl) (fun k => g284 52 k rfl) (fun k => g284 53 k rfl) (fun k => g284 54 k rfl) (g284 0 64 rfl) (g284 0 3 rfl)
          have KMQ_I285 := gr_MQ_fr KMQ_I7 (fun k => g284 10 k rfl) (fun k => g284 55 k rfl) (fun k => g284 52 k rfl) (fun k => g284 53 k rfl) (fun k => g284 54 k rfl) (fun k => g284 60 k rfl) (g284 0 64 rfl) (g284 0 3 rfl) (g284 0 99 rfl)
          have A299 := gr_ATp_F e1_9 g284 k284 rfl
          have t300 := gr_ATp_l A299
          refine gv_callV hD rfl (As := [.inl 5]) (st := []) rfl (by decide) rfl rfl (gr_lV hws rfl) (Nat.le_of_ble_eq_true rfl) (gz_Ev_mono (d := 2) (by decide) E284) ?_
          show gv_X _ _ (94, [(4, .inl z281), (0, .inr (.inr (some 0))), (1, .inr (.inl v1_9)), (3, .inl v3_9)], [.inl z284], gr_sh ++ ext, gr_h I285 J286)
          have b301 : (I285 0 71 = 5 ∨ I285 0 73 ≤ I285 0 69) ∧ (I285 0 72 ≤ I285 0 69) ∧ (I285 0 71 = 0 ∨ (I285 0 72 < I285 0 73 ∧ I285 0 72 < I285 0 69)) ∧ (I285 0 71 = 3 → 2 ≤ I285 0 73 - I285 0 72 ∧ I285 0 73 - I285 0 72 ≤ 14) ∧ (I285 0 72 ≤ I285 0 73) ∧ (I285 0 69 = I 0 69) ∧ (I 0 73 ≤ I285 0 73) ∧ (I 0 72 ≤ I285 0 72) := by omega
          exact gv_zret hD rfl (by omega) ⟨I285, J286, rfl, hI285, FI285, FJ286, KGR_I285, KST_I285, KTO_I285, KFM_I285, KMQ_I285, ⟨_, rfl, by omega, by omega, b301.1, b301.2.1, b301.2.2.1, b301.2.2.2.1, b301.2.2.2.2.1, b301.2.2.2.2.2.1, b301.2.2.2.2.2.2.1, b301.2.2.2.2.2.2.2, (Or.inr ⟨by omega, by rw [e3_9, e4_9, gs_fl_x (by omega) (by omega)]; unfold gs_fun1 gs_fun2 gs_fun3; (repeat first | rw [if_pos (by omega)] | rw [if_neg (by omega)]); exact ⟨by omega, by omega, ⟨((g284 0 3 rfl).trans (e8_9.1)), fun j => ⟨((k284 3 j rfl).trans (e8_9.2.1 j)), ((g284 6 j rfl).trans (e8_9.2.2.1 j)), ((g284 7 j rfl).trans (e8_9.2.2.2.1 j)), ((g284 8 j rfl).trans (e8_9.2.2.2.2.1 j)), ((g284 10 j rfl).trans (e8_9.2.2.2.2.2.1 j)), ((g284 9 j rfl).trans (e8_9.2.2.2.2.2.2 j))⟩⟩⟩⟩)⟩⟩
        · refine gv_run 2 true hD (pcₚ := 86) (lvₚ := [(4, .inl z281), (0, .inr (.inr (some 0))), (1, .inr (.inl v1_9)), (3, .inl v3_9)]) (stₚ := [.inl 4, .inl v3_9]) (hₚ := gr_h I7 J8) (C := ((True ∧ True) ∧ True)) rfl ⟨⟨trivial, trivial⟩, trivial⟩ ?_
          refine gv_icmp_ne (t := 95) hD rfl rfl ⟨⟨by omega, by omega⟩, ⟨by omega, by omega⟩⟩ (fun c302 => ?_) (fun c302 => ?_)
          · refine gv_run 5 true hD (pcₚ := 105) (lvₚ := [(3, .inl (v3_9 + 1)), (4, .inl z281), (0, .inr (.inr (some 0))), (1, .inr (.inl v1_9))]) (stₚ := [.inl z281, .inl v3_9, .inr (.inr (some 61))]) (hₚ := gr_h I7 J8) (C := (((((True ∧ True) ∧ True) ∧ True) ∧ True) ∧ True)) rfl ⟨⟨⟨⟨⟨trivial, trivial⟩, trivial⟩, trivial⟩, trivial⟩, trivial⟩ ?_
            refine gv_run 1 true hD (pcₚ := 106) (lvₚ := [(3, .inl (v3_9 + 1)), (4, .inl z281), (0, .inr (.inr (some 0))), (1, .inr (.inl v1_9))]) (stₚ := []) (hₚ := gz_up (gr_h I7 J8) 61 (Int.toNat v3_9) (.inl z281)) (C := (True ∧ (0 ≤ v3_9 ∧ v3_9 < ((4 : Nat) : Int)))) rfl ⟨trivial, ⟨by omega, by omega⟩⟩ ?_
            refine gr_st hI7 FI7 rfl rfl ⟨⟨by show 0 ≤ _; omega, by show _ ≤ 31; omega⟩, trivial⟩ (fun I303 hI303 FI303 q304 p304 => ?_)
            have t305 := p304 0 71 (fun q => absurd q.1 (by decide))
            have t306 := p304 0 72 (fun q => absurd q.1 (by decide))
            have t307 := p304 0 73 (fun q => absurd q.1 (by decide))
            have t308 := p304 0 69 (fun q => absurd q.1 (by decide))
            have t309 := p304 0 3 (fun q => absurd q.1 (by decide))
            have t310 := p304 0 2 (fun q => absurd q.1 (by decide))
            have f311 := (gr_b_0_71 hI303)
            have f312 := (gr_b_0_72 hI303)
            have f313 := (gr_b_0_73 hI303)
            have f314 := (gr_b_0_69 hI303)
            have f315 := (gr_b_0_3 hI303)
            have f316 := (gr_b_0_2 hI303)
            have KGR_I303 := gr_GR_fr KGR_I7 (fun k => p304 19 k (fun q => absurd q.1 (by decide))) (fun k => p304 18 k (fun q => absurd q.1 (by decide))) (fun k => p304 36 k (fun q => absurd q.1 (by decide))) (fun k => p304 41 k (fun q => absurd q.1 (by decide))) (fun k => p304 42 k (fun q => absurd q.1 (by decide))) (fun k => p304 43 k (fun q => absurd q.1 (by decide))) (fun k => p304 45 k (fun q => absurd q.1 (by decide))) (fun k => p304 46 k (fun q => absurd q.1 (by decide))) (fun k => p304 47 k (fun q => absurd q.1 (by decide))) (fun k => p304 6 k (fun q => absurd q.1 (by decide))) (fun k => p304 7 k (fun q => absurd q.1 (by decide))) (fun k => p304 8 k (fun q => absurd q.1 (by decide))) (p304 0 3 (fun q => absurd q.1 (by decide)))
            have KST_I303 := gr_ST_fr KST_I7 (fun k => p304 6 k (fun q => absurd q.1 (by decide))) (fun k => p304 19 k (fun q => absurd q.1 (by decide))) (fun k => p304 18 k (fun q => absurd q.1 (by decide))) (fun k => p304 41 k (fun q => absurd q.1 (by decide))) (fun k => p304 36 k (fun q => absurd q.1 (by decide))) (p304 0 3 (fun q => absurd q.1 (by decide)))
            have KTO_I303 := gr_TO_fr KTO_I7 (fun k => p304 52 k (fun q => absurd q.1 (by decide))) (fun k => p304 53 k (fun q => absurd q.1 (by decide))) (fun k => p304 54 k (fun q => absurd q.1 (by decide))) (fun k => p304 55 k (fun q => absurd q.1 (by decide))) (fun k => p304 6 k (fun q => absurd q.1 (by decide))) (p304 0 64 (fun q => absurd q.1 (by decide))) (p304 0 3 (fun q => absurd q.1 (by decide)))
            have KFM_I303 := gr_FM_fr KFM_I7 (fun k => p304 10 k (fun q => absurd q.1 (by decide))) (fun k => p304 55 k (fun q => absurd q.1 (by decide))) (fun k => p304 52 k (fun q => absurd q.1 (by decide))) (fun k => p304 53 k (fun q => absurd q.1 (by decide))) (fun k => p304 54 k (fun q => absurd q.1 (by decide))) (p304 0 64 (fun q => absurd q.1 (by decide))) (p304 0 3 (fun q => absurd q.1 (by decide)))
            have KMQ_I303 := gr_MQ_fr KMQ_I7 (fun k => p304 10 k (fun q => absurd q.1 (by decide))) (fun k => p304 55 k (fun q => absurd q.1 (by decide))) (fun k => p304 52 k (fun q => absurd q.1 (by decide))) (fun k => p304 53 k (fun q => absurd q.1 (by decide))) (fun k => p304 54 k (fun q => absurd q.1 (by decide))) (fun k => p304 60 k (fun q => absurd q.1 (by decide))) (p304 0 64 (fun q => absurd q.1 (by decide))) (p304 0 3 (fun q => absurd q.1 (by decide))) (p304 0 99 (fun q => absurd q.1 (by decide)))
            have A317 := gr_ATp_sr e1_9 p304 rfl
            refine gv_run 1 true hD (pcₚ := 107) (lvₚ := [(3, .inl (v3_9 + 1)), (4, .inl z281), (0, .inr (.inr (some 0))), (1, .inr (.inl v1_9))]) (stₚ := [.inr (.inr (some 0))]) (hₚ := gr_h I303 J8) (C := (True ∧ True)) rfl ⟨trivial, trivial⟩ ?_
            obtain ⟨r318, h318, E318, P318⟩ := r_next_p (ws0 := ws0) (tb := tb) hws htb ext β N9 I303 J8 hI303   (by omega) A317.1.1 A317.1.2
            obtain ⟨I319, J320, rfl, hI319, g318, k318, ⟨rfl, q318⟩⟩ := P318
            have FI319 := gr_frt FI303 g318 rfl rfl
            have FJ320 := gr_fjt FJ8 k318 rfl rfl
            have t321 := g318 0 69 rfl
            have t322 := g318 0 3 rfl
            have t323 := g318 0 2 rfl
            have f324 := (gr_b_0_71 hI319)
            have f325 := (gr_b_0_72 hI319)
            have f326 := (gr_b_0_73 hI319)
            have f327 := (gr_b_0_69 hI319)
            have f328 := (gr_b_0_3 hI319)
            have f329 := (gr_b_0_2 hI319)
            have KGR_I319 := gr_GR_fr KGR_I303 (fun k => g318 19 k rfl) (fun k => g318 18 k rfl) (fun k => g318 36 k rfl) (fun k => g318 41 k rfl) (fun k => g318 42 k rfl) (fun k => g318 43 k rfl) (fun k => g318 45 k rfl) (fun k => g318 46 k rfl) (fun k => g318 47 k rfl) (fun k => g318 6 k rfl) (fun k => g318 7 k rfl) (fun k => g318 8 k rfl) (g318 0 3 rfl)
            have KST_I319 := gr_ST_fr KST_I303 (fun k => g318 6 k rfl) (fun k => g318 19 k rfl) (fun k => g318 18 k rfl) (fun k => g318 41 k rfl) (fun k => g318 36 k rfl) (g318 0 3 rfl)
            have KTO_I319 := gr_TO_fr KTO_I303 (fun k => g318 52 k rfl) (fun k => g318 53 k rfl) (fun k => g318 54 k rfl) (fun k => g318 55 k rfl) (fun k => g318 6 k rfl) (g318 0 64 rfl) (g318 0 3 rfl)
            have KFM_I319 := gr_FM_fr KFM_I303 (fun k => g318 10 k rfl) (fun k => g318 55 k rfl) (fun k => g318 52 k rfl) (fun k => g318 53 k rfl) (fun k => g318 54 k rfl) (g318 0 64 rfl) (g318 0 3 rfl)
            have KMQ_I319 := gr_MQ_fr KMQ_I303 (fun k => g318 10 k rfl) (fun k => g318 55 k rfl) (fun k => g318 52 k rfl) (fun k => g318 53 k rfl) (fun k => g318 54 k rfl) (fun k => g318 60 k rfl) (g318 0 64 rfl) (g318 0 3 rfl) (g318 0 99 rfl)
            have A330 := gr_ATp_nx A317 q318.2.2.2.2.2
            have t331 := gr_ATp_l A330
            refine gv_callV hD rfl (As := []) (st := []) rfl (by decide) rfl rfl (gr_lV hws rfl) (Nat.le_of_ble_eq_true rfl) (gz_Ev_mono (d := 10) (by decide) E318) ?_
            show gv_X _ _ (110, [(3, .inl (v3_9 + 1)), (4, .inl z281), (0, .inr (.inr (some 0))), (1, .inr (.inl v1_9))], [], gr_sh ++ ext, gr_h I319 J320)
            refine gv_run 1 true hD (pcₚ := 53) (lvₚ := [(3, .inl (v3_9 + 1)), (4, .inl z281), (0, .inr (.inr (some 0))), (1, .inr (.inl v1_9))]) (stₚ := []) (hₚ := gr_h I319 J320) (C := (True ∧ True)) rfl ⟨trivial, trivial⟩ ?_
            refine gv_pick [2, 3, 0] rfl ?_
            exact ih53 I319 J320 v1_9 (v3_9 + 1) (gs_X β N9 p_9) (by omega) hI319 FI319 FJ320 KGR_I319 KST_I319 KTO_I319 KFM_I319 KMQ_I319 (by omega) A330 e2_9 e3_9 (e4_9.trans (gs_fl_s (by omega) (by omega) (by omega))) (e5_9.trans (gs_cn_s (by omega) (by omega))) (by rw [show Int.toNat (v3_9 + 1) = Int.toNat v3_9 + 1 from by omega]; show gs_X β N9 _ = gs_X β N9 _; rw [← e6_9]) (fun i hi => ((g318 61 i rfl)).trans (by by_cases c : i = Int.toNat v3_9; (rw [show i = (Int.toNat v3_9) from by omega, q304]; rw [show Int.toNat v3_9 = Int.toNat v3_9 from rfl, ← e6_9]; omega); exact (p304 61 i (fun h => c (by have h9 := h.2; omega))).trans ((Eq.refl _).trans (e7_9 i (by omega))))) ⟨(((g318 0 3 rfl).trans (p304 0 3 (fun q => absurd q.1 (by decide)))).trans (e8_9.1)), (fun k => ((k318 3 k rfl).trans (e8_9.2.1 k))), (fun k => (((g318 6 k rfl).trans (p304 6 k (fun q => absurd q.1 (by decide)))).trans (e8_9.2.2.1 k))), (fun k => (((g318 7 k rfl).trans (p304 7 k (fun q => absurd q.1 (by decide)))).trans (e8_9.2.2.2.1 k))), (fun k => (((g318 8 k rfl).trans (p304 8 k (fun q => absurd q.1 (by decide)))).trans (e8_9.2.2.2.2.1 k))), (fun k => (((g318 10 k rfl).trans (p304 10 k (fun q => absurd q.1 (by decide)))).trans (e8_9.2.2.2.2.2.1 k))), (fun k => (((g318 9 k rfl).trans (p304 9 k (fun q => absurd q.1 (by decide)))).trans (e8_9.2.2.2.2.2.2 k)))⟩
          · refine gv_run 2 true hD (pcₚ := 91) (lvₚ := [(4, .inl z281), (0, .inr (.inr (some 0))), (1, .inr (.inl v1_9)), (3, .inl v3_9)]) (stₚ := [.inl 5, .inr (.inr (some 0))]) (hₚ := gr_h I7 J8) (C := ((True ∧ True) ∧ True)) rfl ⟨⟨trivial, trivial⟩, trivial⟩ ?_
            obtain ⟨r332, h332, E332, P332⟩ := r_no__p (ws0 := ws0) (tb := tb) hws htb ext β N9 p_9 I7 J8 hI7 5 ⟨by omega, by omega⟩ e1_9 (by omega)
            obtain ⟨I333, J334, rfl, hI333, g332, k332, ⟨z332, rfl, q332⟩⟩ := P332
            have FI333 := gr_frt FI7 g332 rfl rfl
            have FJ334 := gr_fjt FJ8 k332 rfl rfl
            have t335 := g332 0 71 rfl
            have t336 := g332 0 72 rfl
            have t337 := g332 0 73 rfl
            have t338 := g332 0 69 rfl
            have t339 := g332 0 3 rfl
            have t340 := g332 0 2 rfl
            have f341 := (gr_b_0_71 hI333)
            have f342 := (gr_b_0_72 hI333)
            have f343 := (gr_b_0_73 hI333)
            have f344 := (gr_b_0_69 hI333)
            have f345 := (gr_b_0_3 hI333)
            have f346 := (gr_b_0_2 hI333)
            have KGR_I333 := gr_GR_fr KGR_I7 (fun k => g332 19 k rfl) (fun k => g332 18 k rfl) (fun k => g332 36 k rfl) (fun k => g332 41 k rfl) (fun k => g332 42 k rfl) (fun k => g332 43 k rfl) (fun k => g332 45 k rfl) (fun k => g332 46 k rfl) (fun k => g332 47 k rfl) (fun k => g332 6 k rfl) (fun k => g332 7 k rfl) (fun k => g332 8 k rfl) (g332 0 3 rfl)
            have KST_I333 := gr_ST_fr KST_I7 (fun k => g332 6 k rfl) (fun k => g332 19 k rfl) (fun k => g332 18 k rfl) (fun k => g332 41 k rfl) (fun k => g332 36 k rfl) (g332 0 3 rfl)
            have KTO_I333 := gr_TO_fr KTO_I7 (fun k => g332 52 k rfl) (fun k => g332 53 k rfl) (fun k => g332 54 k rfl) (fun k => g332 55 k rfl) (fun k => g332 6 k rfl) (g332 0 64 rfl) (g332 0 3 rfl)
            have KFM_I333 := gr_FM_fr KFM_I7 (fun k => g332 10 k rfl) (fun k => g332 55 k rfl) (fun k => g332 52 k rfl) (fun k => g332 53 k rfl) (fun k => g332 54 k rfl) (g332 0 64 rfl) (g332 0 3 rfl)
            have KMQ_I333 := gr_MQ_fr KMQ_I7 (fun k => g332 10 k rfl) (fun k => g332 55 k rfl) (fun k => g332 52 k rfl) (fun k => g332 53 k rfl) (fun k => g332 54 k rfl) (fun k => g332 60 k rfl) (g332 0 64 rfl) (g332 0 3 rfl) (g332 0 99 rfl)
            have A347 := gr_ATp_F e1_9 g332 k332 rfl
            have t348 := gr_ATp_l A347
            refine gv_callV hD rfl (As := [.inl 5]) (st := []) rfl (by decide) rfl rfl (gr_lV hws rfl) (Nat.le_of_ble_eq_true rfl) (gz_Ev_mono (d := 2) (by decide) E332) ?_
            show gv_X _ _ (94, [(4, .inl z281), (0, .inr (.inr (some 0))), (1, .inr (.inl v1_9)), (3, .inl v3_9)], [.inl z332], gr_sh ++ ext, gr_h I333 J334)
            have b349 : (I333 0 71 = 5 ∨ I333 0 73 ≤ I333 0 69) ∧ (I333 0 72 ≤ I333 0 69) ∧ (I333 0 71 = 0 ∨ (I333 0 72 < I333 0 73 ∧ I333 0 72 < I333 0 69)) ∧ (I333 0 71 = 3 → 2 ≤ I333 0 73 - I333 0 72 ∧ I333 0 73 - I333 0 72 ≤ 14) ∧ (I333 0 72 ≤ I333 0 73) ∧ (I333 0 69 = I 0 69) ∧ (I 0 73 ≤ I333 0 73) ∧ (I 0 72 ≤ I333 0 72) := by omega
            exact gv_zret hD rfl (by omega) ⟨I333, J334, rfl, hI333, FI333, FJ334, KGR_I333, KST_I333, KTO_I333, KFM_I333, KMQ_I333, ⟨_, rfl, by omega, by omega, b349.1, b349.2.1, b349.2.2.1, b349.2.2.2.1, b349.2.2.2.2.1, b349.2.2.2.2.2.1, b349.2.2.2.2.2.2.1, b349.2.2.2.2.2.2.2, (Or.inr ⟨by omega, by rw [e3_9, e4_9, gs_fl_x (by omega) (by omega)]; unfold gs_fun1 gs_fun2 gs_fun3; (repeat first | rw [if_pos (by omega)] | rw [if_neg (by omega)]); exact ⟨by omega, by omega, ⟨((g332 0 3 rfl).trans (e8_9.1)), fun j => ⟨((k332 3 j rfl).trans (e8_9.2.1 j)), ((g332 6 j rfl).trans (e8_9.2.2.1 j)), ((g332 7 j rfl).trans (e8_9.2.2.2.1 j)), ((g332 8 j rfl).trans (e8_9.2.2.2.2.1 j)), ((g332 10 j rfl).trans (e8_9.2.2.2.2.2.1 j)), ((g332 9 j rfl).trans (e8_9.2.2.2.2.2.2 j))⟩⟩⟩⟩)⟩⟩
  refine gv_run 1 true hD (pcₚ := 1) (lvₚ := [(0, .inr (.inr (some 0)))]) (stₚ := [.inr (.inr (some 0))]) (hₚ := gr_h I J) (C := (True ∧ True)) rfl ⟨trivial, trivial⟩ ?_
  obtain ⟨r350, h350, E350, P350⟩ := r_name_p (ws0 := ws0) (tb := tb) hws htb ext β N9 p9 I J hI   x6 (by omega)
  obtain ⟨I351, J352, rfl, hI351, g350, k350, ⟨z350, rfl, q350⟩⟩ := P350
  have FI351 := gr_frt FI g350 rfl rfl
  have FJ352 := gr_fjt FJ k350 rfl rfl
  have t353 := g350 0 71 rfl
  have t354 := g350 0 72 rfl
  have t355 := g350 0 73 rfl
  have t356 := g350 0 69 rfl
  have t357 := g350 0 3 rfl
  have t358 := g350 0 2 rfl
  have f359 := (gr_b_0_71 hI351)
  have f360 := (gr_b_0_72 hI351)
  have f361 := (gr_b_0_73 hI351)
  have f362 := (gr_b_0_69 hI351)
  have f363 := (gr_b_0_3 hI351)
  have f364 := (gr_b_0_2 hI351)
  have KGR_I351 := gr_GR_fr KGR_I (fun k => g350 19 k rfl) (fun k => g350 18 k rfl) (fun k => g350 36 k rfl) (fun k => g350 41 k rfl) (fun k => g350 42 k rfl) (fun k => g350 43 k rfl) (fun k => g350 45 k rfl) (fun k => g350 46 k rfl) (fun k => g350 47 k rfl) (fun k => g350 6 k rfl) (fun k => g350 7 k rfl) (fun k => g350 8 k rfl) (g350 0 3 rfl)
  have KST_I351 := gr_ST_fr KST_I (fun k => g350 6 k rfl) (fun k => g350 19 k rfl) (fun k => g350 18 k rfl) (fun k => g350 41 k rfl) (fun k => g350 36 k rfl) (g350 0 3 rfl)
  have KTO_I351 := gr_TO_fr KTO_I (fun k => g350 52 k rfl) (fun k => g350 53 k rfl) (fun k => g350 54 k rfl) (fun k => g350 55 k rfl) (fun k => g350 6 k rfl) (g350 0 64 rfl) (g350 0 3 rfl)
  have KFM_I351 := gr_FM_fr KFM_I (fun k => g350 10 k rfl) (fun k => g350 55 k rfl) (fun k => g350 52 k rfl) (fun k => g350 53 k rfl) (fun k => g350 54 k rfl) (g350 0 64 rfl) (g350 0 3 rfl)
  have KMQ_I351 := gr_MQ_fr KMQ_I (fun k => g350 10 k rfl) (fun k => g350 55 k rfl) (fun k => g350 52 k rfl) (fun k => g350 53 k rfl) (fun k => g350 54 k rfl) (fun k => g350 60 k rfl) (g350 0 64 rfl) (g350 0 3 rfl) (g350 0 99 rfl)
  have A365 := gr_ATp_F x6 g350 k350 rfl
  have t366 := gr_ATp_l A365
  refine gv_callV hD rfl (As := []) (st := []) rfl (by decide) rfl rfl (gr_lV hws rfl) (Nat.le_of_ble_eq_true rfl) (gz_Ev_mono (d := 3) (by decide) E350) ?_
  show gv_X _ _ (4, [(0, .inr (.inr (some 0)))], [.inl z350], gr_sh ++ ext, gr_h I351 J352)
  refine gv_if_ne (t := 9) hD rfl rfl ⟨by omega, by omega⟩ (fun c367 => ?_) (fun c367 => ?_)
  · refine gv_run 7 true hD (pcₚ := 20) (lvₚ := [(1, .inr (.inl (J352 0 75))), (0, .inr (.inr (some 0)))]) (stₚ := [.inr (.inr (some 0)), .inl 0, .inr (.inr (some 3))]) (hₚ := gr_h I351 J352) (C := (((((((True ∧ True) ∧ True) ∧ True) ∧ True) ∧ True) ∧ True) ∧ True)) rfl ⟨⟨⟨⟨⟨⟨⟨trivial, trivial⟩, trivial⟩, trivial⟩, trivial⟩, trivial⟩, trivial⟩, trivial⟩ ?_
    have f368 := (gr_b_0_3 hI351)
    refine gv_run 1 true hD (pcₚ := 23) (lvₚ := [(1, .inr (.inl (J352 0 75))), (0, .inr (.inr (some 0)))]) (stₚ := [.inl (I351 0 3), .inl 0, .inr (.inr (some 3))]) (hₚ := gr_h I351 J352) (C := (True ∧ True)) rfl ⟨trivial, trivial⟩ ?_
    rw [t357]
    refine gv_run 1 true hD (pcₚ := 24) (lvₚ := [(1, .inr (.inl (J352 0 75))), (0, .inr (.inr (some 0)))]) (stₚ := [.inr (.inl (J352 0 75)), .inl (I 0 3), .inl 0, .inr (.inr (some 3))]) (hₚ := gr_h I351 J352) (C := (True ∧ True)) rfl ⟨trivial, trivial⟩ ?_
    obtain ⟨r369, h369, E369, P369⟩ := r_find_3_p (ws0 := ws0) (tb := tb) hws htb ext I351 J352 hI351 0 (I 0 3) (J352 0 75) ⟨by omega, by omega⟩ ⟨by omega, by omega⟩ (by omega)
    obtain ⟨rfl, ⟨z369, rfl, q369⟩⟩ := P369
    have t370 := q369.2.2.2.trans (gs_lk_eq (I := I) (J := J) (w := gs_rn β N9 p9) (fun k => (k350 3 k rfl)) rfl (gr_ATp_w A365))
    refine gv_callS hD rfl (As := [.inr (.inr (some 3)), .inl 0, .inl (I 0 3), .inr (.inl (J352 0 75))]) (st := []) rfl (gr_lS hws rfl) (Nat.le_of_ble_eq_true rfl) (gz_Ev_mono (d := 1) (by decide) E369) ?_
    show gv_X _ _ (27, [(1, .inr (.inl (J352 0 75))), (0, .inr (.inr (some 0)))], [.inl z369], gr_sh ++ ext, gr_h I351 J352)
    refine gv_if_lt (t := 36) hD rfl rfl ⟨by omega, by omega⟩ (fun c371 => ?_) (fun c371 => ?_)
    · refine gv_run 1 true hD (pcₚ := 37) (lvₚ := [(1, .inr (.inl (J352 0 75))), (0, .inr (.inr (some 0)))]) (stₚ := [.inr (.inr (some 0))]) (hₚ := gr_h I351 J352) (C := (True ∧ True)) rfl ⟨trivial, trivial⟩ ?_
      obtain ⟨r372, h372, E372, P372⟩ := r_next_p (ws0 := ws0) (tb := tb) hws htb ext β N9 I351 J352 hI351   (by omega) A365.1.1 A365.1.2
      obtain ⟨I373, J374, rfl, hI373, g372, k372, ⟨rfl, q372⟩⟩ := P372
      have FI373 := gr_frt FI351 g372 rfl rfl
      have FJ374 := gr_fjt FJ352 k372 rfl rfl
      have t375 := g372 0 69 rfl
      have t376 := g372 0 3 rfl
      have t377 := g372 0 2 rfl
      have f378 := (gr_b_0_71 hI373)
      have f379 := (gr_b_0_72 hI373)
      have f380 := (gr_b_0_73 hI373)
      have f381 := (gr_b_0_69 hI373)
      have f382 := (gr_b_0_3 hI373)
      have f383 := (gr_b_0_2 hI373)
      have KGR_I373 := gr_GR_fr KGR_I351 (fun k => g372 19 k rfl) (fun k => g372 18 k rfl) (fun k => g372 36 k rfl) (fun k => g372 41 k rfl) (fun k => g372 42 k rfl) (fun k => g372 43 k rfl) (fun k => g372 45 k rfl) (fun k => g372 46 k rfl) (fun k => g372 47 k rfl) (fun k => g372 6 k rfl) (fun k => g372 7 k rfl) (fun k => g372 8 k rfl) (g372 0 3 rfl)
      have KST_I373 := gr_ST_fr KST_I351 (fun k => g372 6 k rfl) (fun k => g372 19 k rfl) (fun k => g372 18 k rfl) (fun k => g372 41 k rfl) (fun k => g372 36 k rfl) (g372 0 3 rfl)
      have KTO_I373 := gr_TO_fr KTO_I351 (fun k => g372 52 k rfl) (fun k => g372 53 k rfl) (fun k => g372 54 k rfl) (fun k => g372 55 k rfl) (fun k => g372 6 k rfl) (g372 0 64 rfl) (g372 0 3 rfl)
      have KFM_I373 := gr_FM_fr KFM_I351 (fun k => g372 10 k rfl) (fun k => g372 55 k rfl) (fun k => g372 52 k rfl) (fun k => g372 53 k rfl) (fun k => g372 54 k rfl) (g372 0 64 rfl) (g372 0 3 rfl)
      have KMQ_I373 := gr_MQ_fr KMQ_I351 (fun k => g372 10 k rfl) (fun k => g372 55 k rfl) (fun k => g372 52 k rfl) (fun k => g372 53 k rfl) (fun k => g372 54 k rfl) (fun k => g372 60 k rfl) (g372 0 64 rfl) (g372 0 3 rfl) (g372 0 99 rfl)
      have A384 := gr_ATp_nx A365 q372.2.2.2.2.2
      have t385 := gr_ATp_l A384
      refine gv_callV hD rfl (As := []) (st := []) rfl (by decide) rfl rfl (gr_lV hws rfl) (Nat.le_of_ble_eq_true rfl) (gz_Ev_mono (d := 10) (by decide) E372) ?_
      show gv_X _ _ (40, [(1, .inr (.inl (J352 0 75))), (0, .inr (.inr (some 0)))], [], gr_sh ++ ext, gr_h I373 J374)
      refine gv_run 2 true hD (pcₚ := 43) (lvₚ := [(1, .inr (.inl (J352 0 75))), (0, .inr (.inr (some 0)))]) (stₚ := [.inl 58, .inr (.inr (some 0))]) (hₚ := gr_h I373 J374) (C := ((True ∧ True) ∧ True)) rfl ⟨⟨trivial, trivial⟩, trivial⟩ ?_
      obtain ⟨r386, h386, E386, P386⟩ := r_need_p (ws0 := ws0) (tb := tb) hws htb ext β N9 (gs_X β N9 p9) I373 J374 hI373 58 ⟨by omega, by omega⟩ (by omega) (by omega) (by omega) (by omega) (by omega) A384 (by omega)
      obtain ⟨I387, J388, rfl, hI387, g386, k386, ⟨z386, rfl, q386⟩⟩ := P386
      have FI387 := gr_frt FI373 g386 rfl rfl
      have FJ388 := gr_fjt FJ374 k386 rfl rfl
      have t389 := g386 0 69 rfl
      have t390 := g386 0 3 rfl
      have t391 := g386 0 2 rfl
      have f392 := (gr_b_0_71 hI387)
      have f393 := (gr_b_0_72 hI387)
      have f394 := (gr_b_0_73 hI387)
      have f395 := (gr_b_0_69 hI387)
      have f396 := (gr_b_0_3 hI387)
      have f397 := (gr_b_0_2 hI387)
      have KGR_I387 := gr_GR_fr KGR_I373 (fun k => g386 19 k rfl) (fun k => g386 18 k rfl) (fun k => g386 36 k rfl) (fun k => g386 41 k rfl) (fun k => g386 42 k rfl) (fun k => g386 43 k rfl) (fun k => g386 45 k rfl) (fun k => g386 46 k rfl) (fun k => g386 47 k rfl) (fun k => g386 6 k rfl) (fun k => g386 7 k rfl) (fun k => g386 8 k rfl) (g386 0 3 rfl)
      have KST_I387 := gr_ST_fr KST_I373 (fun k => g386 6 k rfl) (fun k => g386 19 k rfl) (fun k => g386 18 k rfl) (fun k => g386 41 k rfl) (fun k => g386 36 k rfl) (g386 0 3 rfl)
      have KTO_I387 := gr_TO_fr KTO_I373 (fun k => g386 52 k rfl) (fun k => g386 53 k rfl) (fun k => g386 54 k rfl) (fun k => g386 55 k rfl) (fun k => g386 6 k rfl) (g386 0 64 rfl) (g386 0 3 rfl)
      have KFM_I387 := gr_FM_fr KFM_I373 (fun k => g386 10 k rfl) (fun k => g386 55 k rfl) (fun k => g386 52 k rfl) (fun k => g386 53 k rfl) (fun k => g386 54 k rfl) (g386 0 64 rfl) (g386 0 3 rfl)
      have KMQ_I387 := gr_MQ_fr KMQ_I373 (fun k => g386 10 k rfl) (fun k => g386 55 k rfl) (fun k => g386 52 k rfl) (fun k => g386 53 k rfl) (fun k => g386 54 k rfl) (fun k => g386 60 k rfl) (g386 0 64 rfl) (g386 0 3 rfl) (g386 0 99 rfl)
      refine gv_callV hD rfl (As := [.inl 58]) (st := []) rfl (by decide) rfl rfl (gr_lV hws rfl) (Nat.le_of_ble_eq_true rfl) (gz_Ev_mono (d := 11) (by decide) E386) ?_
      show gv_X _ _ (46, [(1, .inr (.inl (J352 0 75))), (0, .inr (.inr (some 0)))], [.inl z386], gr_sh ++ ext, gr_h I387 J388)
      refine gv_if_ne (t := 51) hD rfl rfl ⟨by omega, by omega⟩ (fun c398 => ?_) (fun c398 => ?_)
      · obtain ⟨u399, A399⟩ := gs_or1 q386.2.2.2.2.2.2.2.2.2.2.2 (by omega)
        have t400 := gr_ATp_l A399
        refine gv_run 2 true hD (pcₚ := 53) (lvₚ := [(3, .inl 0), (1, .inr (.inl (J352 0 75))), (0, .inr (.inr (some 0)))]) (stₚ := []) (hₚ := gr_h I387 J388) (C := ((True ∧ True) ∧ True)) rfl ⟨⟨trivial, trivial⟩, trivial⟩ ?_
        refine gv_pick [2, 1, 0] rfl ?_
        exact L53 _ I387 J388 (J352 0 75) 0 ((gs_need β N9 58 (gs_X β N9 p9))) (Nat.lt_succ_self _) hI387 FI387 FJ388 KGR_I387 KST_I387 KTO_I387 KFM_I387 KMQ_I387 (by omega) A399 (gr_ATp_w A365) (by unfold gs_fun gs_fun0; (repeat first | rw [if_pos (by omega)] | rw [if_neg (by omega)])) rfl (by show _ = (0 : Int) + gs_cn β N9 5 (gs_need β N9 58 (gs_X β N9 p9)); omega) rfl (fun i h => absurd h (by omega)) ⟨(((g386 0 3 rfl).trans (g372 0 3 rfl)).trans (g350 0 3 rfl)), (fun k => (((k386 3 k rfl).trans (k372 3 k rfl)).trans (k350 3 k rfl))), (fun k => (((g386 6 k rfl).trans (g372 6 k rfl)).trans (g350 6 k rfl))), (fun k => (((g386 7 k rfl).trans (g372 7 k rfl)).trans (g350 7 k rfl))), (fun k => (((g386 8 k rfl).trans (g372 8 k rfl)).trans (g350 8 k rfl))), (fun k => (((g386 10 k rfl).trans (g372 10 k rfl)).trans (g350 10 k rfl))), (fun k => (((g386 9 k rfl).trans (g372 9 k rfl)).trans (g350 9 k rfl)))⟩
      · obtain ⟨u401, u401_⟩ := gs_or0 q386.2.2.2.2.2.2.2.2.2.2.2 (by omega)
        refine gv_run 1 true hD (pcₚ := 50) (lvₚ := [(1, .inr (.inl (J352 0 75))), (0, .inr (.inr (some 0)))]) (stₚ := [.inl 0]) (hₚ := gr_h I387 J388) (C := (True ∧ True)) rfl ⟨trivial, trivial⟩ ?_
        have b402 : (I387 0 71 = 5 ∨ I387 0 73 ≤ I387 0 69) ∧ (I387 0 72 ≤ I387 0 69) ∧ (I387 0 71 = 0 ∨ (I387 0 72 < I387 0 73 ∧ I387 0 72 < I387 0 69)) ∧ (I387 0 71 = 3 → 2 ≤ I387 0 73 - I387 0 72 ∧ I387 0 73 - I387 0 72 ≤ 14) ∧ (I387 0 72 ≤ I387 0 73) ∧ (I387 0 69 = I 0 69) ∧ (I 0 73 ≤ I387 0 73) ∧ (I 0 72 ≤ I387 0 72) := by omega
        exact gv_zret hD rfl (by omega) ⟨I387, J388, rfl, hI387, FI387, FJ388, KGR_I387, KST_I387, KTO_I387, KFM_I387, KMQ_I387, ⟨_, rfl, by omega, by omega, b402.1, b402.2.1, b402.2.2.1, b402.2.2.2.1, b402.2.2.2.2.1, b402.2.2.2.2.2.1, b402.2.2.2.2.2.2.1, b402.2.2.2.2.2.2.2, (Or.inr ⟨by omega, by unfold gs_fun gs_fun0; (repeat first | rw [if_pos (by omega)] | rw [if_neg (by omega)]); exact ⟨by omega, by omega, ⟨(((g386 0 3 rfl).trans (g372 0 3 rfl)).trans (g350 0 3 rfl)), fun j => ⟨(((k386 3 j rfl).trans (k372 3 j rfl)).trans (k350 3 j rfl)), (((g386 6 j rfl).trans (g372 6 j rfl)).trans (g350 6 j rfl)), (((g386 7 j rfl).trans (g372 7 j rfl)).trans (g350 7 j rfl)), (((g386 8 j rfl).trans (g372 8 j rfl)).trans (g350 8 j rfl)), (((g386 10 j rfl).trans (g372 10 j rfl)).trans (g350 10 j rfl)), (((g386 9 j rfl).trans (g372 9 j rfl)).trans (g350 9 j rfl))⟩⟩⟩⟩)⟩⟩
    · refine gv_run 2 true hD (pcₚ := 32) (lvₚ := [(1, .inr (.inl (J352 0 75))), (0, .inr (.inr (some 0)))]) (stₚ := [.inl 4, .inr (.inr (some 0))]) (hₚ := gr_h I351 J352) (C := ((True ∧ True) ∧ True)) rfl ⟨⟨trivial, trivial⟩, trivial⟩ ?_
      obtain ⟨r403, h403, E403, P403⟩ := r_no__p (ws0 := ws0) (tb := tb) hws htb ext β N9 p9 I351 J352 hI351 4 ⟨by omega, by omega⟩ A365 (by omega)
      obtain ⟨I404, J405, rfl, hI404, g403, k403, ⟨z403, rfl, q403⟩⟩ := P403
      have FI404 := gr_frt FI351 g403 rfl rfl
      have FJ405 := gr_fjt FJ352 k403 rfl rfl
      have t406 := g403 0 71 rfl
      have t407 := g403 0 72 rfl
      have t408 := g403 0 73 rfl
      have t409 := g403 0 69 rfl
      have t410 := g403 0 3 rfl
      have t411 := g403 0 2 rfl
      have f412 := (gr_b_0_71 hI404)
      have f413 := (gr_b_0_72 hI404)
      have f414 := (gr_b_0_73 hI404)
      have f415 := (gr_b_0_69 hI404)
      have f416 := (gr_b_0_3 hI404)
      have f417 := (gr_b_0_2 hI404)
      have KGR_I404 := gr_GR_fr KGR_I351 (fun k => g403 19 k rfl) (fun k => g403 18 k rfl) (fun k => g403 36 k rfl) (fun k => g403 41 k rfl) (fun k => g403 42 k rfl) (fun k => g403 43 k rfl) (fun k => g403 45 k rfl) (fun k => g403 46 k rfl) (fun k => g403 47 k rfl) (fun k => g403 6 k rfl) (fun k => g403 7 k rfl) (fun k => g403 8 k rfl) (g403 0 3 rfl)
      have KST_I404 := gr_ST_fr KST_I351 (fun k => g403 6 k rfl) (fun k => g403 19 k rfl) (fun k => g403 18 k rfl) (fun k => g403 41 k rfl) (fun k => g403 36 k rfl) (g403 0 3 rfl)
      have KTO_I404 := gr_TO_fr KTO_I351 (fun k => g403 52 k rfl) (fun k => g403 53 k rfl) (fun k => g403 54 k rfl) (fun k => g403 55 k rfl) (fun k => g403 6 k rfl) (g403 0 64 rfl) (g403 0 3 rfl)
      have KFM_I404 := gr_FM_fr KFM_I351 (fun k => g403 10 k rfl) (fun k => g403 55 k rfl) (fun k => g403 52 k rfl) (fun k => g403 53 k rfl) (fun k => g403 54 k rfl) (g403 0 64 rfl) (g403 0 3 rfl)
      have KMQ_I404 := gr_MQ_fr KMQ_I351 (fun k => g403 10 k rfl) (fun k => g403 55 k rfl) (fun k => g403 52 k rfl) (fun k => g403 53 k rfl) (fun k => g403 54 k rfl) (fun k => g403 60 k rfl) (g403 0 64 rfl) (g403 0 3 rfl) (g403 0 99 rfl)
      have A418 := gr_ATp_F A365 g403 k403 rfl
      have t419 := gr_ATp_l A418
      refine gv_callV hD rfl (As := [.inl 4]) (st := []) rfl (by decide) rfl rfl (gr_lV hws rfl) (Nat.le_of_ble_eq_true rfl) (gz_Ev_mono (d := 2) (by decide) E403) ?_
      show gv_X _ _ (35, [(1, .inr (.inl (J352 0 75))), (0, .inr (.inr (some 0)))], [.inl z403], gr_sh ++ ext, gr_h I404 J405)
      have b420 : (I404 0 71 = 5 ∨ I404 0 73 ≤ I404 0 69) ∧ (I404 0 72 ≤ I404 0 69) ∧ (I404 0 71 = 0 ∨ (I404 0 72 < I404 0 73 ∧ I404 0 72 < I404 0 69)) ∧ (I404 0 71 = 3 → 2 ≤ I404 0 73 - I404 0 72 ∧ I404 0 73 - I404 0 72 ≤ 14) ∧ (I404 0 72 ≤ I404 0 73) ∧ (I404 0 69 = I 0 69) ∧ (I 0 73 ≤ I404 0 73) ∧ (I 0 72 ≤ I404 0 72) := by omega
      exact gv_zret hD rfl (by omega) ⟨I404, J405, rfl, hI404, FI404, FJ405, KGR_I404, KST_I404, KTO_I404, KFM_I404, KMQ_I404, ⟨_, rfl, by omega, by omega, b420.1, b420.2.1, b420.2.2.1, b420.2.2.2.1, b420.2.2.2.2.1, b420.2.2.2.2.2.1, b420.2.2.2.2.2.2.1, b420.2.2.2.2.2.2.2, (Or.inr ⟨by omega, by unfold gs_fun gs_fun0; (repeat first | rw [if_pos (by omega)] | rw [if_neg (by omega)]); exact ⟨by omega, by omega, ⟨((g403 0 3 rfl).trans (g350 0 3 rfl)), fun j => ⟨((k403 3 j rfl).trans (k350 3 j rfl)), ((g403 6 j rfl).trans (g350 6 j rfl)), ((g403 7 j rfl).trans (g350 7 j rfl)), ((g403 8 j rfl).trans (g350 8 j rfl)), ((g403 10 j rfl).trans (g350 10 j rfl)), ((g403 9 j rfl).trans (g350 9 j rfl))⟩⟩⟩⟩)⟩⟩
  · refine gv_run 1 true hD (pcₚ := 8) (lvₚ := [(0, .inr (.inr (some 0)))]) (stₚ := [.inl 0]) (hₚ := gr_h I351 J352) (C := (True ∧ True)) rfl ⟨trivial, trivial⟩ ?_
    have b421 : (I351 0 71 = 5 ∨ I351 0 73 ≤ I351 0 69) ∧ (I351 0 72 ≤ I351 0 69) ∧ (I351 0 71 = 0 ∨ (I351 0 72 < I351 0 73 ∧ I351 0 72 < I351 0 69)) ∧ (I351 0 71 = 3 → 2 ≤ I351 0 73 - I351 0 72 ∧ I351 0 73 - I351 0 72 ≤ 14) ∧ (I351 0 72 ≤ I351 0 73) ∧ (I351 0 69 = I 0 69) ∧ (I 0 73 ≤ I351 0 73) ∧ (I 0 72 ≤ I351 0 72) := by omega
    exact gv_zret hD rfl (by omega) ⟨I351, J352, rfl, hI351, FI351, FJ352, KGR_I351, KST_I351, KTO_I351, KFM_I351, KMQ_I351, ⟨_, rfl, by omega, by omega, b421.1, b421.2.1, b421.2.2.1, b421.2.2.2.1, b421.2.2.2.2.1, b421.2.2.2.2.2.1, b421.2.2.2.2.2.2.1, b421.2.2.2.2.2.2.2, (Or.inr ⟨by omega, by unfold gs_fun gs_fun0; (repeat first | rw [if_pos (by omega)] | rw [if_neg (by omega)]); exact ⟨by omega, by omega, ⟨(g350 0 3 rfl), fun j => ⟨(k350 3 j rfl), (g350 6 j rfl), (g350 7 j rfl), (g350 8 j rfl), (g350 10 j rfl), (g350 9 j rfl)⟩⟩⟩⟩)⟩⟩
