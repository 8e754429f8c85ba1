set_option maxHeartbeats 32000000 in
set_option maxRecDepth 100000 in
theorem r_mean_p {ws0 : List Cond} {tb : String → gz_T} (hws : ∀ w ∈ gr_ws, w ∈ ws0) (htb : tb RX13 = gr_T) (ext : gz_Sh) (I9 : gr_I) (β : Int → Int) (N9 : Int) (p9 : Int) (I : gr_I) (J : gr_J) (hI : gr_Inv I)   (x0 : I 0 71 = 5 ∨ I 0 73 ≤ I 0 69) (x1 : I 0 72 ≤ I 0 69) (x2 : I 0 71 = 0 ∨ (I 0 72 < I 0 73 ∧ I 0 72 < I 0 69)) (x3 : I 0 71 = 3 → 2 ≤ I 0 73 - I 0 72 ∧ I 0 73 - I 0 72 ≤ 14) (x4 : I 0 72 ≤ I 0 73) (x5 : I 0 64 + I 0 69 - I 0 72 ≤ 1900) (x6 : I 0 99 ≤ I 0 72) (x7 : gr_ATp β N9 p9 I J) (x8 : 0 ≤ p9) (KTM_I : gr_TM I) (KTO_I : gr_TO I) (KFM_I : gr_FM I) (KMQ_I : gr_MQ I9 I) : ∃ r h', gz_Ev ws0 tb 99 (yX13_mean, cX13_mean, 4, (some .boolean)) [.inr (.inr (some 0))] (gr_sh ++ ext) (gr_h I J) r (gr_sh ++ ext) h' 0 0 ∧ (∃ (I' : gr_I) (J' : gr_J), h' = gr_h I' J' ∧ gr_Inv I' ∧ gr_fr [64, 71, 72, 73, 74, 75, 76, 77, 99, 122, 123] [10, 52, 53, 54, 55, 60, 75] I I' ∧ gr_fj [64, 71, 72, 73, 74, 75, 76, 77, 99, 122, 123] [10, 52, 53, 54, 55, 60, 75] J J' ∧ gr_TM I' ∧ gr_TO I' ∧ gr_FM I' ∧ gr_MQ I9 I' ∧ (∃ z : Int, r = some (.inl z) ∧ 0 ≤ z ∧ z ≤ 1 ∧ (I' 0 71 = 5 ∨ I' 0 73 ≤ I' 0 69) ∧ (I' 0 72 ≤ I' 0 69) ∧ (I' 0 71 = 0 ∨ (I' 0 72 < I' 0 73 ∧ I' 0 72 < I' 0 69)) ∧ (I' 0 71 = 3 → 2 ≤ I' 0 73 - I' 0 72 ∧ I' 0 73 - I' 0 72 ≤ 14) ∧ (I' 0 72 ≤ I' 0 73) ∧ (I' 0 69 = I 0 69) ∧ (I 0 73 ≤ I' 0 73) ∧ (I 0 72 ≤ I' 0 72) ∧ (I 0 64 ≤ I' 0 64) ∧ (I' 0 64 - I' 0 72 ≤ I 0 64 - I 0 72) ∧ (I' 0 99 ≤ I' 0 72) ∧ (gs_Or z (0 ≤ (gs_mn β N9 I J (I 0 78) p9) ∧ gr_ATp β N9 (gs_mn β N9 I J (I 0 78) p9) I' J' ∧ gs_Umn (gs_lk I J 3 3 (gs_rn β N9 p9)) I I') ((gs_mn β N9 I J (I 0 78) p9) < 0 ∧ I' 0 77 = -1 - (gs_mn β N9 I J (I 0 78) p9) ∧ gs_Smn I I')))) := by
  have FI : gr_fr [64, 71, 72, 73, 74, 75, 76, 77, 99, 122, 123] [10, 52, 53, 54, 55, 60, 75] I I := fun _ _ _ => rfl
  have FJ : gr_fj [64, 71, 72, 73, 74, 75, 76, 77, 99, 122, 123] [10, 52, 53, 54, 55, 60, 75] J J := fun _ _ _ => rfl
  have hD : gv_D (gr_E ws0 tb 98 (yX13_mean, cX13_mean, 4, (some .boolean)) kX13_mean) := gq_of oX13_mean
  refine gr_ev (d := 98) (l := kX13_mean) (Po := fun r h' => (∃ (I' : gr_I) (J' : gr_J), h' = gr_h I' J' ∧ gr_Inv I' ∧ gr_fr [64, 71, 72, 73, 74, 75, 76, 77, 99, 122, 123] [10, 52, 53, 54, 55, 60, 75] I I' ∧ gr_fj [64, 71, 72, 73, 74, 75, 76, 77, 99, 122, 123] [10, 52, 53, 54, 55, 60, 75] J J' ∧ gr_TM I' ∧ gr_TO I' ∧ gr_FM I' ∧ gr_MQ I9 I' ∧ (∃ z : Int, r = some (.inl z) ∧ 0 ≤ z ∧ z ≤ 1 ∧ (I' 0 71 = 5 ∨ I' 0 73 ≤ I' 0 69) ∧ (I' 0 72 ≤ I' 0 69) ∧ (I' 0 71 = 0 ∨ (I' 0 72 < I' 0 73 ∧ I' 0 72 < I' 0 69)) ∧ (I' 0 71 = 3 → 2 ≤ I' 0 73 - I' 0 72 ∧ I' 0 73 - I' 0 72 ≤ 14) ∧ (I' 0 72 ≤ I' 0 73) ∧ (I' 0 69 = I 0 69) ∧ (I 0 73 ≤ I' 0 73) ∧ (I 0 72 ≤ I' 0 72) ∧ (I 0 64 ≤ I' 0 64) ∧ (I' 0 64 - I' 0 72 ≤ I 0 64 - I 0 72) ∧ (I' 0 99 ≤ I' 0 72) ∧ (gs_Or z (0 ≤ (gs_mn β N9 I J (I 0 78) p9) ∧ gr_ATp β N9 (gs_mn β N9 I J (I 0 78) p9) I' J' ∧ gs_Umn (gs_lk I J 3 3 (gs_rn β N9 p9)) I I') ((gs_mn β N9 I J (I 0 78) p9) < 0 ∧ I' 0 77 = -1 - (gs_mn β N9 I J (I 0 78) p9) ∧ gs_Smn I I'))))) htb rfl (Nat.le_of_ble_eq_true rfl) ?_
  have tAT := gr_ATp_l x7
  clear x0 x2 x3
  have f1 := (gr_b_0_71 hI)
  have f2 := (gr_b_0_72 hI)
  have f3 := (gr_b_0_73 hI)
  have f4 := (gr_b_0_69 hI)
  have f5 := (gr_b_0_64 hI)
  have f6 := (gr_b_0_99 hI)
  have f7 := (gr_b_0_122 hI)
  have f8 := (gr_b_0_3 hI)
  have f9 := (gr_b_0_123 hI)
  have f10 := (gr_b_0_77 hI)
  have L108 : ∀ (I11 : gr_I) (J12 : gr_J) (v1_13 : Int) (v3_13 : Int) (s1_13 : Int) (p_13 : Int), gr_Inv I11 → gr_fr [64, 71, 72, 73, 74, 75, 76, 77, 99, 122, 123] [10, 52, 53, 54, 55, 60, 75] I I11 → gr_fj [64, 71, 72, 73, 74, 75, 76, 77, 99, 122, 123] [10, 52, 53, 54, 55, 60, 75] J J12 → gr_TM I11 → gr_TO I11 → gr_FM I11 → gr_MQ I9 I11 → ((0 ≤ v1_13 ∧ v1_13 ≤ 95) ∧ (0 ≤ v3_13 ∧ v3_13 ≤ 1999) ∧ (0 ≤ s1_13 ∧ s1_13 ≤ 1) ∧ (I 0 64 ≤ I11 0 64) ∧ (I11 0 64 - I11 0 72 ≤ I 0 64 - I 0 72) ∧ (I 0 72 + 1 ≤ I11 0 72) ∧ (I11 0 99 = I 0 99) ∧ (I 0 72 ≤ 999) ∧ (v1_13 < I11 0 3) ∧ (v3_13 < I11 0 64) ∧ (0 ≤ p_13) ∧ (I11 0 72 ≤ I11 0 69) ∧ (I11 0 72 ≤ I11 0 73) ∧ (I11 0 69 = I 0 69) ∧ (I 0 73 ≤ I11 0 73) ∧ (I 0 72 ≤ I11 0 72)) → (gr_OWN v3_13 v1_13 0 I11) → (gr_ATp β N9 p_13 I11 J12) → ((gs_mn β N9 I J (I 0 78) p9) = gs_done β N9 s1_13 (I 0 78) p_13) → (v1_13 = gs_lk I J 3 3 (gs_rn β N9 p9)) → (I11 0 99 = I 0 99 ∧ (∀ k, I11 10 k = I 10 k) ∧ (∀ k, I11 60 k = I 60 k)) → gv_X (gr_E ws0 tb 98 (yX13_mean, cX13_mean, 4, (some .boolean)) kX13_mean) (gv_Q cX13_mean (some .boolean) (gr_sh ++ ext) (fun r h' => (∃ (I' : gr_I) (J' : gr_J), h' = gr_h I' J' ∧ gr_Inv I' ∧ gr_fr [64, 71, 72, 73, 74, 75, 76, 77, 99, 122, 123] [10, 52, 53, 54, 55, 60, 75] I I' ∧ gr_fj [64, 71, 72, 73, 74, 75, 76, 77, 99, 122, 123] [10, 52, 53, 54, 55, 60, 75] J J' ∧ gr_TM I' ∧ gr_TO I' ∧ gr_FM I' ∧ gr_MQ I9 I' ∧ (∃ z : Int, r = some (.inl z) ∧ 0 ≤ z ∧ z ≤ 1 ∧ (I' 0 71 = 5 ∨ I' 0 73 ≤ I' 0 69) ∧ (I' 0 72 ≤ I' 0 69) ∧ (I' 0 71 = 0 ∨ (I' 0 72 < I' 0 73 ∧ I' 0 72 < I' 0 69)) ∧ (I' 0 71 = 3 → 2 ≤ I' 0 73 - I' 0 72 ∧ I' 0 73 - I' 0 72 ≤ 14) ∧ (I' 0 72 ≤ I' 0 73) ∧ (I' 0 69 = I 0 69) ∧ (I 0 73 ≤ I' 0 73) ∧ (I 0 72 ≤ I' 0 72) ∧ (I 0 64 ≤ I' 0 64) ∧ (I' 0 64 - I' 0 72 ≤ I 0 64 - I 0 72) ∧ (I' 0 99 ≤ I' 0 72) ∧ (gs_Or z (0 ≤ (gs_mn β N9 I J (I 0 78) p9) ∧ gr_ATp β N9 (gs_mn β N9 I J (I 0 78) p9) I' J' ∧ gs_Umn (gs_lk I J 3 3 (gs_rn β N9 p9)) I I') ((gs_mn β N9 I J (I 0 78) p9) < 0 ∧ I' 0 77 = -1 - (gs_mn β N9 I J (I 0 78) p9) ∧ gs_Smn I I')))))) (108, [(0, .inr (.inr (some 0))), (1, .inl v1_13), (3, .inl v3_13)], [.inl s1_13, .inr (.inr (some 0))], gr_sh ++ ext, gr_h I11 J12) := by
    intro I11 J12 v1_13 v3_13 s1_13 p_13 hI11 FI11 FJ12 KTM_I11 KTO_I11 KFM_I11 KMQ_I11 m_13 e7_13 e9_13 e10_13 e11_13 e12_13
    obtain ⟨hv1_13, hv3_13, hs1_13, e0_13, e1_13, e2_13, e3_13, e4_13, e5_13, e6_13, e8_13, e13_13, e14_13, e15_13, e16_13, e17_13⟩ := m_13
    have f14 := (gr_b_0_71 hI11)
    have f15 := (gr_b_0_72 hI11)
    have f16 := (gr_b_0_73 hI11)
    have f17 := (gr_b_0_69 hI11)
    have f18 := (gr_b_0_64 hI11)
    have f19 := (gr_b_0_99 hI11)
    have f20 := (gr_b_0_122 hI11)
    have f21 := (gr_b_0_3 hI11)
    have f22 := (gr_b_0_123 hI11)
    have f23 := (gr_b_0_77 hI11)
    have t24 := gr_ATp_l e9_13
    obtain ⟨r25, h25, E25, P25⟩ := r_done_p (ws0 := ws0) (tb := tb) hws htb ext β N9 p_13 I11 J12 hI11 s1_13 ⟨by exact gz_m 0 (by omega), by exact gz_m 1 (by omega)⟩ (gr_ATp_rr e9_13).1 (gr_ATp_rr e9_13).2.1 (gr_ATp_rr e9_13).2.2.1 (gr_ATp_rr e9_13).2.2.2.1 (gr_ATp_rr e9_13).2.2.2.2 e9_13 (by exact gz_m 2 (by omega))
    obtain ⟨I26, J27, rfl, hI26, g25, k25, ⟨z25, rfl, q25⟩⟩ := P25
    have FI26 := gr_frt FI11 g25 rfl rfl
    have FJ27 := gr_fjt FJ12 k25 rfl rfl
    have t28 := g25 0 69 rfl
    have t29 := g25 0 64 rfl
    have t30 := g25 0 99 rfl
    have t31 := g25 0 122 rfl
    have t32 := g25 0 3 rfl
    have t33 := g25 0 123 rfl
    have f34 := (gr_b_0_71 hI26)
    have f35 := (gr_b_0_72 hI26)
    have f36 := (gr_b_0_73 hI26)
    have f37 := (gr_b_0_69 hI26)
    have f38 := (gr_b_0_64 hI26)
    have f39 := (gr_b_0_99 hI26)
    have f40 := (gr_b_0_122 hI26)
    have f41 := (gr_b_0_3 hI26)
    have f42 := (gr_b_0_123 hI26)
    have f43 := (gr_b_0_77 hI26)
    have KTM_I26 := gr_TM_fr KTM_I11 (fun k => g25 52 k rfl) (fun k => g25 53 k rfl) (fun k => g25 54 k rfl) (g25 0 64 rfl)
    have KTO_I26 := gr_TO_fr KTO_I11 (fun k => g25 52 k rfl) (fun k => g25 53 k rfl) (fun k => g25 54 k rfl) (fun k => g25 55 k rfl) (fun k => g25 6 k rfl) (g25 0 64 rfl) (g25 0 3 rfl)
    have KFM_I26 := gr_FM_fr KFM_I11 (fun k => g25 10 k rfl) (fun k => g25 55 k rfl) (fun k => g25 52 k rfl) (fun k => g25 53 k rfl) (fun k => g25 54 k rfl) (g25 0 64 rfl) (g25 0 3 rfl)
    have KMQ_I26 := gr_MQ_fr KMQ_I11 (fun k => g25 10 k rfl) (fun k => g25 55 k rfl) (fun k => g25 52 k rfl) (fun k => g25 53 k rfl) (fun k => g25 54 k rfl) (fun k => g25 60 k rfl) (g25 0 64 rfl) (g25 0 3 rfl) (g25 0 99 rfl)
    refine gv_callV hD rfl (As := [.inl s1_13]) (st := []) rfl (by decide) rfl rfl (gr_lV hws rfl) (Nat.le_of_ble_eq_true rfl) (gz_Ev_mono (d := 11) (by decide) E25) ?_
    show gv_X _ _ (111, [(0, .inr (.inr (some 0))), (1, .inl v1_13), (3, .inl v3_13)], [.inl z25], gr_sh ++ ext, gr_h I26 J27)
    refine gv_if_ne (t := 116) hD rfl rfl ⟨by exact gz_m 3 (by omega), by exact gz_m 4 (by omega)⟩ (fun c44 => ?_) (fun c44 => ?_)
    · have Q45 := q25.2.2.2.2.2.2.2.2.2.2.2.2
      rw [FI11 0 78 rfl] at Q45
      obtain ⟨u45, A45⟩ := gs_or1 Q45 (by exact gz_m 5 (by omega))
      have t46 := gr_ATp_l A45
      have t47 := (q25.2.2.2.2.2.2.2.2.2.2.1).resolve_left (by exact gz_m 6 (by omega))
      have t48 := (q25.2.2.2.2.2.2.2.2.2.2.2.1).resolve_left (by exact gz_m 7 (by omega))
      obtain ⟨_, _, -, _, -, -, _, _, _, _, -, -, -⟩ := q25
      have t49 := (gr_ATp_rr e9_13).2.2.1.resolve_left (by exact gz_m 8 (by omega))
      refine gv_run 4 true hD (pc' := 122) (lv' := [(0, .inr (.inr (some 0))), (1, .inl v1_13), (3, .inl v3_13)]) (st' := [.inl v3_13, .inl v1_13, .inr (.inr (some 10))]) (h' := gr_h I26 J27) (C := ((((True ∧ True) ∧ True) ∧ True) ∧ True)) rfl ⟨⟨⟨⟨trivial, trivial⟩, trivial⟩, trivial⟩, trivial⟩ ?_
      refine gv_run 1 true hD (pc' := 123) (lv' := [(0, .inr (.inr (some 0))), (1, .inl v1_13), (3, .inl v3_13)]) (st' := []) (h' := gz_up (gr_h I26 J27) 10 (Int.toNat v1_13) (.inl v3_13)) (C := (True ∧ (0 ≤ v1_13 ∧ v1_13 < ((96 : Nat) : Int)))) rfl ⟨trivial, ⟨by exact gz_m 9 (by omega), by exact gz_m 10 (by omega)⟩⟩ ?_
      refine gr_st hI26 FI26 rfl rfl ⟨⟨by show (-1) ≤ _; exact gz_m 11 (by omega), by show _ ≤ 1999; exact gz_m 12 (by omega)⟩, trivial⟩ (fun I50 hI50 FI50 q51 p51 => ?_)
      have t52 := p51 0 71 (fun q => absurd q.1 (by decide))
      have t53 := p51 0 72 (fun q => absurd q.1 (by decide))
      have t54 := p51 0 73 (fun q => absurd q.1 (by decide))
      have t55 := p51 0 69 (fun q => absurd q.1 (by decide))
      have t56 := p51 0 64 (fun q => absurd q.1 (by decide))
      have t57 := p51 0 99 (fun q => absurd q.1 (by decide))
      have t58 := p51 0 122 (fun q => absurd q.1 (by decide))
      have t59 := p51 0 3 (fun q => absurd q.1 (by decide))
      have t60 := p51 0 123 (fun q => absurd q.1 (by decide))
      have t61 := p51 0 77 (fun q => absurd q.1 (by decide))
      have f62 := (gr_b_0_71 hI50)
      have f63 := (gr_b_0_72 hI50)
      have f64 := (gr_b_0_73 hI50)
      have f65 := (gr_b_0_69 hI50)
      have f66 := (gr_b_0_64 hI50)
      have f67 := (gr_b_0_99 hI50)
      have f68 := (gr_b_0_122 hI50)
      have f69 := (gr_b_0_3 hI50)
      have f70 := (gr_b_0_123 hI50)
      have f71 := (gr_b_0_77 hI50)
      have KTM_I50 := gr_TM_fr KTM_I26 (fun k => p51 52 k (fun q => absurd q.1 (by decide))) (fun k => p51 53 k (fun q => absurd q.1 (by decide))) (fun k => p51 54 k (fun q => absurd q.1 (by decide))) (p51 0 64 (fun q => absurd q.1 (by decide)))
      have KTO_I50 := gr_TO_fr KTO_I26 (fun k => p51 52 k (fun q => absurd q.1 (by decide))) (fun k => p51 53 k (fun q => absurd q.1 (by decide))) (fun k => p51 54 k (fun q => absurd q.1 (by decide))) (fun k => p51 55 k (fun q => absurd q.1 (by decide))) (fun k => p51 6 k (fun q => absurd q.1 (by decide))) (p51 0 64 (fun q => absurd q.1 (by decide))) (p51 0 3 (fun q => absurd q.1 (by decide)))
      have A72 := gr_ATp_sr A45 p51 rfl
      have KFM_I50 : gr_FM I50 := gr_FM_st KFM_I26 p51 q51 (by exact gz_m 13 (by omega)) (gr_OWN_x e7_13 (gr_TS9_fr (fun k => g25 55 k rfl) (fun k => g25 52 k rfl) (fun k => g25 53 k rfl) (fun k => g25 54 k rfl)) (by exact gz_m 14 (by omega)) (by exact gz_m 15 (by omega)) (Int.le_refl _))
      have f73 := (gr_b_0_99 hI50)
      refine gv_run 7 true hD (pc' := 134) (lv' := [(0, .inr (.inr (some 0))), (1, .inl v1_13), (3, .inl v3_13)]) (st' := [.inl 1, .inl (I50 0 99), .inr (.inr (some 0)), .inl (I50 0 99), .inr (.inr (some 60))]) (h' := gr_h I50 J27) (C := (((((((True ∧ True) ∧ True) ∧ True) ∧ True) ∧ True) ∧ True) ∧ True)) rfl ⟨⟨⟨⟨⟨⟨⟨trivial, trivial⟩, trivial⟩, trivial⟩, trivial⟩, trivial⟩, trivial⟩, trivial⟩ ?_
      refine gv_run 2 true hD (pc' := 138) (lv' := [(0, .inr (.inr (some 0))), (1, .inl v1_13), (3, .inl v3_13)]) (st' := [.inl (I50 0 99), .inr (.inr (some 60))]) (h' := gz_up (gr_h I50 J27) 0 99 (.inl (((I50 0 99) + 1)))) (C := ((True ∧ True) ∧ True)) rfl ⟨⟨trivial, trivial⟩, trivial⟩ ?_
      refine gr_st hI50 FI50 rfl rfl ⟨⟨by show 0 ≤ _; exact gz_m 16 (by omega), by show _ ≤ 1000; exact gz_m 17 (by omega)⟩, trivial⟩ (fun I74 hI74 FI74 q75 p75 => ?_)
      have t76 := p75 0 71 (by decide)
      have t77 := p75 0 72 (by decide)
      have t78 := p75 0 73 (by decide)
      have t79 := p75 0 69 (by decide)
      have t80 := p75 0 64 (by decide)
      have t81 := p75 0 122 (by decide)
      have t82 := p75 0 3 (by decide)
      have t83 := p75 0 123 (by decide)
      have t84 := p75 0 77 (by decide)
      have f85 := (gr_b_0_71 hI74)
      have f86 := (gr_b_0_72 hI74)
      have f87 := (gr_b_0_73 hI74)
      have f88 := (gr_b_0_69 hI74)
      have f89 := (gr_b_0_64 hI74)
      have f90 := (gr_b_0_99 hI74)
      have f91 := (gr_b_0_122 hI74)
      have f92 := (gr_b_0_3 hI74)
      have f93 := (gr_b_0_123 hI74)
      have f94 := (gr_b_0_77 hI74)
      have KTM_I74 := gr_TM_fr KTM_I50 (fun k => p75 52 k (fun q => absurd q.1 (by decide))) (fun k => p75 53 k (fun q => absurd q.1 (by decide))) (fun k => p75 54 k (fun q => absurd q.1 (by decide))) (p75 0 64 (by decide))
      have KTO_I74 := gr_TO_fr KTO_I50 (fun k => p75 52 k (fun q => absurd q.1 (by decide))) (fun k => p75 53 k (fun q => absurd q.1 (by decide))) (fun k => p75 54 k (fun q => absurd q.1 (by decide))) (fun k => p75 55 k (fun q => absurd q.1 (by decide))) (fun k => p75 6 k (fun q => absurd q.1 (by decide))) (p75 0 64 (by decide)) (p75 0 3 (by decide))
      have KFM_I74 := gr_FM_fr KFM_I50 (fun k => p75 10 k (fun q => absurd q.1 (by decide))) (fun k => p75 55 k (fun q => absurd q.1 (by decide))) (fun k => p75 52 k (fun q => absurd q.1 (by decide))) (fun k => p75 53 k (fun q => absurd q.1 (by decide))) (fun k => p75 54 k (fun q => absurd q.1 (by decide))) (p75 0 64 (by decide)) (p75 0 3 (by decide))
      have A95 := gr_ATp_sf A72 p75 rfl
      have t96 := (show I74 0 99 = I74 0 99 from rfl)
      refine gv_run 2 true hD (pc' := 140) (lv' := [(0, .inr (.inr (some 0))), (1, .inl v1_13), (3, .inl v3_13)]) (st' := []) (h' := gz_up (gr_h I74 J27) 60 (Int.toNat ((I50 0 99))) (.inl v1_13)) (C := ((True ∧ True) ∧ (0 ≤ (I50 0 99) ∧ (I50 0 99) < ((1000 : Nat) : Int)))) rfl ⟨⟨trivial, trivial⟩, ⟨by exact gz_m 18 (by omega), by exact gz_m 19 (by omega)⟩⟩ ?_
      refine gr_st hI74 FI74 rfl rfl ⟨⟨by show 0 ≤ _; exact gz_m 20 (by omega), by show _ ≤ 95; exact gz_m 21 (by omega)⟩, trivial⟩ (fun I97 hI97 FI97 q98 p98 => ?_)
      have t99 := p98 0 71 (fun q => absurd q.1 (by decide))
      have t100 := p98 0 72 (fun q => absurd q.1 (by decide))
      have t101 := p98 0 73 (fun q => absurd q.1 (by decide))
      have t102 := p98 0 69 (fun q => absurd q.1 (by decide))
      have t103 := p98 0 64 (fun q => absurd q.1 (by decide))
      have t104 := p98 0 99 (fun q => absurd q.1 (by decide))
      have t105 := p98 0 122 (fun q => absurd q.1 (by decide))
      have t106 := p98 0 3 (fun q => absurd q.1 (by decide))
      have t107 := p98 0 123 (fun q => absurd q.1 (by decide))
      have t108 := p98 0 77 (fun q => absurd q.1 (by decide))
      have f109 := (gr_b_0_71 hI97)
      have f110 := (gr_b_0_72 hI97)
      have f111 := (gr_b_0_73 hI97)
      have f112 := (gr_b_0_69 hI97)
      have f113 := (gr_b_0_64 hI97)
      have f114 := (gr_b_0_99 hI97)
      have f115 := (gr_b_0_122 hI97)
      have f116 := (gr_b_0_3 hI97)
      have f117 := (gr_b_0_123 hI97)
      have f118 := (gr_b_0_77 hI97)
      have KTM_I97 := gr_TM_fr KTM_I74 (fun k => p98 52 k (fun q => absurd q.1 (by decide))) (fun k => p98 53 k (fun q => absurd q.1 (by decide))) (fun k => p98 54 k (fun q => absurd q.1 (by decide))) (p98 0 64 (fun q => absurd q.1 (by decide)))
      have KTO_I97 := gr_TO_fr KTO_I74 (fun k => p98 52 k (fun q => absurd q.1 (by decide))) (fun k => p98 53 k (fun q => absurd q.1 (by decide))) (fun k => p98 54 k (fun q => absurd q.1 (by decide))) (fun k => p98 55 k (fun q => absurd q.1 (by decide))) (fun k => p98 6 k (fun q => absurd q.1 (by decide))) (p98 0 64 (fun q => absurd q.1 (by decide))) (p98 0 3 (fun q => absurd q.1 (by decide)))
      have KFM_I97 := gr_FM_fr KFM_I74 (fun k => p98 10 k (fun q => absurd q.1 (by decide))) (fun k => p98 55 k (fun q => absurd q.1 (by decide))) (fun k => p98 52 k (fun q => absurd q.1 (by decide))) (fun k => p98 53 k (fun q => absurd q.1 (by decide))) (fun k => p98 54 k (fun q => absurd q.1 (by decide))) (p98 0 64 (fun q => absurd q.1 (by decide))) (p98 0 3 (fun q => absurd q.1 (by decide)))
      have A119 := gr_ATp_sr A95 p98 rfl
      have KMQ_I97 : gr_MQ I9 I97 := gr_MQ_mn KMQ_I26 p51 p75 (by exact gz_m 22 (by omega)) p98 q98 (by exact gz_m 23 (by omega)) (by exact gz_m 24 (by omega))
      refine gv_run 1 true hD (pc' := 141) (lv' := [(0, .inr (.inr (some 0))), (1, .inl v1_13), (3, .inl v3_13)]) (st' := [.inl 1]) (h' := gr_h I97 J27) (C := (True ∧ True)) rfl ⟨trivial, trivial⟩ ?_
      have b120 : (I97 0 69 = I 0 69) ∧ (I 0 73 ≤ I97 0 73) ∧ (I 0 72 ≤ I97 0 72) ∧ (I 0 64 ≤ I97 0 64) ∧ (I97 0 64 - I97 0 72 ≤ I 0 64 - I 0 72) ∧ (I97 0 99 ≤ I97 0 72) := by exact gz_m 25 (by omega)
      exact gv_zret hD rfl (by exact gz_m 26 (by omega)) ⟨I97, J27, rfl, hI97, FI97, FJ27, KTM_I97, KTO_I97, KFM_I97, KMQ_I97, ⟨_, rfl, by exact gz_m 27 (by omega), by exact gz_m 28 (by omega), (gr_ATp_rr A119).1, (gr_ATp_rr A119).2.1, (gr_ATp_rr A119).2.2.1, (gr_ATp_rr A119).2.2.2.1, (gr_ATp_rr A119).2.2.2.2, b120.1, b120.2.1, b120.2.2.1, b120.2.2.2.1, b120.2.2.2.2.1, b120.2.2.2.2.2, (Or.inl ⟨by exact gz_m 29 (by omega), by rw [e10_13]; exact ⟨by exact gz_m 30 (by omega), A119, (by rw [← e11_13]; exact gs_Umn_mk ⟨((g25 0 99 rfl).trans (e12_13.1)), fun j => ⟨((g25 10 j rfl).trans (e12_13.2.1 j)), ((g25 60 j rfl).trans (e12_13.2.2 j))⟩⟩ (by exact gz_m 31 (by omega)) p51 q51 (by exact gz_m 32 (by omega)) p75 (by exact gz_m 33 (by omega)) (by exact gz_m 34 (by omega)) p98 q98)⟩⟩)⟩⟩
    · have Q121 := q25.2.2.2.2.2.2.2.2.2.2.2.2
      rw [FI11 0 78 rfl] at Q121
      obtain ⟨u121, u121_⟩ := gs_or0 Q121 (by exact gz_m 35 (by omega))
      refine gv_run 1 true hD (pc' := 115) (lv' := [(0, .inr (.inr (some 0))), (1, .inl v1_13), (3, .inl v3_13)]) (st' := [.inl 0]) (h' := gr_h I26 J27) (C := (True ∧ True)) rfl ⟨trivial, trivial⟩ ?_
      have b122 : (I26 0 71 = 5 ∨ I26 0 73 ≤ I26 0 69) ∧ (I26 0 72 ≤ I26 0 69) ∧ (I26 0 71 = 0 ∨ (I26 0 72 < I26 0 73 ∧ I26 0 72 < I26 0 69)) ∧ (I26 0 71 = 3 → 2 ≤ I26 0 73 - I26 0 72 ∧ I26 0 73 - I26 0 72 ≤ 14) ∧ (I26 0 72 ≤ I26 0 73) ∧ (I26 0 69 = I 0 69) ∧ (I 0 73 ≤ I26 0 73) ∧ (I 0 72 ≤ I26 0 72) ∧ (I 0 64 ≤ I26 0 64) ∧ (I26 0 64 - I26 0 72 ≤ I 0 64 - I 0 72) ∧ (I26 0 99 ≤ I26 0 72) := by exact gz_m 36 (by omega)
      exact gv_zret hD rfl (by exact gz_m 37 (by omega)) ⟨I26, J27, rfl, hI26, FI26, FJ27, KTM_I26, KTO_I26, KFM_I26, KMQ_I26, ⟨_, rfl, by exact gz_m 38 (by omega), by exact gz_m 39 (by omega), b122.1, b122.2.1, b122.2.2.1, b122.2.2.2.1, b122.2.2.2.2.1, b122.2.2.2.2.2.1, b122.2.2.2.2.2.2.1, b122.2.2.2.2.2.2.2.1, b122.2.2.2.2.2.2.2.2.1, b122.2.2.2.2.2.2.2.2.2.1, b122.2.2.2.2.2.2.2.2.2.2, (Or.inr ⟨by exact gz_m 40 (by omega), by rw [e10_13]; exact ⟨by exact gz_m 41 (by omega), by exact gz_m 42 (by omega), ⟨((g25 0 99 rfl).trans (e12_13.1)), fun j => ⟨((g25 10 j rfl).trans (e12_13.2.1 j)), ((g25 60 j rfl).trans (e12_13.2.2 j))⟩⟩⟩⟩)⟩⟩
  refine gv_run 1 true hD (pc' := 1) (lv' := [(0, .inr (.inr (some 0)))]) (st' := [.inr (.inr (some 0))]) (h' := gr_h I J) (C := (True ∧ True)) rfl ⟨trivial, trivial⟩ ?_
  obtain ⟨r123, h123, E123, P123⟩ := r_name_p (ws0 := ws0) (tb := tb) hws htb ext β N9 p9 I J hI   x7 (by exact gz_m 43 (by omega))
  obtain ⟨I124, J125, rfl, hI124, g123, k123, ⟨z123, rfl, q123⟩⟩ := P123
  have FI124 := gr_frt FI g123 rfl rfl
  have FJ125 := gr_fjt FJ k123 rfl rfl
  have t126 := g123 0 71 rfl
  have t127 := g123 0 72 rfl
  have t128 := g123 0 73 rfl
  have t129 := g123 0 69 rfl
  have t130 := g123 0 64 rfl
  have t131 := g123 0 99 rfl
  have t132 := g123 0 122 rfl
  have t133 := g123 0 3 rfl
  have t134 := g123 0 123 rfl
  have f135 := (gr_b_0_71 hI124)
  have f136 := (gr_b_0_72 hI124)
  have f137 := (gr_b_0_73 hI124)
  have f138 := (gr_b_0_69 hI124)
  have f139 := (gr_b_0_64 hI124)
  have f140 := (gr_b_0_99 hI124)
  have f141 := (gr_b_0_122 hI124)
  have f142 := (gr_b_0_3 hI124)
  have f143 := (gr_b_0_123 hI124)
  have f144 := (gr_b_0_77 hI124)
  have KTM_I124 := gr_TM_fr KTM_I (fun k => g123 52 k rfl) (fun k => g123 53 k rfl) (fun k => g123 54 k rfl) (g123 0 64 rfl)
  have KTO_I124 := gr_TO_fr KTO_I (fun k => g123 52 k rfl) (fun k => g123 53 k rfl) (fun k => g123 54 k rfl) (fun k => g123 55 k rfl) (fun k => g123 6 k rfl) (g123 0 64 rfl) (g123 0 3 rfl)
  have KFM_I124 := gr_FM_fr KFM_I (fun k => g123 10 k rfl) (fun k => g123 55 k rfl) (fun k => g123 52 k rfl) (fun k => g123 53 k rfl) (fun k => g123 54 k rfl) (g123 0 64 rfl) (g123 0 3 rfl)
  have KMQ_I124 := gr_MQ_fr KMQ_I (fun k => g123 10 k rfl) (fun k => g123 55 k rfl) (fun k => g123 52 k rfl) (fun k => g123 53 k rfl) (fun k => g123 54 k rfl) (fun k => g123 60 k rfl) (g123 0 64 rfl) (g123 0 3 rfl) (g123 0 99 rfl)
  have V123 := gs_or_mk q123.2.2.2
  have A145 := gr_ATp_F x7 g123 k123 rfl
  have t146 := gr_ATp_l A145
  obtain ⟨_, _, o123, -⟩ := q123
  refine gv_callV hD rfl (As := []) (st := []) rfl (by decide) rfl rfl (gr_lV hws rfl) (Nat.le_of_ble_eq_true rfl) (gz_Ev_mono (d := 3) (by decide) E123) ?_
  show gv_X _ _ (4, [(0, .inr (.inr (some 0)))], [.inl z123], gr_sh ++ ext, gr_h I124 J125)
  refine gv_if_ne (t := 9) hD rfl rfl ⟨by exact gz_m 44 (by omega), by exact gz_m 45 (by omega)⟩ (fun c147 => ?_) (fun c147 => ?_)
  · have u148 := gs_or1 V123 (by exact gz_m 46 (by omega))
    have t149 := o123.resolve_left (by exact gz_m 47 (by omega))
    have t150 := (gr_ATp_rr A145).2.2.1.resolve_left (by exact gz_m 48 (by omega))
    clear o123 V123
    have f151 := (gr_b_0_3 hI124)
    refine gv_run 7 true hD (pc' := 22) (lv' := [(0, .inr (.inr (some 0)))]) (st' := [.inr (.inl (J125 0 75)), .inl (I124 0 3), .inl 0, .inr (.inr (some 3))]) (h' := gr_h I124 J125) (C := (((((((True ∧ True) ∧ True) ∧ True) ∧ True) ∧ True) ∧ True) ∧ True)) rfl ⟨⟨⟨⟨⟨⟨⟨trivial, trivial⟩, trivial⟩, trivial⟩, trivial⟩, trivial⟩, trivial⟩, trivial⟩ ?_
    obtain ⟨r152, h152, E152, P152⟩ := r_find_3_p (ws0 := ws0) (tb := tb) hws htb ext I124 J125 hI124 0 (I124 0 3) (J125 0 75) ⟨by exact gz_m 49 (by omega), by exact gz_m 50 (by omega)⟩ ⟨by exact gz_m 51 (by omega), by exact gz_m 52 (by omega)⟩ (by exact gz_m 53 (by omega))
    obtain ⟨rfl, ⟨z152, rfl, q152⟩⟩ := P152
    have t153 := q152.2.2.2.trans (gs_lk_eq (I := I) (J := J) (w := gs_rn β N9 p9) (fun k => (FJ125 3 k rfl)) (FI124 0 3 rfl) (gr_ATp_w A145))
    refine gv_callS hD rfl (As := [.inr (.inr (some 3)), .inl 0, .inl (I124 0 3), .inr (.inl (J125 0 75))]) (st := []) rfl (gr_lS hws rfl) (Nat.le_of_ble_eq_true rfl) (gz_Ev_mono (d := 1) (by decide) E152) ?_
    show gv_X _ _ (25, [(0, .inr (.inr (some 0)))], [.inl z152], gr_sh ++ ext, gr_h I124 J125)
    refine gv_run 2 true hD (pc' := 27) (lv' := [(1, .inl z152), (0, .inr (.inr (some 0)))]) (st' := [.inl z152]) (h' := gr_h I124 J125) (C := ((True ∧ True) ∧ True)) rfl ⟨⟨trivial, trivial⟩, trivial⟩ ?_
    refine gv_if_ge (t := 36) hD rfl rfl ⟨by exact gz_m 54 (by omega), by exact gz_m 55 (by omega)⟩ (fun c154 => ?_) (fun c154 => ?_)
    · have f155 := (gr_b_10 hI124 (Int.toNat z152))
      refine gv_run 4 true hD (pc' := 42) (lv' := [(1, .inl z152), (0, .inr (.inr (some 0)))]) (st' := [.inl (I124 10 (Int.toNat z152))]) (h' := gr_h I124 J125) (C := ((((True ∧ True) ∧ True) ∧ True) ∧ (0 ≤ z152 ∧ z152 < ((96 : Nat) : Int)))) rfl ⟨⟨⟨⟨trivial, trivial⟩, trivial⟩, trivial⟩, ⟨by exact gz_m 56 (by omega), by exact gz_m 57 (by omega)⟩⟩ ?_
      have t156 := (show I124 10 (Int.toNat z152) = I 10 (Int.toNat z152) from (g123 10 _ rfl))
      refine gv_if_lt (t := 51) hD rfl rfl ⟨by exact gz_m 58 (by omega), by exact gz_m 59 (by omega)⟩ (fun c157 => ?_) (fun c157 => ?_)
      · refine gv_run 1 true hD (pc' := 52) (lv' := [(1, .inl z152), (0, .inr (.inr (some 0)))]) (st' := [.inr (.inr (some 0))]) (h' := gr_h I124 J125) (C := (True ∧ True)) rfl ⟨trivial, trivial⟩ ?_
        obtain ⟨r158, h158, E158, P158⟩ := r_next_p (ws0 := ws0) (tb := tb) hws htb ext β N9 I124 J125 hI124   ((gr_ATp_rr A145).1.resolve_left (by exact gz_m 60 (by omega))) A145.1.1 A145.1.2
        obtain ⟨I159, J160, rfl, hI159, g158, k158, ⟨rfl, q158⟩⟩ := P158
        have FI159 := gr_frt FI124 g158 rfl rfl
        have FJ160 := gr_fjt FJ125 k158 rfl rfl
        have t161 := g158 0 69 rfl
        have t162 := g158 0 64 rfl
        have t163 := g158 0 99 rfl
        have t164 := g158 0 122 rfl
        have t165 := g158 0 3 rfl
        have t166 := g158 0 123 rfl
        have t167 := g158 0 77 rfl
        have f168 := (gr_b_0_71 hI159)
        have f169 := (gr_b_0_72 hI159)
        have f170 := (gr_b_0_73 hI159)
        have f171 := (gr_b_0_69 hI159)
        have f172 := (gr_b_0_64 hI159)
        have f173 := (gr_b_0_99 hI159)
        have f174 := (gr_b_0_122 hI159)
        have f175 := (gr_b_0_3 hI159)
        have f176 := (gr_b_0_123 hI159)
        have f177 := (gr_b_0_77 hI159)
        have KTM_I159 := gr_TM_fr KTM_I124 (fun k => g158 52 k rfl) (fun k => g158 53 k rfl) (fun k => g158 54 k rfl) (g158 0 64 rfl)
        have KTO_I159 := gr_TO_fr KTO_I124 (fun k => g158 52 k rfl) (fun k => g158 53 k rfl) (fun k => g158 54 k rfl) (fun k => g158 55 k rfl) (fun k => g158 6 k rfl) (g158 0 64 rfl) (g158 0 3 rfl)
        have KFM_I159 := gr_FM_fr KFM_I124 (fun k => g158 10 k rfl) (fun k => g158 55 k rfl) (fun k => g158 52 k rfl) (fun k => g158 53 k rfl) (fun k => g158 54 k rfl) (g158 0 64 rfl) (g158 0 3 rfl)
        have KMQ_I159 := gr_MQ_fr KMQ_I124 (fun k => g158 10 k rfl) (fun k => g158 55 k rfl) (fun k => g158 52 k rfl) (fun k => g158 53 k rfl) (fun k => g158 54 k rfl) (fun k => g158 60 k rfl) (g158 0 64 rfl) (g158 0 3 rfl) (g158 0 99 rfl)
        have t178 := (gr_ATp_rr A145).2.2.1.resolve_left (by exact gz_m 61 (by omega))
        have A179 := gr_ATp_nx A145 q158.2.2.2.2.2
        have t180 := gr_ATp_l A179
        obtain ⟨_, _, -, -, -, -⟩ := q158
        refine gv_callV hD rfl (As := []) (st := []) rfl (by decide) rfl rfl (gr_lV hws rfl) (Nat.le_of_ble_eq_true rfl) (gz_Ev_mono (d := 10) (by decide) E158) ?_
        show gv_X _ _ (55, [(1, .inl z152), (0, .inr (.inr (some 0)))], [], gr_sh ++ ext, gr_h I159 J160)
        refine gv_run 2 true hD (pc' := 58) (lv' := [(1, .inl z152), (0, .inr (.inr (some 0)))]) (st' := [.inl 61, .inr (.inr (some 0))]) (h' := gr_h I159 J160) (C := ((True ∧ True) ∧ True)) rfl ⟨⟨trivial, trivial⟩, trivial⟩ ?_
        obtain ⟨r181, h181, E181, P181⟩ := r_need_p (ws0 := ws0) (tb := tb) hws htb ext β N9 (gs_X β N9 p9) I159 J160 hI159 61 ⟨by exact gz_m 62 (by omega), by exact gz_m 63 (by omega)⟩ (gr_ATp_rr A179).1 (gr_ATp_rr A179).2.1 (gr_ATp_rr A179).2.2.1 (gr_ATp_rr A179).2.2.2.1 (gr_ATp_rr A179).2.2.2.2 A179 (by exact gz_m 64 (by omega))
        obtain ⟨I182, J183, rfl, hI182, g181, k181, ⟨z181, rfl, q181⟩⟩ := P181
        have FI182 := gr_frt FI159 g181 rfl rfl
        have FJ183 := gr_fjt FJ160 k181 rfl rfl
        have t184 := g181 0 69 rfl
        have t185 := g181 0 64 rfl
        have t186 := g181 0 99 rfl
        have t187 := g181 0 122 rfl
        have t188 := g181 0 3 rfl
        have t189 := g181 0 123 rfl
        have f190 := (gr_b_0_71 hI182)
        have f191 := (gr_b_0_72 hI182)
        have f192 := (gr_b_0_73 hI182)
        have f193 := (gr_b_0_69 hI182)
        have f194 := (gr_b_0_64 hI182)
        have f195 := (gr_b_0_99 hI182)
        have f196 := (gr_b_0_122 hI182)
        have f197 := (gr_b_0_3 hI182)
        have f198 := (gr_b_0_123 hI182)
        have f199 := (gr_b_0_77 hI182)
        have KTM_I182 := gr_TM_fr KTM_I159 (fun k => g181 52 k rfl) (fun k => g181 53 k rfl) (fun k => g181 54 k rfl) (g181 0 64 rfl)
        have KTO_I182 := gr_TO_fr KTO_I159 (fun k => g181 52 k rfl) (fun k => g181 53 k rfl) (fun k => g181 54 k rfl) (fun k => g181 55 k rfl) (fun k => g181 6 k rfl) (g181 0 64 rfl) (g181 0 3 rfl)
        have KFM_I182 := gr_FM_fr KFM_I159 (fun k => g181 10 k rfl) (fun k => g181 55 k rfl) (fun k => g181 52 k rfl) (fun k => g181 53 k rfl) (fun k => g181 54 k rfl) (g181 0 64 rfl) (g181 0 3 rfl)
        have KMQ_I182 := gr_MQ_fr KMQ_I159 (fun k => g181 10 k rfl) (fun k => g181 55 k rfl) (fun k => g181 52 k rfl) (fun k => g181 53 k rfl) (fun k => g181 54 k rfl) (fun k => g181 60 k rfl) (g181 0 64 rfl) (g181 0 3 rfl) (g181 0 99 rfl)
        refine gv_callV hD rfl (As := [.inl 61]) (st := []) rfl (by decide) rfl rfl (gr_lV hws rfl) (Nat.le_of_ble_eq_true rfl) (gz_Ev_mono (d := 11) (by decide) E181) ?_
        show gv_X _ _ (61, [(1, .inl z152), (0, .inr (.inr (some 0)))], [.inl z181], gr_sh ++ ext, gr_h I182 J183)
        refine gv_if_ne (t := 66) hD rfl rfl ⟨by exact gz_m 65 (by omega), by exact gz_m 66 (by omega)⟩ (fun c200 => ?_) (fun c200 => ?_)
        · obtain ⟨u201, A201⟩ := gs_or1 q181.2.2.2.2.2.2.2.2.2.2.2 (by exact gz_m 67 (by omega))
          have t202 := gr_ATp_l A201
          have t203 := (q181.2.2.2.2.2.2.2.2.2.2.1).resolve_left (by exact gz_m 68 (by omega))
          obtain ⟨_, _, -, _, -, -, _, _, _, _, -, -⟩ := q181
          have t204 := (gr_ATp_rr A179).2.2.1.resolve_left (by exact gz_m 69 (by omega))
          have f205 := (gr_b_0_64 hI182)
          refine gv_run 5 true hD (pc' := 73) (lv' := [(2, .inl (I182 0 64)), (1, .inl z152), (0, .inr (.inr (some 0)))]) (st' := [.inl 0, .inr (.inr (some 0))]) (h' := gr_h I182 J183) (C := (((((True ∧ True) ∧ True) ∧ True) ∧ True) ∧ True)) rfl ⟨⟨⟨⟨⟨trivial, trivial⟩, trivial⟩, trivial⟩, trivial⟩, trivial⟩ ?_
          refine gv_run 1 true hD (pc' := 76) (lv' := [(2, .inl (I182 0 64)), (1, .inl z152), (0, .inr (.inr (some 0)))]) (st' := []) (h' := gz_up (gr_h I182 J183) 0 122 (.inl 0)) (C := (True ∧ True)) rfl ⟨trivial, trivial⟩ ?_
          refine gr_st hI182 FI182 rfl rfl ⟨⟨by show 0 ≤ _; exact gz_m 70 (by omega), by show _ ≤ 47; exact gz_m 71 (by omega)⟩, trivial⟩ (fun I206 hI206 FI206 q207 p207 => ?_)
          have t208 := p207 0 71 (by decide)
          have t209 := p207 0 72 (by decide)
          have t210 := p207 0 73 (by decide)
          have t211 := p207 0 69 (by decide)
          have t212 := p207 0 64 (by decide)
          have t213 := p207 0 99 (by decide)
          have t214 := p207 0 3 (by decide)
          have t215 := p207 0 123 (by decide)
          have t216 := p207 0 77 (by decide)
          have f217 := (gr_b_0_71 hI206)
          have f218 := (gr_b_0_72 hI206)
          have f219 := (gr_b_0_73 hI206)
          have f220 := (gr_b_0_69 hI206)
          have f221 := (gr_b_0_64 hI206)
          have f222 := (gr_b_0_99 hI206)
          have f223 := (gr_b_0_122 hI206)
          have f224 := (gr_b_0_3 hI206)
          have f225 := (gr_b_0_123 hI206)
          have f226 := (gr_b_0_77 hI206)
          have KTM_I206 := gr_TM_fr KTM_I182 (fun k => p207 52 k (fun q => absurd q.1 (by decide))) (fun k => p207 53 k (fun q => absurd q.1 (by decide))) (fun k => p207 54 k (fun q => absurd q.1 (by decide))) (p207 0 64 (by decide))
          have KTO_I206 := gr_TO_fr KTO_I182 (fun k => p207 52 k (fun q => absurd q.1 (by decide))) (fun k => p207 53 k (fun q => absurd q.1 (by decide))) (fun k => p207 54 k (fun q => absurd q.1 (by decide))) (fun k => p207 55 k (fun q => absurd q.1 (by decide))) (fun k => p207 6 k (fun q => absurd q.1 (by decide))) (p207 0 64 (by decide)) (p207 0 3 (by decide))
          have KFM_I206 := gr_FM_fr KFM_I182 (fun k => p207 10 k (fun q => absurd q.1 (by decide))) (fun k => p207 55 k (fun q => absurd q.1 (by decide))) (fun k => p207 52 k (fun q => absurd q.1 (by decide))) (fun k => p207 53 k (fun q => absurd q.1 (by decide))) (fun k => p207 54 k (fun q => absurd q.1 (by decide))) (p207 0 64 (by decide)) (p207 0 3 (by decide))
          have KMQ_I206 := gr_MQ_fr KMQ_I182 (fun k => p207 10 k (fun q => absurd q.1 (by decide))) (fun k => p207 55 k (fun q => absurd q.1 (by decide))) (fun k => p207 52 k (fun q => absurd q.1 (by decide))) (fun k => p207 53 k (fun q => absurd q.1 (by decide))) (fun k => p207 54 k (fun q => absurd q.1 (by decide))) (fun k => p207 60 k (fun q => absurd q.1 (by decide))) (p207 0 64 (by decide)) (p207 0 3 (by decide)) (p207 0 99 (by decide))
          have A227 := gr_ATp_sf A201 p207 rfl
          refine gv_run 3 true hD (pc' := 81) (lv' := [(2, .inl (I182 0 64)), (1, .inl z152), (0, .inr (.inr (some 0)))]) (st' := []) (h' := gz_up (gr_h I206 J183) 0 123 (.inl z152)) (C := (((True ∧ True) ∧ True) ∧ True)) rfl ⟨⟨⟨trivial, trivial⟩, trivial⟩, trivial⟩ ?_
          refine gr_st hI206 FI206 rfl rfl ⟨⟨by show 0 ≤ _; exact gz_m 72 (by omega), by show _ ≤ 95; exact gz_m 73 (by omega)⟩, trivial⟩ (fun I228 hI228 FI228 q229 p229 => ?_)
          have t230 := p229 0 71 (by decide)
          have t231 := p229 0 72 (by decide)
          have t232 := p229 0 73 (by decide)
          have t233 := p229 0 69 (by decide)
          have t234 := p229 0 64 (by decide)
          have t235 := p229 0 99 (by decide)
          have t236 := p229 0 122 (by decide)
          have t237 := p229 0 3 (by decide)
          have t238 := p229 0 77 (by decide)
          have f239 := (gr_b_0_71 hI228)
          have f240 := (gr_b_0_72 hI228)
          have f241 := (gr_b_0_73 hI228)
          have f242 := (gr_b_0_69 hI228)
          have f243 := (gr_b_0_64 hI228)
          have f244 := (gr_b_0_99 hI228)
          have f245 := (gr_b_0_122 hI228)
          have f246 := (gr_b_0_3 hI228)
          have f247 := (gr_b_0_123 hI228)
          have f248 := (gr_b_0_77 hI228)
          have KTM_I228 := gr_TM_fr KTM_I206 (fun k => p229 52 k (fun q => absurd q.1 (by decide))) (fun k => p229 53 k (fun q => absurd q.1 (by decide))) (fun k => p229 54 k (fun q => absurd q.1 (by decide))) (p229 0 64 (by decide))
          have KTO_I228 := gr_TO_fr KTO_I206 (fun k => p229 52 k (fun q => absurd q.1 (by decide))) (fun k => p229 53 k (fun q => absurd q.1 (by decide))) (fun k => p229 54 k (fun q => absurd q.1 (by decide))) (fun k => p229 55 k (fun q => absurd q.1 (by decide))) (fun k => p229 6 k (fun q => absurd q.1 (by decide))) (p229 0 64 (by decide)) (p229 0 3 (by decide))
          have KFM_I228 := gr_FM_fr KFM_I206 (fun k => p229 10 k (fun q => absurd q.1 (by decide))) (fun k => p229 55 k (fun q => absurd q.1 (by decide))) (fun k => p229 52 k (fun q => absurd q.1 (by decide))) (fun k => p229 53 k (fun q => absurd q.1 (by decide))) (fun k => p229 54 k (fun q => absurd q.1 (by decide))) (p229 0 64 (by decide)) (p229 0 3 (by decide))
          have KMQ_I228 := gr_MQ_fr KMQ_I206 (fun k => p229 10 k (fun q => absurd q.1 (by decide))) (fun k => p229 55 k (fun q => absurd q.1 (by decide))) (fun k => p229 52 k (fun q => absurd q.1 (by decide))) (fun k => p229 53 k (fun q => absurd q.1 (by decide))) (fun k => p229 54 k (fun q => absurd q.1 (by decide))) (fun k => p229 60 k (fun q => absurd q.1 (by decide))) (p229 0 64 (by decide)) (p229 0 3 (by decide)) (p229 0 99 (by decide))
          have A249 := gr_ATp_sf A227 p229 rfl
          refine gv_run 2 true hD (pc' := 83) (lv' := [(2, .inl (I182 0 64)), (1, .inl z152), (0, .inr (.inr (some 0)))]) (st' := [.inl 1, .inr (.inr (some 0))]) (h' := gr_h I228 J183) (C := ((True ∧ True) ∧ True)) rfl ⟨⟨trivial, trivial⟩, trivial⟩ ?_
          obtain ⟨r250, h250, E250, P250⟩ := r_term_p (ws0 := ws0) (tb := tb) hws htb ext 42 I228 J183 hI228 1 β N9 (((gs_need β N9 61 (gs_X β N9 p9)))) 4100 ⟨by exact gz_m 74 (by omega), by exact gz_m 75 (by omega)⟩ (gr_ATp_rr A249).1 (gr_ATp_rr A249).2.1 (gr_ATp_rr A249).2.2.1 (gr_ATp_rr A249).2.2.2.1 (gr_ATp_rr A249).2.2.2.2 (by exact gz_m 76 (by omega)) (by exact gz_m 77 (by omega)) (by exact gz_m 78 (by omega)) A249 (by exact gz_m 79 (by omega)) (by exact gz_m 80 (by omega)) KTM_I228 KTO_I228 (by exact gz_m 81 (by omega))
          obtain ⟨I251, J252, rfl, hI251, g250, k250, KTM_I251, KTO_I251, ⟨z250, rfl, q250⟩⟩ := P250
          have FI251 := gr_frt FI228 g250 rfl rfl
          have FJ252 := gr_fjt FJ183 k250 rfl rfl
          have t253 := g250 0 69 rfl
          have t254 := g250 0 99 rfl
          have t255 := g250 0 3 rfl
          have t256 := g250 0 123 rfl
          have f257 := (gr_b_0_71 hI251)
          have f258 := (gr_b_0_72 hI251)
          have f259 := (gr_b_0_73 hI251)
          have f260 := (gr_b_0_69 hI251)
          have f261 := (gr_b_0_64 hI251)
          have f262 := (gr_b_0_99 hI251)
          have f263 := (gr_b_0_122 hI251)
          have f264 := (gr_b_0_3 hI251)
          have f265 := (gr_b_0_123 hI251)
          have f266 := (gr_b_0_77 hI251)
          have KFM_I251 : gr_FM I251 := gr_FM_x KFM_I228 q250.2.2.2.2.2.2.2.2.2.2.2.2.2.2.2.2.2 (fun k => g250 10 k rfl) (g250 0 3 rfl) (by exact gz_m 82 (by omega))
          have KMQ_I251 : gr_MQ I9 I251 := gr_MQ_tm KMQ_I228 q250.2.2.2.2.2.2.2.2.2.2.2.2.2.2.2.2.2 (fun k => g250 10 k rfl) (fun k => g250 60 k rfl) (by exact gz_m 83 (by omega)) (g250 0 3 rfl) (g250 0 99 rfl)
          refine gv_callV hD rfl (As := [.inl 1]) (st := []) rfl (by decide) rfl rfl (gr_lV hws rfl) (Nat.le_of_ble_eq_true rfl) (gz_Ev_mono (d := 98) (by decide) E250) ?_
          show gv_X _ _ (86, [(2, .inl (I182 0 64)), (1, .inl z152), (0, .inr (.inr (some 0)))], [.inl z250], gr_sh ++ ext, gr_h I251 J252)
          refine gv_run 2 true hD (pc' := 88) (lv' := [(3, .inl z250), (2, .inl (I182 0 64)), (1, .inl z152), (0, .inr (.inr (some 0)))]) (st' := [.inl z250]) (h' := gr_h I251 J252) (C := ((True ∧ True) ∧ True)) rfl ⟨⟨trivial, trivial⟩, trivial⟩ ?_
          refine gv_if_lt (t := 114) hD rfl rfl ⟨by exact gz_m 84 (by omega), by exact gz_m 85 (by omega)⟩ (fun c267 => ?_) (fun c267 => ?_)
          · have Q268 := q250.2.2.2.2.2.2.1.2
            rw [show I228 0 123 = z152 from by exact gz_m 86 (by omega), FI228 6 (Int.toNat z152) rfl] at Q268
            obtain ⟨u268, u268_⟩ := gs_O9_0 Q268 (by exact gz_m 87 (by omega))
            refine gv_run 1 true hD (pc' := 115) (lv' := [(3, .inl z250), (2, .inl (I182 0 64)), (1, .inl z152), (0, .inr (.inr (some 0)))]) (st' := [.inl 0]) (h' := gr_h I251 J252) (C := (True ∧ True)) rfl ⟨trivial, trivial⟩ ?_
            have b269 : (I251 0 71 = 5 ∨ I251 0 73 ≤ I251 0 69) ∧ (I251 0 72 ≤ I251 0 69) ∧ (I251 0 71 = 0 ∨ (I251 0 72 < I251 0 73 ∧ I251 0 72 < I251 0 69)) ∧ (I251 0 71 = 3 → 2 ≤ I251 0 73 - I251 0 72 ∧ I251 0 73 - I251 0 72 ≤ 14) ∧ (I251 0 72 ≤ I251 0 73) ∧ (I251 0 69 = I 0 69) ∧ (I 0 73 ≤ I251 0 73) ∧ (I 0 72 ≤ I251 0 72) ∧ (I 0 64 ≤ I251 0 64) ∧ (I251 0 64 - I251 0 72 ≤ I 0 64 - I 0 72) ∧ (I251 0 99 ≤ I251 0 72) := by exact gz_m 88 (by omega)
            exact gv_zret hD rfl (by exact gz_m 89 (by omega)) ⟨I251, J252, rfl, hI251, FI251, FJ252, KTM_I251, KTO_I251, KFM_I251, KMQ_I251, ⟨_, rfl, by exact gz_m 90 (by omega), by exact gz_m 91 (by omega), b269.1, b269.2.1, b269.2.2.1, b269.2.2.2.1, b269.2.2.2.2.1, b269.2.2.2.2.2.1, b269.2.2.2.2.2.2.1, b269.2.2.2.2.2.2.2.1, b269.2.2.2.2.2.2.2.2.1, b269.2.2.2.2.2.2.2.2.2.1, b269.2.2.2.2.2.2.2.2.2.2, (Or.inr ⟨by exact gz_m 92 (by omega), by first | (exfalso; exact gz_m 93 (by omega)) | (unfold gs_mn; rw [if_pos (by exact gz_m 94 (by omega)), show gs_lk I J 3 3 (gs_rn β N9 p9) = z152 from by exact gz_m 95 (by omega)]; unfold gs_mn0 gs_mn1 gs_mn2; (repeat first | rw [if_pos (by exact gz_m 96 (by omega))] | rw [if_neg (by exact gz_m 97 (by omega))]); exact ⟨by exact gz_m 98 (by omega), by exact gz_m 99 (by omega), ⟨((((((g250 0 99 rfl).trans (p229 0 99 (by decide))).trans (p207 0 99 (by decide))).trans (g181 0 99 rfl)).trans (g158 0 99 rfl)).trans (g123 0 99 rfl)), fun j => ⟨((((((g250 10 j rfl).trans (p229 10 j (fun q => absurd q.1 (by decide)))).trans (p207 10 j (fun q => absurd q.1 (by decide)))).trans (g181 10 j rfl)).trans (g158 10 j rfl)).trans (g123 10 j rfl)), ((((((g250 60 j rfl).trans (p229 60 j (fun q => absurd q.1 (by decide)))).trans (p207 60 j (fun q => absurd q.1 (by decide)))).trans (g181 60 j rfl)).trans (g158 60 j rfl)).trans (g123 60 j rfl))⟩⟩⟩)⟩)⟩⟩
          · have Q270 := q250.2.2.2.2.2.2.1.2
            rw [show I228 0 123 = z152 from by exact gz_m 100 (by omega), FI228 6 (Int.toNat z152) rfl] at Q270
            obtain ⟨u270, A270, U270⟩ := gs_O9_1 Q270 (by exact gz_m 101 (by omega))
            have t271 := gr_ATp_l A270
            have f272 := (gr_b_0_64 hI251)
            refine gv_run 6 true hD (pc' := 100) (lv' := [(3, .inl z250), (2, .inl (I182 0 64)), (1, .inl z152), (0, .inr (.inr (some 0)))]) (st' := [.inl 40, .inl ((I251 0 64) - (I182 0 64)), .inr (.inr (some 0))]) (h' := gr_h I251 J252) (C := ((((((True ∧ True) ∧ True) ∧ True) ∧ True) ∧ True) ∧ True)) rfl ⟨⟨⟨⟨⟨⟨trivial, trivial⟩, trivial⟩, trivial⟩, trivial⟩, trivial⟩, trivial⟩ ?_
            refine gv_icmp_gt (t := 107) hD rfl rfl ⟨⟨by exact gz_m 102 (by omega), by exact gz_m 103 (by omega)⟩, ⟨by exact gz_m 104 (by omega), by exact gz_m 105 (by omega)⟩⟩ (fun c273 => ?_) (fun c273 => ?_)
            · refine gv_run 1 true hD (pc' := 108) (lv' := [(3, .inl z250), (2, .inl (I182 0 64)), (1, .inl z152), (0, .inr (.inr (some 0)))]) (st' := [.inl 0, .inr (.inr (some 0))]) (h' := gr_h I251 J252) (C := (True ∧ True)) rfl ⟨trivial, trivial⟩ ?_
              refine gv_pick [3, 2, 0] rfl ?_
              exact L108 I251 J252 z152 z250 0 ((gs_tm β N9 (I 6 (Int.toNat z152)) 4100 0 1 (gs_need β N9 61 (gs_X β N9 p9))).1) hI251 FI251 FJ252 KTM_I251 KTO_I251 KFM_I251 KMQ_I251 (by exact gz_m 106 (by omega)) (gr_OWN_x q250.2.2.2.2.2.2.2.2.2.2.2.2.2.2.2.2.1 (gr_TS9_rf _) (by exact gz_m 107 (by omega)) (by exact gz_m 108 (by omega)) (by exact gz_m 109 (by omega))) A270 (by unfold gs_mn; rw [if_pos (by exact gz_m 110 (by omega)), show gs_lk I J 3 3 (gs_rn β N9 p9) = z152 from by exact gz_m 111 (by omega)]; unfold gs_mn0 gs_mn1 gs_mn2; (repeat first | rw [if_pos (by exact gz_m 112 (by omega))] | rw [if_neg (by exact gz_m 113 (by omega))])) (by exact gz_m 114 (by omega)) ⟨((((((g250 0 99 rfl).trans (p229 0 99 (by decide))).trans (p207 0 99 (by decide))).trans (g181 0 99 rfl)).trans (g158 0 99 rfl)).trans (g123 0 99 rfl)), (fun k => ((((((g250 10 k rfl).trans (p229 10 k (fun q => absurd q.1 (by decide)))).trans (p207 10 k (fun q => absurd q.1 (by decide)))).trans (g181 10 k rfl)).trans (g158 10 k rfl)).trans (g123 10 k rfl))), (fun k => ((((((g250 60 k rfl).trans (p229 60 k (fun q => absurd q.1 (by decide)))).trans (p207 60 k (fun q => absurd q.1 (by decide)))).trans (g181 60 k rfl)).trans (g158 60 k rfl)).trans (g123 60 k rfl)))⟩
            · refine gv_run 2 true hD (pc' := 108) (lv' := [(3, .inl z250), (2, .inl (I182 0 64)), (1, .inl z152), (0, .inr (.inr (some 0)))]) (st' := [.inl 1, .inr (.inr (some 0))]) (h' := gr_h I251 J252) (C := ((True ∧ True) ∧ True)) rfl ⟨⟨trivial, trivial⟩, trivial⟩ ?_
              refine gv_pick [3, 2, 0] rfl ?_
              exact L108 I251 J252 z152 z250 1 ((gs_tm β N9 (I 6 (Int.toNat z152)) 4100 0 1 (gs_need β N9 61 (gs_X β N9 p9))).1) hI251 FI251 FJ252 KTM_I251 KTO_I251 KFM_I251 KMQ_I251 (by exact gz_m 115 (by omega)) (gr_OWN_x q250.2.2.2.2.2.2.2.2.2.2.2.2.2.2.2.2.1 (gr_TS9_rf _) (by exact gz_m 116 (by omega)) (by exact gz_m 117 (by omega)) (by exact gz_m 118 (by omega))) A270 (by unfold gs_mn; rw [if_pos (by exact gz_m 119 (by omega)), show gs_lk I J 3 3 (gs_rn β N9 p9) = z152 from by exact gz_m 120 (by omega)]; unfold gs_mn0 gs_mn1 gs_mn2; (repeat first | rw [if_pos (by exact gz_m 121 (by omega))] | rw [if_neg (by exact gz_m 122 (by omega))])) (by exact gz_m 123 (by omega)) ⟨((((((g250 0 99 rfl).trans (p229 0 99 (by decide))).trans (p207 0 99 (by decide))).trans (g181 0 99 rfl)).trans (g158 0 99 rfl)).trans (g123 0 99 rfl)), (fun k => ((((((g250 10 k rfl).trans (p229 10 k (fun q => absurd q.1 (by decide)))).trans (p207 10 k (fun q => absurd q.1 (by decide)))).trans (g181 10 k rfl)).trans (g158 10 k rfl)).trans (g123 10 k rfl))), (fun k => ((((((g250 60 k rfl).trans (p229 60 k (fun q => absurd q.1 (by decide)))).trans (p207 60 k (fun q => absurd q.1 (by decide)))).trans (g181 60 k rfl)).trans (g158 60 k rfl)).trans (g123 60 k rfl)))⟩
        · obtain ⟨u274, u274_⟩ := gs_or0 q181.2.2.2.2.2.2.2.2.2.2.2 (by exact gz_m 124 (by omega))
          refine gv_run 1 true hD (pc' := 65) (lv' := [(1, .inl z152), (0, .inr (.inr (some 0)))]) (st' := [.inl 0]) (h' := gr_h I182 J183) (C := (True ∧ True)) rfl ⟨trivial, trivial⟩ ?_
          have b275 : (I182 0 71 = 5 ∨ I182 0 73 ≤ I182 0 69) ∧ (I182 0 72 ≤ I182 0 69) ∧ (I182 0 71 = 0 ∨ (I182 0 72 < I182 0 73 ∧ I182 0 72 < I182 0 69)) ∧ (I182 0 71 = 3 → 2 ≤ I182 0 73 - I182 0 72 ∧ I182 0 73 - I182 0 72 ≤ 14) ∧ (I182 0 72 ≤ I182 0 73) ∧ (I182 0 69 = I 0 69) ∧ (I 0 73 ≤ I182 0 73) ∧ (I 0 72 ≤ I182 0 72) ∧ (I 0 64 ≤ I182 0 64) ∧ (I182 0 64 - I182 0 72 ≤ I 0 64 - I 0 72) ∧ (I182 0 99 ≤ I182 0 72) := by exact gz_m 125 (by omega)
          exact gv_zret hD rfl (by exact gz_m 126 (by omega)) ⟨I182, J183, rfl, hI182, FI182, FJ183, KTM_I182, KTO_I182, KFM_I182, KMQ_I182, ⟨_, rfl, by exact gz_m 127 (by omega), by exact gz_m 128 (by omega), b275.1, b275.2.1, b275.2.2.1, b275.2.2.2.1, b275.2.2.2.2.1, b275.2.2.2.2.2.1, b275.2.2.2.2.2.2.1, b275.2.2.2.2.2.2.2.1, b275.2.2.2.2.2.2.2.2.1, b275.2.2.2.2.2.2.2.2.2.1, b275.2.2.2.2.2.2.2.2.2.2, (Or.inr ⟨by exact gz_m 129 (by omega), by first | (exfalso; exact gz_m 130 (by omega)) | (unfold gs_mn; rw [if_pos (by exact gz_m 131 (by omega)), show gs_lk I J 3 3 (gs_rn β N9 p9) = z152 from by exact gz_m 132 (by omega)]; unfold gs_mn0 gs_mn1 gs_mn2; (repeat first | rw [if_pos (by exact gz_m 133 (by omega))] | rw [if_neg (by exact gz_m 134 (by omega))]); exact ⟨by exact gz_m 135 (by omega), by exact gz_m 136 (by omega), ⟨(((g181 0 99 rfl).trans (g158 0 99 rfl)).trans (g123 0 99 rfl)), fun j => ⟨(((g181 10 j rfl).trans (g158 10 j rfl)).trans (g123 10 j rfl)), (((g181 60 j rfl).trans (g158 60 j rfl)).trans (g123 60 j rfl))⟩⟩⟩)⟩)⟩⟩
      · refine gv_run 2 true hD (pc' := 47) (lv' := [(1, .inl z152), (0, .inr (.inr (some 0)))]) (st' := [.inl 4, .inr (.inr (some 0))]) (h' := gr_h I124 J125) (C := ((True ∧ True) ∧ True)) rfl ⟨⟨trivial, trivial⟩, trivial⟩ ?_
        obtain ⟨r276, h276, E276, P276⟩ := r_no__p (ws0 := ws0) (tb := tb) hws htb ext β N9 p9 I124 J125 hI124 4 ⟨by exact gz_m 137 (by omega), by exact gz_m 138 (by omega)⟩ A145 (by exact gz_m 139 (by omega))
        obtain ⟨I277, J278, rfl, hI277, g276, k276, ⟨z276, rfl, q276⟩⟩ := P276
        have FI277 := gr_frt FI124 g276 rfl rfl
        have FJ278 := gr_fjt FJ125 k276 rfl rfl
        have t279 := g276 0 71 rfl
        have t280 := g276 0 72 rfl
        have t281 := g276 0 73 rfl
        have t282 := g276 0 69 rfl
        have t283 := g276 0 64 rfl
        have t284 := g276 0 99 rfl
        have t285 := g276 0 122 rfl
        have t286 := g276 0 3 rfl
        have t287 := g276 0 123 rfl
        have f288 := (gr_b_0_71 hI277)
        have f289 := (gr_b_0_72 hI277)
        have f290 := (gr_b_0_73 hI277)
        have f291 := (gr_b_0_69 hI277)
        have f292 := (gr_b_0_64 hI277)
        have f293 := (gr_b_0_99 hI277)
        have f294 := (gr_b_0_122 hI277)
        have f295 := (gr_b_0_3 hI277)
        have f296 := (gr_b_0_123 hI277)
        have f297 := (gr_b_0_77 hI277)
        have KTM_I277 := gr_TM_fr KTM_I124 (fun k => g276 52 k rfl) (fun k => g276 53 k rfl) (fun k => g276 54 k rfl) (g276 0 64 rfl)
        have KTO_I277 := gr_TO_fr KTO_I124 (fun k => g276 52 k rfl) (fun k => g276 53 k rfl) (fun k => g276 54 k rfl) (fun k => g276 55 k rfl) (fun k => g276 6 k rfl) (g276 0 64 rfl) (g276 0 3 rfl)
        have KFM_I277 := gr_FM_fr KFM_I124 (fun k => g276 10 k rfl) (fun k => g276 55 k rfl) (fun k => g276 52 k rfl) (fun k => g276 53 k rfl) (fun k => g276 54 k rfl) (g276 0 64 rfl) (g276 0 3 rfl)
        have KMQ_I277 := gr_MQ_fr KMQ_I124 (fun k => g276 10 k rfl) (fun k => g276 55 k rfl) (fun k => g276 52 k rfl) (fun k => g276 53 k rfl) (fun k => g276 54 k rfl) (fun k => g276 60 k rfl) (g276 0 64 rfl) (g276 0 3 rfl) (g276 0 99 rfl)
        have A298 := gr_ATp_F A145 g276 k276 rfl
        have t299 := gr_ATp_l A298
        refine gv_callV hD rfl (As := [.inl 4]) (st := []) rfl (by decide) rfl rfl (gr_lV hws rfl) (Nat.le_of_ble_eq_true rfl) (gz_Ev_mono (d := 2) (by decide) E276) ?_
        show gv_X _ _ (50, [(1, .inl z152), (0, .inr (.inr (some 0)))], [.inl z276], gr_sh ++ ext, gr_h I277 J278)
        have b300 : (I277 0 69 = I 0 69) ∧ (I 0 73 ≤ I277 0 73) ∧ (I 0 72 ≤ I277 0 72) ∧ (I 0 64 ≤ I277 0 64) ∧ (I277 0 64 - I277 0 72 ≤ I 0 64 - I 0 72) ∧ (I277 0 99 ≤ I277 0 72) := by exact gz_m 140 (by omega)
        exact gv_zret hD rfl (by exact gz_m 141 (by omega)) ⟨I277, J278, rfl, hI277, FI277, FJ278, KTM_I277, KTO_I277, KFM_I277, KMQ_I277, ⟨_, rfl, by exact gz_m 142 (by omega), by exact gz_m 143 (by omega), (gr_ATp_rr A298).1, (gr_ATp_rr A298).2.1, (gr_ATp_rr A298).2.2.1, (gr_ATp_rr A298).2.2.2.1, (gr_ATp_rr A298).2.2.2.2, b300.1, b300.2.1, b300.2.2.1, b300.2.2.2.1, b300.2.2.2.2.1, b300.2.2.2.2.2, (Or.inr ⟨by exact gz_m 144 (by omega), by first | (exfalso; exact gz_m 145 (by omega)) | (unfold gs_mn; rw [if_pos (by exact gz_m 146 (by omega)), show gs_lk I J 3 3 (gs_rn β N9 p9) = z152 from by exact gz_m 147 (by omega)]; unfold gs_mn0 gs_mn1 gs_mn2; (repeat first | rw [if_pos (by exact gz_m 148 (by omega))] | rw [if_neg (by exact gz_m 149 (by omega))]); exact ⟨by exact gz_m 150 (by omega), by exact gz_m 151 (by omega), ⟨((g276 0 99 rfl).trans (g123 0 99 rfl)), fun j => ⟨((g276 10 j rfl).trans (g123 10 j rfl)), ((g276 60 j rfl).trans (g123 60 j rfl))⟩⟩⟩)⟩)⟩⟩
    · refine gv_run 2 true hD (pc' := 32) (lv' := [(1, .inl z152), (0, .inr (.inr (some 0)))]) (st' := [.inl 5, .inr (.inr (some 0))]) (h' := gr_h I124 J125) (C := ((True ∧ True) ∧ True)) rfl ⟨⟨trivial, trivial⟩, trivial⟩ ?_
      obtain ⟨r301, h301, E301, P301⟩ := r_no__p (ws0 := ws0) (tb := tb) hws htb ext β N9 p9 I124 J125 hI124 5 ⟨by exact gz_m 152 (by omega), by exact gz_m 153 (by omega)⟩ A145 (by exact gz_m 154 (by omega))
      obtain ⟨I302, J303, rfl, hI302, g301, k301, ⟨z301, rfl, q301⟩⟩ := P301
      have FI302 := gr_frt FI124 g301 rfl rfl
      have FJ303 := gr_fjt FJ125 k301 rfl rfl
      have t304 := g301 0 71 rfl
      have t305 := g301 0 72 rfl
      have t306 := g301 0 73 rfl
      have t307 := g301 0 69 rfl
      have t308 := g301 0 64 rfl
      have t309 := g301 0 99 rfl
      have t310 := g301 0 122 rfl
      have t311 := g301 0 3 rfl
      have t312 := g301 0 123 rfl
      have f313 := (gr_b_0_71 hI302)
      have f314 := (gr_b_0_72 hI302)
      have f315 := (gr_b_0_73 hI302)
      have f316 := (gr_b_0_69 hI302)
      have f317 := (gr_b_0_64 hI302)
      have f318 := (gr_b_0_99 hI302)
      have f319 := (gr_b_0_122 hI302)
      have f320 := (gr_b_0_3 hI302)
      have f321 := (gr_b_0_123 hI302)
      have f322 := (gr_b_0_77 hI302)
      have KTM_I302 := gr_TM_fr KTM_I124 (fun k => g301 52 k rfl) (fun k => g301 53 k rfl) (fun k => g301 54 k rfl) (g301 0 64 rfl)
      have KTO_I302 := gr_TO_fr KTO_I124 (fun k => g301 52 k rfl) (fun k => g301 53 k rfl) (fun k => g301 54 k rfl) (fun k => g301 55 k rfl) (fun k => g301 6 k rfl) (g301 0 64 rfl) (g301 0 3 rfl)
      have KFM_I302 := gr_FM_fr KFM_I124 (fun k => g301 10 k rfl) (fun k => g301 55 k rfl) (fun k => g301 52 k rfl) (fun k => g301 53 k rfl) (fun k => g301 54 k rfl) (g301 0 64 rfl) (g301 0 3 rfl)
      have KMQ_I302 := gr_MQ_fr KMQ_I124 (fun k => g301 10 k rfl) (fun k => g301 55 k rfl) (fun k => g301 52 k rfl) (fun k => g301 53 k rfl) (fun k => g301 54 k rfl) (fun k => g301 60 k rfl) (g301 0 64 rfl) (g301 0 3 rfl) (g301 0 99 rfl)
      have A323 := gr_ATp_F A145 g301 k301 rfl
      have t324 := gr_ATp_l A323
      refine gv_callV hD rfl (As := [.inl 5]) (st := []) rfl (by decide) rfl rfl (gr_lV hws rfl) (Nat.le_of_ble_eq_true rfl) (gz_Ev_mono (d := 2) (by decide) E301) ?_
      show gv_X _ _ (35, [(1, .inl z152), (0, .inr (.inr (some 0)))], [.inl z301], gr_sh ++ ext, gr_h I302 J303)
      have b325 : (I302 0 69 = I 0 69) ∧ (I 0 73 ≤ I302 0 73) ∧ (I 0 72 ≤ I302 0 72) ∧ (I 0 64 ≤ I302 0 64) ∧ (I302 0 64 - I302 0 72 ≤ I 0 64 - I 0 72) ∧ (I302 0 99 ≤ I302 0 72) := by exact gz_m 155 (by omega)
      exact gv_zret hD rfl (by exact gz_m 156 (by omega)) ⟨I302, J303, rfl, hI302, FI302, FJ303, KTM_I302, KTO_I302, KFM_I302, KMQ_I302, ⟨_, rfl, by exact gz_m 157 (by omega), by exact gz_m 158 (by omega), (gr_ATp_rr A323).1, (gr_ATp_rr A323).2.1, (gr_ATp_rr A323).2.2.1, (gr_ATp_rr A323).2.2.2.1, (gr_ATp_rr A323).2.2.2.2, b325.1, b325.2.1, b325.2.2.1, b325.2.2.2.1, b325.2.2.2.2.1, b325.2.2.2.2.2, (Or.inr ⟨by exact gz_m 159 (by omega), by first | (exfalso; exact gz_m 160 (by omega)) | (unfold gs_mn; rw [if_pos (by exact gz_m 161 (by omega)), show gs_lk I J 3 3 (gs_rn β N9 p9) = z152 from by exact gz_m 162 (by omega)]; unfold gs_mn0 gs_mn1 gs_mn2; (repeat first | rw [if_pos (by exact gz_m 163 (by omega))] | rw [if_neg (by exact gz_m 164 (by omega))]); exact ⟨by exact gz_m 165 (by omega), by exact gz_m 166 (by omega), ⟨((g301 0 99 rfl).trans (g123 0 99 rfl)), fun j => ⟨((g301 10 j rfl).trans (g123 10 j rfl)), ((g301 60 j rfl).trans (g123 60 j rfl))⟩⟩⟩)⟩)⟩⟩
  · have u326 := gs_or0 V123 (by exact gz_m 167 (by omega))
    clear o123 V123
    refine gv_run 1 true hD (pc' := 8) (lv' := [(0, .inr (.inr (some 0)))]) (st' := [.inl 0]) (h' := gr_h I124 J125) (C := (True ∧ True)) rfl ⟨trivial, trivial⟩ ?_
    have b327 : (I124 0 69 = I 0 69) ∧ (I 0 73 ≤ I124 0 73) ∧ (I 0 72 ≤ I124 0 72) ∧ (I 0 64 ≤ I124 0 64) ∧ (I124 0 64 - I124 0 72 ≤ I 0 64 - I 0 72) ∧ (I124 0 99 ≤ I124 0 72) := by exact gz_m 168 (by omega)
    exact gv_zret hD rfl (by exact gz_m 169 (by omega)) ⟨I124, J125, rfl, hI124, FI124, FJ125, KTM_I124, KTO_I124, KFM_I124, KMQ_I124, ⟨_, rfl, by exact gz_m 170 (by omega), by exact gz_m 171 (by omega), (gr_ATp_rr A145).1, (gr_ATp_rr A145).2.1, (gr_ATp_rr A145).2.2.1, (gr_ATp_rr A145).2.2.2.1, (gr_ATp_rr A145).2.2.2.2, b327.1, b327.2.1, b327.2.2.1, b327.2.2.2.1, b327.2.2.2.2.1, b327.2.2.2.2.2, (Or.inr ⟨by exact gz_m 172 (by omega), by unfold gs_mn; (repeat first | rw [if_pos (by exact gz_m 173 (by omega))] | rw [if_neg (by exact gz_m 174 (by omega))]); exact ⟨by exact gz_m 175 (by omega), by exact gz_m 176 (by omega), ⟨(g123 0 99 rfl), fun j => ⟨(g123 10 j rfl), (g123 60 j rfl)⟩⟩⟩⟩)⟩⟩
