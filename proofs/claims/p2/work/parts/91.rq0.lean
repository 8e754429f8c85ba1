set_option maxHeartbeats 4000000 in
set_option maxRecDepth 100000 in
theorem r_mean {ws0 : List Cond} {tb : String → gz_T} (hws : ∀ w ∈ gr_ws, w ∈ ws0) (htb : tb RX13 = gr_T) (ext : gz_Sh) (I : gr_I) (J : gr_J) (hI : gr_Inv I)   (x0 : I 0 71 = 5 ∨ I 0 73 ≤ I 0 69) (x1 : I 0 72 ≤ I 0 69) (x2 : I 0 71 = 0 ∨ (I 0 72 < I 0 73 ∧ I 0 72 < I 0 69)) (x3 : I 0 71 = 3 → 2 ≤ I 0 73 - I 0 72 ∧ I 0 73 - I 0 72 ≤ 14) (x4 : I 0 72 ≤ I 0 73) (x5 : I 0 64 + I 0 69 - I 0 72 ≤ 1900) (x6 : I 0 99 ≤ I 0 72) (KTM_I : gr_TM I) : ∃ r h', gz_Ev ws0 tb 99 (yX13_mean, cX13_mean, 4, (some .boolean)) [.inr (.inr (some 0))] (gr_sh ++ ext) (gr_h I J) r (gr_sh ++ ext) h' 0 0 ∧ (∃ (I' : gr_I) (J' : gr_J), h' = gr_h I' J' ∧ gr_Inv I' ∧ gr_fr [64, 71, 72, 73, 74, 75, 76, 77, 99, 122, 123] [10, 52, 53, 54, 55, 60, 75] I I' ∧ gr_fj [64, 71, 72, 73, 74, 75, 76, 77, 99, 122, 123] [10, 52, 53, 54, 55, 60, 75] J J' ∧ gr_TM I' ∧ (∃ z : Int, r = some (.inl z) ∧ 0 ≤ z ∧ z ≤ 1 ∧ (I' 0 71 = 5 ∨ I' 0 73 ≤ I' 0 69) ∧ (I' 0 72 ≤ I' 0 69) ∧ (I' 0 71 = 0 ∨ (I' 0 72 < I' 0 73 ∧ I' 0 72 < I' 0 69)) ∧ (I' 0 71 = 3 → 2 ≤ I' 0 73 - I' 0 72 ∧ I' 0 73 - I' 0 72 ≤ 14) ∧ (I' 0 72 ≤ I' 0 73) ∧ (I' 0 69 = I 0 69) ∧ (I 0 73 ≤ I' 0 73) ∧ (I 0 72 ≤ I' 0 72) ∧ (I 0 64 ≤ I' 0 64) ∧ (I' 0 64 - I' 0 72 ≤ I 0 64 - I 0 72) ∧ (I' 0 99 ≤ I' 0 72))) := by
  have FI : gr_fr [64, 71, 72, 73, 74, 75, 76, 77, 99, 122, 123] [10, 52, 53, 54, 55, 60, 75] I I := fun _ _ _ => rfl
  have FJ : gr_fj [64, 71, 72, 73, 74, 75, 76, 77, 99, 122, 123] [10, 52, 53, 54, 55, 60, 75] J J := fun _ _ _ => rfl
  have hD : gv_D (gr_E ws0 tb 98 (yX13_mean, cX13_mean, 4, (some .boolean)) kX13_mean) := gq_ok oX13_mean
  refine gr_ev (d := 98) (l := kX13_mean) (Po := fun r h' => (∃ (I' : gr_I) (J' : gr_J), h' = gr_h I' J' ∧ gr_Inv I' ∧ gr_fr [64, 71, 72, 73, 74, 75, 76, 77, 99, 122, 123] [10, 52, 53, 54, 55, 60, 75] I I' ∧ gr_fj [64, 71, 72, 73, 74, 75, 76, 77, 99, 122, 123] [10, 52, 53, 54, 55, 60, 75] J J' ∧ gr_TM I' ∧ (∃ z : Int, r = some (.inl z) ∧ 0 ≤ z ∧ z ≤ 1 ∧ (I' 0 71 = 5 ∨ I' 0 73 ≤ I' 0 69) ∧ (I' 0 72 ≤ I' 0 69) ∧ (I' 0 71 = 0 ∨ (I' 0 72 < I' 0 73 ∧ I' 0 72 < I' 0 69)) ∧ (I' 0 71 = 3 → 2 ≤ I' 0 73 - I' 0 72 ∧ I' 0 73 - I' 0 72 ≤ 14) ∧ (I' 0 72 ≤ I' 0 73) ∧ (I' 0 69 = I 0 69) ∧ (I 0 73 ≤ I' 0 73) ∧ (I 0 72 ≤ I' 0 72) ∧ (I 0 64 ≤ I' 0 64) ∧ (I' 0 64 - I' 0 72 ≤ I 0 64 - I 0 72) ∧ (I' 0 99 ≤ I' 0 72)))) htb rfl (Nat.le_of_ble_eq_true rfl) ?_
  have f1 := (show 0 ≤ I 0 71 ∧ I 0 71 ≤ 5 from (hI 0 71).1)
  have f2 := (show 0 ≤ I 0 72 ∧ I 0 72 ≤ 1000 from (hI 0 72).1)
  have f3 := (show 0 ≤ I 0 73 ∧ I 0 73 ≤ 1001 from (hI 0 73).1)
  have f4 := (show 0 ≤ I 0 69 ∧ I 0 69 ≤ 1000 from (hI 0 69).1)
  have f5 := (show 0 ≤ I 0 64 ∧ I 0 64 ≤ 2000 from (hI 0 64).1)
  have f6 := (show 0 ≤ I 0 99 ∧ I 0 99 ≤ 1000 from (hI 0 99).1)
  have f7 := (show 0 ≤ I 0 122 ∧ I 0 122 ≤ 47 from (hI 0 122).1)
  have L114 : ∀ (I8 : gr_I) (J9 : gr_J) , gr_Inv I8 → gr_fr [64, 71, 72, 73, 74, 75, 76, 77, 99, 122, 123] [10, 52, 53, 54, 55, 60, 75] I I8 → gr_fj [64, 71, 72, 73, 74, 75, 76, 77, 99, 122, 123] [10, 52, 53, 54, 55, 60, 75] J J9 → gr_TM I8 → ((I 0 64 ≤ I8 0 64) ∧ (I8 0 64 - I8 0 72 ≤ I 0 64 - I 0 72) ∧ (I 0 72 + 1 ≤ I8 0 72) ∧ (I8 0 99 = I 0 99) ∧ (I8 0 71 = 5 ∨ I8 0 73 ≤ I8 0 69) ∧ (I8 0 72 ≤ I8 0 69) ∧ (I8 0 71 = 0 ∨ (I8 0 72 < I8 0 73 ∧ I8 0 72 < I8 0 69)) ∧ (I8 0 71 = 3 → 2 ≤ I8 0 73 - I8 0 72 ∧ I8 0 73 - I8 0 72 ≤ 14) ∧ (I8 0 72 ≤ I8 0 73) ∧ (I8 0 69 = I 0 69) ∧ (I 0 73 ≤ I8 0 73) ∧ (I 0 72 ≤ I8 0 72)) → gv_X (gr_E ws0 tb 98 (yX13_mean, cX13_mean, 4, (some .boolean)) kX13_mean) (gv_Q cX13_mean (some .boolean) (gr_sh ++ ext) (fun r h' => (∃ (I' : gr_I) (J' : gr_J), h' = gr_h I' J' ∧ gr_Inv I' ∧ gr_fr [64, 71, 72, 73, 74, 75, 76, 77, 99, 122, 123] [10, 52, 53, 54, 55, 60, 75] I I' ∧ gr_fj [64, 71, 72, 73, 74, 75, 76, 77, 99, 122, 123] [10, 52, 53, 54, 55, 60, 75] J J' ∧ gr_TM I' ∧ (∃ z : Int, r = some (.inl z) ∧ 0 ≤ z ∧ z ≤ 1 ∧ (I' 0 71 = 5 ∨ I' 0 73 ≤ I' 0 69) ∧ (I' 0 72 ≤ I' 0 69) ∧ (I' 0 71 = 0 ∨ (I' 0 72 < I' 0 73 ∧ I' 0 72 < I' 0 69)) ∧ (I' 0 71 = 3 → 2 ≤ I' 0 73 - I' 0 72 ∧ I' 0 73 - I' 0 72 ≤ 14) ∧ (I' 0 72 ≤ I' 0 73) ∧ (I' 0 69 = I 0 69) ∧ (I 0 73 ≤ I' 0 73) ∧ (I 0 72 ≤ I' 0 72) ∧ (I 0 64 ≤ I' 0 64) ∧ (I' 0 64 - I' 0 72 ≤ I 0 64 - I 0 72) ∧ (I' 0 99 ≤ I' 0 72))))) (114, [], [], gr_sh ++ ext, gr_h I8 J9) := by
    intro I8 J9 hI8 FI8 FJ9 KTM_I8 m_10
    obtain ⟨e0_10, e1_10, e2_10, e3_10, e4_10, e5_10, e6_10, e7_10, e8_10, e9_10, e10_10, e11_10⟩ := m_10
    have f11 := (show 0 ≤ I8 0 71 ∧ I8 0 71 ≤ 5 from (hI8 0 71).1)
    have f12 := (show 0 ≤ I8 0 72 ∧ I8 0 72 ≤ 1000 from (hI8 0 72).1)
    have f13 := (show 0 ≤ I8 0 73 ∧ I8 0 73 ≤ 1001 from (hI8 0 73).1)
    have f14 := (show 0 ≤ I8 0 69 ∧ I8 0 69 ≤ 1000 from (hI8 0 69).1)
    have f15 := (show 0 ≤ I8 0 64 ∧ I8 0 64 ≤ 2000 from (hI8 0 64).1)
    have f16 := (show 0 ≤ I8 0 99 ∧ I8 0 99 ≤ 1000 from (hI8 0 99).1)
    have f17 := (show 0 ≤ I8 0 122 ∧ I8 0 122 ≤ 47 from (hI8 0 122).1)
    refine gv_run 1 true hD (pc' := 115) (lv' := []) (st' := [.inl 0]) (h' := gr_h I8 J9) (C := (True ∧ True)) rfl ⟨trivial, trivial⟩ ?_
    exact gv_zret hD rfl (by omega) ⟨I8, J9, rfl, hI8, FI8, FJ9, KTM_I8, ⟨_, rfl, by omega⟩⟩
  have L108 : ∀ (I18 : gr_I) (J19 : gr_J) (v1_20 : Int) (v3_20 : Int) (s1_20 : Int), gr_Inv I18 → gr_fr [64, 71, 72, 73, 74, 75, 76, 77, 99, 122, 123] [10, 52, 53, 54, 55, 60, 75] I I18 → gr_fj [64, 71, 72, 73, 74, 75, 76, 77, 99, 122, 123] [10, 52, 53, 54, 55, 60, 75] J J19 → gr_TM I18 → ((0 ≤ v1_20 ∧ v1_20 ≤ 95) ∧ (0 ≤ v3_20 ∧ v3_20 ≤ 1999) ∧ (0 ≤ s1_20 ∧ s1_20 ≤ 1) ∧ (I 0 64 ≤ I18 0 64) ∧ (I18 0 64 - I18 0 72 ≤ I 0 64 - I 0 72) ∧ (I 0 72 + 1 ≤ I18 0 72) ∧ (I18 0 99 = I 0 99) ∧ (I 0 72 ≤ 999) ∧ (I18 0 71 = 5 ∨ I18 0 73 ≤ I18 0 69) ∧ (I18 0 72 ≤ I18 0 69) ∧ (I18 0 71 = 0 ∨ (I18 0 72 < I18 0 73 ∧ I18 0 72 < I18 0 69)) ∧ (I18 0 71 = 3 → 2 ≤ I18 0 73 - I18 0 72 ∧ I18 0 73 - I18 0 72 ≤ 14) ∧ (I18 0 72 ≤ I18 0 73) ∧ (I18 0 69 = I 0 69) ∧ (I 0 73 ≤ I18 0 73) ∧ (I 0 72 ≤ I18 0 72)) → gv_X (gr_E ws0 tb 98 (yX13_mean, cX13_mean, 4, (some .boolean)) kX13_mean) (gv_Q cX13_mean (some .boolean) (gr_sh ++ ext) (fun r h' => (∃ (I' : gr_I) (J' : gr_J), h' = gr_h I' J' ∧ gr_Inv I' ∧ gr_fr [64, 71, 72, 73, 74, 75, 76, 77, 99, 122, 123] [10, 52, 53, 54, 55, 60, 75] I I' ∧ gr_fj [64, 71, 72, 73, 74, 75, 76, 77, 99, 122, 123] [10, 52, 53, 54, 55, 60, 75] J J' ∧ gr_TM I' ∧ (∃ z : Int, r = some (.inl z) ∧ 0 ≤ z ∧ z ≤ 1 ∧ (I' 0 71 = 5 ∨ I' 0 73 ≤ I' 0 69) ∧ (I' 0 72 ≤ I' 0 69) ∧ (I' 0 71 = 0 ∨ (I' 0 72 < I' 0 73 ∧ I' 0 72 < I' 0 69)) ∧ (I' 0 71 = 3 → 2 ≤ I' 0 73 - I' 0 72 ∧ I' 0 73 - I' 0 72 ≤ 14) ∧ (I' 0 72 ≤ I' 0 73) ∧ (I' 0 69 = I 0 69) ∧ (I 0 73 ≤ I' 0 73) ∧ (I 0 72 ≤ I' 0 72) ∧ (I 0 64 ≤ I' 0 64) ∧ (I' 0 64 - I' 0 72 ≤ I 0 64 - I 0 72) ∧ (I' 0 99 ≤ I' 0 72))))) (108, [(0, .inr (.inr (some 0))), (1, .inl v1_20), (3, .inl v3_20)], [.inl s1_20, .inr (.inr (some 0))], gr_sh ++ ext, gr_h I18 J19) := by
    intro I18 J19 v1_20 v3_20 s1_20 hI18 FI18 FJ19 KTM_I18 m_20
    obtain ⟨hv1_20, hv3_20, hs1_20, e0_20, e1_20, e2_20, e3_20, e4_20, e5_20, e6_20, e7_20, e8_20, e9_20, e10_20, e11_20, e12_20⟩ := m_20
    have f21 := (show 0 ≤ I18 0 71 ∧ I18 0 71 ≤ 5 from (hI18 0 71).1)
    have f22 := (show 0 ≤ I18 0 72 ∧ I18 0 72 ≤ 1000 from (hI18 0 72).1)
    have f23 := (show 0 ≤ I18 0 73 ∧ I18 0 73 ≤ 1001 from (hI18 0 73).1)
    have f24 := (show 0 ≤ I18 0 69 ∧ I18 0 69 ≤ 1000 from (hI18 0 69).1)
    have f25 := (show 0 ≤ I18 0 64 ∧ I18 0 64 ≤ 2000 from (hI18 0 64).1)
    have f26 := (show 0 ≤ I18 0 99 ∧ I18 0 99 ≤ 1000 from (hI18 0 99).1)
    have f27 := (show 0 ≤ I18 0 122 ∧ I18 0 122 ≤ 47 from (hI18 0 122).1)
    obtain ⟨r28, h28, E28, P28⟩ := r_done (ws0 := ws0) (tb := tb) hws htb ext I18 J19 hI18 s1_20 ⟨by omega, by omega⟩ (by omega) (by omega) (by omega) (by omega) (by omega)
    obtain ⟨I29, J30, rfl, hI29, g28, k28, ⟨z28, rfl, q28⟩⟩ := P28
    have FI29 := gr_frt FI18 g28 rfl rfl
    have FJ30 := gr_fjt FJ19 k28 rfl rfl
    have t31 := g28 0 69 rfl
    have t32 := g28 0 64 rfl
    have t33 := g28 0 99 rfl
    have t34 := g28 0 122 rfl
    have f35 := (show 0 ≤ I29 0 71 ∧ I29 0 71 ≤ 5 from (hI29 0 71).1)
    have f36 := (show 0 ≤ I29 0 72 ∧ I29 0 72 ≤ 1000 from (hI29 0 72).1)
    have f37 := (show 0 ≤ I29 0 73 ∧ I29 0 73 ≤ 1001 from (hI29 0 73).1)
    have f38 := (show 0 ≤ I29 0 69 ∧ I29 0 69 ≤ 1000 from (hI29 0 69).1)
    have f39 := (show 0 ≤ I29 0 64 ∧ I29 0 64 ≤ 2000 from (hI29 0 64).1)
    have f40 := (show 0 ≤ I29 0 99 ∧ I29 0 99 ≤ 1000 from (hI29 0 99).1)
    have f41 := (show 0 ≤ I29 0 122 ∧ I29 0 122 ≤ 47 from (hI29 0 122).1)
    have KTM_I29 := gr_TM_fr KTM_I18 (fun k => g28 52 k rfl) (fun k => g28 53 k rfl) (fun k => g28 54 k rfl) (g28 0 64 rfl)
    refine gv_callV hD rfl (As := [.inl s1_20]) (st := []) rfl (by decide) rfl rfl (gr_lV hws rfl) (Nat.le_of_ble_eq_true rfl) (gz_Ev_mono (d := 11) (by decide) E28) ?_
    show gv_X _ _ (111, [(0, .inr (.inr (some 0))), (1, .inl v1_20), (3, .inl v3_20)], [.inl z28], gr_sh ++ ext, gr_h I29 J30)
    refine gv_if_ne (t := 116) hD rfl rfl ⟨by omega, by omega⟩ (fun c42 => ?_) (fun c42 => ?_)
    · refine gv_run 4 true hD (pc' := 122) (lv' := [(0, .inr (.inr (some 0))), (1, .inl v1_20), (3, .inl v3_20)]) (st' := [.inl v3_20, .inl v1_20, .inr (.inr (some 10))]) (h' := gr_h I29 J30) (C := ((((True ∧ True) ∧ True) ∧ True) ∧ True)) rfl ⟨⟨⟨⟨trivial, trivial⟩, trivial⟩, trivial⟩, trivial⟩ ?_
      refine gv_run 1 true hD (pc' := 123) (lv' := [(0, .inr (.inr (some 0))), (1, .inl v1_20), (3, .inl v3_20)]) (st' := []) (h' := gz_up (gr_h I29 J30) 10 (Int.toNat v1_20) (.inl v3_20)) (C := (True ∧ (0 ≤ v1_20 ∧ v1_20 < ((96 : Nat) : Int)))) rfl ⟨trivial, ⟨by omega, by omega⟩⟩ ?_
      refine gr_st hI29 FI29 rfl rfl ⟨⟨by show (-1) ≤ _; omega, by show _ ≤ 1999; omega⟩, trivial⟩ (fun I43 hI43 FI43 q44 p44 => ?_)
      have t45 := p44 0 71 (fun q => absurd q.1 (by decide))
      have t46 := p44 0 72 (fun q => absurd q.1 (by decide))
      have t47 := p44 0 73 (fun q => absurd q.1 (by decide))
      have t48 := p44 0 69 (fun q => absurd q.1 (by decide))
      have t49 := p44 0 64 (fun q => absurd q.1 (by decide))
      have t50 := p44 0 99 (fun q => absurd q.1 (by decide))
      have t51 := p44 0 122 (fun q => absurd q.1 (by decide))
      have f52 := (show 0 ≤ I43 0 71 ∧ I43 0 71 ≤ 5 from (hI43 0 71).1)
      have f53 := (show 0 ≤ I43 0 72 ∧ I43 0 72 ≤ 1000 from (hI43 0 72).1)
      have f54 := (show 0 ≤ I43 0 73 ∧ I43 0 73 ≤ 1001 from (hI43 0 73).1)
      have f55 := (show 0 ≤ I43 0 69 ∧ I43 0 69 ≤ 1000 from (hI43 0 69).1)
      have f56 := (show 0 ≤ I43 0 64 ∧ I43 0 64 ≤ 2000 from (hI43 0 64).1)
      have f57 := (show 0 ≤ I43 0 99 ∧ I43 0 99 ≤ 1000 from (hI43 0 99).1)
      have f58 := (show 0 ≤ I43 0 122 ∧ I43 0 122 ≤ 47 from (hI43 0 122).1)
      have KTM_I43 := gr_TM_fr KTM_I29 (fun k => p44 52 k (fun q => absurd q.1 (by decide))) (fun k => p44 53 k (fun q => absurd q.1 (by decide))) (fun k => p44 54 k (fun q => absurd q.1 (by decide))) (p44 0 64 (fun q => absurd q.1 (by decide)))
      have f59 := (show 0 ≤ I43 0 99 ∧ I43 0 99 ≤ 1000 from (hI43 0 99).1)
      refine gv_run 7 true hD (pc' := 134) (lv' := [(0, .inr (.inr (some 0))), (1, .inl v1_20), (3, .inl v3_20)]) (st' := [.inl 1, .inl (I43 0 99), .inr (.inr (some 0)), .inl (I43 0 99), .inr (.inr (some 60))]) (h' := gr_h I43 J30) (C := (((((((True ∧ True) ∧ True) ∧ True) ∧ True) ∧ True) ∧ True) ∧ True)) rfl ⟨⟨⟨⟨⟨⟨⟨trivial, trivial⟩, trivial⟩, trivial⟩, trivial⟩, trivial⟩, trivial⟩, trivial⟩ ?_
      refine gv_run 2 true hD (pc' := 138) (lv' := [(0, .inr (.inr (some 0))), (1, .inl v1_20), (3, .inl v3_20)]) (st' := [.inl (I43 0 99), .inr (.inr (some 60))]) (h' := gz_up (gr_h I43 J30) 0 99 (.inl (((I43 0 99) + 1)))) (C := ((True ∧ True) ∧ True)) rfl ⟨⟨trivial, trivial⟩, trivial⟩ ?_
      refine gr_st hI43 FI43 rfl rfl ⟨⟨by show 0 ≤ _; omega, by show _ ≤ 1000; omega⟩, trivial⟩ (fun I60 hI60 FI60 q61 p61 => ?_)
      have t62 := p61 0 71 (by decide)
      have t63 := p61 0 72 (by decide)
      have t64 := p61 0 73 (by decide)
      have t65 := p61 0 69 (by decide)
      have t66 := p61 0 64 (by decide)
      have t67 := p61 0 122 (by decide)
      have f68 := (show 0 ≤ I60 0 71 ∧ I60 0 71 ≤ 5 from (hI60 0 71).1)
      have f69 := (show 0 ≤ I60 0 72 ∧ I60 0 72 ≤ 1000 from (hI60 0 72).1)
      have f70 := (show 0 ≤ I60 0 73 ∧ I60 0 73 ≤ 1001 from (hI60 0 73).1)
      have f71 := (show 0 ≤ I60 0 69 ∧ I60 0 69 ≤ 1000 from (hI60 0 69).1)
      have f72 := (show 0 ≤ I60 0 64 ∧ I60 0 64 ≤ 2000 from (hI60 0 64).1)
      have f73 := (show 0 ≤ I60 0 99 ∧ I60 0 99 ≤ 1000 from (hI60 0 99).1)
      have f74 := (show 0 ≤ I60 0 122 ∧ I60 0 122 ≤ 47 from (hI60 0 122).1)
      have KTM_I60 := gr_TM_fr KTM_I43 (fun k => p61 52 k (fun q => absurd q.1 (by decide))) (fun k => p61 53 k (fun q => absurd q.1 (by decide))) (fun k => p61 54 k (fun q => absurd q.1 (by decide))) (p61 0 64 (by decide))
      refine gv_run 2 true hD (pc' := 140) (lv' := [(0, .inr (.inr (some 0))), (1, .inl v1_20), (3, .inl v3_20)]) (st' := []) (h' := gz_up (gr_h I60 J30) 60 (Int.toNat ((I43 0 99))) (.inl v1_20)) (C := ((True ∧ True) ∧ (0 ≤ (I43 0 99) ∧ (I43 0 99) < ((1000 : Nat) : Int)))) rfl ⟨⟨trivial, trivial⟩, ⟨by omega, by omega⟩⟩ ?_
      refine gr_st hI60 FI60 rfl rfl ⟨⟨by show 0 ≤ _; omega, by show _ ≤ 95; omega⟩, trivial⟩ (fun I75 hI75 FI75 q76 p76 => ?_)
      have t77 := p76 0 71 (fun q => absurd q.1 (by decide))
      have t78 := p76 0 72 (fun q => absurd q.1 (by decide))
      have t79 := p76 0 73 (fun q => absurd q.1 (by decide))
      have t80 := p76 0 69 (fun q => absurd q.1 (by decide))
      have t81 := p76 0 64 (fun q => absurd q.1 (by decide))
      have t82 := p76 0 99 (fun q => absurd q.1 (by decide))
      have t83 := p76 0 122 (fun q => absurd q.1 (by decide))
      have f84 := (show 0 ≤ I75 0 71 ∧ I75 0 71 ≤ 5 from (hI75 0 71).1)
      have f85 := (show 0 ≤ I75 0 72 ∧ I75 0 72 ≤ 1000 from (hI75 0 72).1)
      have f86 := (show 0 ≤ I75 0 73 ∧ I75 0 73 ≤ 1001 from (hI75 0 73).1)
      have f87 := (show 0 ≤ I75 0 69 ∧ I75 0 69 ≤ 1000 from (hI75 0 69).1)
      have f88 := (show 0 ≤ I75 0 64 ∧ I75 0 64 ≤ 2000 from (hI75 0 64).1)
      have f89 := (show 0 ≤ I75 0 99 ∧ I75 0 99 ≤ 1000 from (hI75 0 99).1)
      have f90 := (show 0 ≤ I75 0 122 ∧ I75 0 122 ≤ 47 from (hI75 0 122).1)
      have KTM_I75 := gr_TM_fr KTM_I60 (fun k => p76 52 k (fun q => absurd q.1 (by decide))) (fun k => p76 53 k (fun q => absurd q.1 (by decide))) (fun k => p76 54 k (fun q => absurd q.1 (by decide))) (p76 0 64 (fun q => absurd q.1 (by decide)))
      refine gv_run 1 true hD (pc' := 141) (lv' := [(0, .inr (.inr (some 0))), (1, .inl v1_20), (3, .inl v3_20)]) (st' := [.inl 1]) (h' := gr_h I75 J30) (C := (True ∧ True)) rfl ⟨trivial, trivial⟩ ?_
      exact gv_zret hD rfl (by omega) ⟨I75, J30, rfl, hI75, FI75, FJ30, KTM_I75, ⟨_, rfl, by omega⟩⟩
    · refine gv_pick [] rfl ?_
      exact L114 I29 J30 hI29 FI29 FJ30 KTM_I29 (by omega)
  refine gv_run 1 true hD (pc' := 1) (lv' := [(0, .inr (.inr (some 0)))]) (st' := [.inr (.inr (some 0))]) (h' := gr_h I J) (C := (True ∧ True)) rfl ⟨trivial, trivial⟩ ?_
  obtain ⟨r91, h91, E91, P91⟩ := r_name (ws0 := ws0) (tb := tb) hws htb ext I J hI   
  obtain ⟨I92, J93, rfl, hI92, g91, k91, ⟨z91, rfl, q91⟩⟩ := P91
  have FI92 := gr_frt FI g91 rfl rfl
  have FJ93 := gr_fjt FJ k91 rfl rfl
  have t94 := g91 0 71 rfl
  have t95 := g91 0 72 rfl
  have t96 := g91 0 73 rfl
  have t97 := g91 0 69 rfl
  have t98 := g91 0 64 rfl
  have t99 := g91 0 99 rfl
  have t100 := g91 0 122 rfl
  have f101 := (show 0 ≤ I92 0 71 ∧ I92 0 71 ≤ 5 from (hI92 0 71).1)
  have f102 := (show 0 ≤ I92 0 72 ∧ I92 0 72 ≤ 1000 from (hI92 0 72).1)
  have f103 := (show 0 ≤ I92 0 73 ∧ I92 0 73 ≤ 1001 from (hI92 0 73).1)
  have f104 := (show 0 ≤ I92 0 69 ∧ I92 0 69 ≤ 1000 from (hI92 0 69).1)
  have f105 := (show 0 ≤ I92 0 64 ∧ I92 0 64 ≤ 2000 from (hI92 0 64).1)
  have f106 := (show 0 ≤ I92 0 99 ∧ I92 0 99 ≤ 1000 from (hI92 0 99).1)
  have f107 := (show 0 ≤ I92 0 122 ∧ I92 0 122 ≤ 47 from (hI92 0 122).1)
  have KTM_I92 := gr_TM_fr KTM_I (fun k => g91 52 k rfl) (fun k => g91 53 k rfl) (fun k => g91 54 k rfl) (g91 0 64 rfl)
  refine gv_callV hD rfl (As := []) (st := []) rfl (by decide) rfl rfl (gr_lV hws rfl) (Nat.le_of_ble_eq_true rfl) (gz_Ev_mono (d := 3) (by decide) E91) ?_
  show gv_X _ _ (4, [(0, .inr (.inr (some 0)))], [.inl z91], gr_sh ++ ext, gr_h I92 J93)
  refine gv_if_ne (t := 9) hD rfl rfl ⟨by omega, by omega⟩ (fun c108 => ?_) (fun c108 => ?_)
  · have f109 := (show 0 ≤ I92 0 3 ∧ I92 0 3 ≤ 96 from (hI92 0 3).1)
    refine gv_run 7 true hD (pc' := 22) (lv' := [(0, .inr (.inr (some 0)))]) (st' := [.inr (.inl (J93 0 75)), .inl (I92 0 3), .inl 0, .inr (.inr (some 3))]) (h' := gr_h I92 J93) (C := (((((((True ∧ True) ∧ True) ∧ True) ∧ True) ∧ True) ∧ True) ∧ True)) rfl ⟨⟨⟨⟨⟨⟨⟨trivial, trivial⟩, trivial⟩, trivial⟩, trivial⟩, trivial⟩, trivial⟩, trivial⟩ ?_
    obtain ⟨r110, h110, E110, P110⟩ := r_find_3 (ws0 := ws0) (tb := tb) hws htb ext I92 J93 hI92 0 (I92 0 3) (J93 0 75) ⟨by omega, by omega⟩ ⟨by omega, by omega⟩ (by omega)
    obtain ⟨rfl, ⟨z110, rfl, q110⟩⟩ := P110
    refine gv_callS hD rfl (As := [.inr (.inr (some 3)), .inl 0, .inl (I92 0 3), .inr (.inl (J93 0 75))]) (st := []) rfl (gr_lS hws rfl) (Nat.le_of_ble_eq_true rfl) (gz_Ev_mono (d := 1) (by decide) E110) ?_
    show gv_X _ _ (25, [(0, .inr (.inr (some 0)))], [.inl z110], gr_sh ++ ext, gr_h I92 J93)
    refine gv_run 2 true hD (pc' := 27) (lv' := [(1, .inl z110), (0, .inr (.inr (some 0)))]) (st' := [.inl z110]) (h' := gr_h I92 J93) (C := ((True ∧ True) ∧ True)) rfl ⟨⟨trivial, trivial⟩, trivial⟩ ?_
    refine gv_if_ge (t := 36) hD rfl rfl ⟨by omega, by omega⟩ (fun c111 => ?_) (fun c111 => ?_)
    · have f112 := (show (-1) ≤ I92 10 (Int.toNat z110) ∧ I92 10 (Int.toNat z110) ≤ 1999 from (hI92 10 (Int.toNat z110)).1)
      refine gv_run 4 true hD (pc' := 42) (lv' := [(1, .inl z110), (0, .inr (.inr (some 0)))]) (st' := [.inl (I92 10 (Int.toNat z110))]) (h' := gr_h I92 J93) (C := ((((True ∧ True) ∧ True) ∧ True) ∧ (0 ≤ z110 ∧ z110 < ((96 : Nat) : Int)))) rfl ⟨⟨⟨⟨trivial, trivial⟩, trivial⟩, trivial⟩, ⟨by omega, by omega⟩⟩ ?_
      refine gv_if_lt (t := 51) hD rfl rfl ⟨by omega, by omega⟩ (fun c113 => ?_) (fun c113 => ?_)
      · refine gv_run 1 true hD (pc' := 52) (lv' := [(1, .inl z110), (0, .inr (.inr (some 0)))]) (st' := [.inr (.inr (some 0))]) (h' := gr_h I92 J93) (C := (True ∧ True)) rfl ⟨trivial, trivial⟩ ?_
        obtain ⟨r114, h114, E114, P114⟩ := r_next (ws0 := ws0) (tb := tb) hws htb ext I92 J93 hI92   (by omega)
        obtain ⟨I115, J116, rfl, hI115, g114, k114, ⟨rfl, q114⟩⟩ := P114
        have FI115 := gr_frt FI92 g114 rfl rfl
        have FJ116 := gr_fjt FJ93 k114 rfl rfl
        have t117 := g114 0 69 rfl
        have t118 := g114 0 64 rfl
        have t119 := g114 0 99 rfl
        have t120 := g114 0 122 rfl
        have f121 := (show 0 ≤ I115 0 71 ∧ I115 0 71 ≤ 5 from (hI115 0 71).1)
        have f122 := (show 0 ≤ I115 0 72 ∧ I115 0 72 ≤ 1000 from (hI115 0 72).1)
        have f123 := (show 0 ≤ I115 0 73 ∧ I115 0 73 ≤ 1001 from (hI115 0 73).1)
        have f124 := (show 0 ≤ I115 0 69 ∧ I115 0 69 ≤ 1000 from (hI115 0 69).1)
        have f125 := (show 0 ≤ I115 0 64 ∧ I115 0 64 ≤ 2000 from (hI115 0 64).1)
        have f126 := (show 0 ≤ I115 0 99 ∧ I115 0 99 ≤ 1000 from (hI115 0 99).1)
        have f127 := (show 0 ≤ I115 0 122 ∧ I115 0 122 ≤ 47 from (hI115 0 122).1)
        have KTM_I115 := gr_TM_fr KTM_I92 (fun k => g114 52 k rfl) (fun k => g114 53 k rfl) (fun k => g114 54 k rfl) (g114 0 64 rfl)
        refine gv_callV hD rfl (As := []) (st := []) rfl (by decide) rfl rfl (gr_lV hws rfl) (Nat.le_of_ble_eq_true rfl) (gz_Ev_mono (d := 10) (by decide) E114) ?_
        show gv_X _ _ (55, [(1, .inl z110), (0, .inr (.inr (some 0)))], [], gr_sh ++ ext, gr_h I115 J116)
        refine gv_run 2 true hD (pc' := 58) (lv' := [(1, .inl z110), (0, .inr (.inr (some 0)))]) (st' := [.inl 61, .inr (.inr (some 0))]) (h' := gr_h I115 J116) (C := ((True ∧ True) ∧ True)) rfl ⟨⟨trivial, trivial⟩, trivial⟩ ?_
        obtain ⟨r128, h128, E128, P128⟩ := r_need (ws0 := ws0) (tb := tb) hws htb ext I115 J116 hI115 61 ⟨by omega, by omega⟩ (by omega) (by omega) (by omega) (by omega) (by omega)
        obtain ⟨I129, J130, rfl, hI129, g128, k128, ⟨z128, rfl, q128⟩⟩ := P128
        have FI129 := gr_frt FI115 g128 rfl rfl
        have FJ130 := gr_fjt FJ116 k128 rfl rfl
        have t131 := g128 0 69 rfl
        have t132 := g128 0 64 rfl
        have t133 := g128 0 99 rfl
        have t134 := g128 0 122 rfl
        have f135 := (show 0 ≤ I129 0 71 ∧ I129 0 71 ≤ 5 from (hI129 0 71).1)
        have f136 := (show 0 ≤ I129 0 72 ∧ I129 0 72 ≤ 1000 from (hI129 0 72).1)
        have f137 := (show 0 ≤ I129 0 73 ∧ I129 0 73 ≤ 1001 from (hI129 0 73).1)
        have f138 := (show 0 ≤ I129 0 69 ∧ I129 0 69 ≤ 1000 from (hI129 0 69).1)
        have f139 := (show 0 ≤ I129 0 64 ∧ I129 0 64 ≤ 2000 from (hI129 0 64).1)
        have f140 := (show 0 ≤ I129 0 99 ∧ I129 0 99 ≤ 1000 from (hI129 0 99).1)
        have f141 := (show 0 ≤ I129 0 122 ∧ I129 0 122 ≤ 47 from (hI129 0 122).1)
        have KTM_I129 := gr_TM_fr KTM_I115 (fun k => g128 52 k rfl) (fun k => g128 53 k rfl) (fun k => g128 54 k rfl) (g128 0 64 rfl)
        refine gv_callV hD rfl (As := [.inl 61]) (st := []) rfl (by decide) rfl rfl (gr_lV hws rfl) (Nat.le_of_ble_eq_true rfl) (gz_Ev_mono (d := 11) (by decide) E128) ?_
        show gv_X _ _ (61, [(1, .inl z110), (0, .inr (.inr (some 0)))], [.inl z128], gr_sh ++ ext, gr_h I129 J130)
        refine gv_if_ne (t := 66) hD rfl rfl ⟨by omega, by omega⟩ (fun c142 => ?_) (fun c142 => ?_)
        · have f143 := (show 0 ≤ I129 0 64 ∧ I129 0 64 ≤ 2000 from (hI129 0 64).1)
          refine gv_run 5 true hD (pc' := 73) (lv' := [(2, .inl (I129 0 64)), (1, .inl z110), (0, .inr (.inr (some 0)))]) (st' := [.inl 0, .inr (.inr (some 0))]) (h' := gr_h I129 J130) (C := (((((True ∧ True) ∧ True) ∧ True) ∧ True) ∧ True)) rfl ⟨⟨⟨⟨⟨trivial, trivial⟩, trivial⟩, trivial⟩, trivial⟩, trivial⟩ ?_
          refine gv_run 1 true hD (pc' := 76) (lv' := [(2, .inl (I129 0 64)), (1, .inl z110), (0, .inr (.inr (some 0)))]) (st' := []) (h' := gz_up (gr_h I129 J130) 0 122 (.inl 0)) (C := (True ∧ True)) rfl ⟨trivial, trivial⟩ ?_
          refine gr_st hI129 FI129 rfl rfl ⟨⟨by show 0 ≤ _; omega, by show _ ≤ 47; omega⟩, trivial⟩ (fun I144 hI144 FI144 q145 p145 => ?_)
          have t146 := p145 0 71 (by decide)
          have t147 := p145 0 72 (by decide)
          have t148 := p145 0 73 (by decide)
          have t149 := p145 0 69 (by decide)
          have t150 := p145 0 64 (by decide)
          have t151 := p145 0 99 (by decide)
          have f152 := (show 0 ≤ I144 0 71 ∧ I144 0 71 ≤ 5 from (hI144 0 71).1)
          have f153 := (show 0 ≤ I144 0 72 ∧ I144 0 72 ≤ 1000 from (hI144 0 72).1)
          have f154 := (show 0 ≤ I144 0 73 ∧ I144 0 73 ≤ 1001 from (hI144 0 73).1)
          have f155 := (show 0 ≤ I144 0 69 ∧ I144 0 69 ≤ 1000 from (hI144 0 69).1)
          have f156 := (show 0 ≤ I144 0 64 ∧ I144 0 64 ≤ 2000 from (hI144 0 64).1)
          have f157 := (show 0 ≤ I144 0 99 ∧ I144 0 99 ≤ 1000 from (hI144 0 99).1)
          have f158 := (show 0 ≤ I144 0 122 ∧ I144 0 122 ≤ 47 from (hI144 0 122).1)
          have KTM_I144 := gr_TM_fr KTM_I129 (fun k => p145 52 k (fun q => absurd q.1 (by decide))) (fun k => p145 53 k (fun q => absurd q.1 (by decide))) (fun k => p145 54 k (fun q => absurd q.1 (by decide))) (p145 0 64 (by decide))
          refine gv_run 3 true hD (pc' := 81) (lv' := [(2, .inl (I129 0 64)), (1, .inl z110), (0, .inr (.inr (some 0)))]) (st' := []) (h' := gz_up (gr_h I144 J130) 0 123 (.inl z110)) (C := (((True ∧ True) ∧ True) ∧ True)) rfl ⟨⟨⟨trivial, trivial⟩, trivial⟩, trivial⟩ ?_
          refine gr_st hI144 FI144 rfl rfl ⟨⟨by show 0 ≤ _; omega, by show _ ≤ 95; omega⟩, trivial⟩ (fun I159 hI159 FI159 q160 p160 => ?_)
          have t161 := p160 0 71 (by decide)
          have t162 := p160 0 72 (by decide)
          have t163 := p160 0 73 (by decide)
          have t164 := p160 0 69 (by decide)
          have t165 := p160 0 64 (by decide)
          have t166 := p160 0 99 (by decide)
          have t167 := p160 0 122 (by decide)
          have f168 := (show 0 ≤ I159 0 71 ∧ I159 0 71 ≤ 5 from (hI159 0 71).1)
          have f169 := (show 0 ≤ I159 0 72 ∧ I159 0 72 ≤ 1000 from (hI159 0 72).1)
          have f170 := (show 0 ≤ I159 0 73 ∧ I159 0 73 ≤ 1001 from (hI159 0 73).1)
          have f171 := (show 0 ≤ I159 0 69 ∧ I159 0 69 ≤ 1000 from (hI159 0 69).1)
          have f172 := (show 0 ≤ I159 0 64 ∧ I159 0 64 ≤ 2000 from (hI159 0 64).1)
          have f173 := (show 0 ≤ I159 0 99 ∧ I159 0 99 ≤ 1000 from (hI159 0 99).1)
          have f174 := (show 0 ≤ I159 0 122 ∧ I159 0 122 ≤ 47 from (hI159 0 122).1)
          have KTM_I159 := gr_TM_fr KTM_I144 (fun k => p160 52 k (fun q => absurd q.1 (by decide))) (fun k => p160 53 k (fun q => absurd q.1 (by decide))) (fun k => p160 54 k (fun q => absurd q.1 (by decide))) (p160 0 64 (by decide))
          refine gv_run 2 true hD (pc' := 83) (lv' := [(2, .inl (I129 0 64)), (1, .inl z110), (0, .inr (.inr (some 0)))]) (st' := [.inl 1, .inr (.inr (some 0))]) (h' := gr_h I159 J130) (C := ((True ∧ True) ∧ True)) rfl ⟨⟨trivial, trivial⟩, trivial⟩ ?_
          obtain ⟨r175, h175, E175, P175⟩ := r_term (ws0 := ws0) (tb := tb) hws htb ext 42 I159 J130 hI159 1 ⟨by omega, by omega⟩ (by omega) (by omega) (by omega) (by omega) (by omega) (by omega) (by omega) KTM_I159 (by omega)
          obtain ⟨I176, J177, rfl, hI176, g175, k175, KTM_I176, ⟨z175, rfl, q175⟩⟩ := P175
          have FI176 := gr_frt FI159 g175 rfl rfl
          have FJ177 := gr_fjt FJ130 k175 rfl rfl
          have t178 := g175 0 69 rfl
          have t179 := g175 0 99 rfl
          have f180 := (show 0 ≤ I176 0 71 ∧ I176 0 71 ≤ 5 from (hI176 0 71).1)
          have f181 := (show 0 ≤ I176 0 72 ∧ I176 0 72 ≤ 1000 from (hI176 0 72).1)
          have f182 := (show 0 ≤ I176 0 73 ∧ I176 0 73 ≤ 1001 from (hI176 0 73).1)
          have f183 := (show 0 ≤ I176 0 69 ∧ I176 0 69 ≤ 1000 from (hI176 0 69).1)
          have f184 := (show 0 ≤ I176 0 64 ∧ I176 0 64 ≤ 2000 from (hI176 0 64).1)
          have f185 := (show 0 ≤ I176 0 99 ∧ I176 0 99 ≤ 1000 from (hI176 0 99).1)
          have f186 := (show 0 ≤ I176 0 122 ∧ I176 0 122 ≤ 47 from (hI176 0 122).1)
          refine gv_callV hD rfl (As := [.inl 1]) (st := []) rfl (by decide) rfl rfl (gr_lV hws rfl) (Nat.le_of_ble_eq_true rfl) (gz_Ev_mono (d := 98) (by decide) E175) ?_
          show gv_X _ _ (86, [(2, .inl (I129 0 64)), (1, .inl z110), (0, .inr (.inr (some 0)))], [.inl z175], gr_sh ++ ext, gr_h I176 J177)
          refine gv_run 2 true hD (pc' := 88) (lv' := [(3, .inl z175), (2, .inl (I129 0 64)), (1, .inl z110), (0, .inr (.inr (some 0)))]) (st' := [.inl z175]) (h' := gr_h I176 J177) (C := ((True ∧ True) ∧ True)) rfl ⟨⟨trivial, trivial⟩, trivial⟩ ?_
          refine gv_if_lt (t := 114) hD rfl rfl ⟨by omega, by omega⟩ (fun c187 => ?_) (fun c187 => ?_)
          · refine gv_pick [] rfl ?_
            exact L114 I176 J177 hI176 FI176 FJ177 KTM_I176 (by omega)
          · have f188 := (show 0 ≤ I176 0 64 ∧ I176 0 64 ≤ 2000 from (hI176 0 64).1)
            refine gv_run 6 true hD (pc' := 100) (lv' := [(3, .inl z175), (2, .inl (I129 0 64)), (1, .inl z110), (0, .inr (.inr (some 0)))]) (st' := [.inl 40, .inl ((I176 0 64) - (I129 0 64)), .inr (.inr (some 0))]) (h' := gr_h I176 J177) (C := ((((((True ∧ True) ∧ True) ∧ True) ∧ True) ∧ True) ∧ True)) rfl ⟨⟨⟨⟨⟨⟨trivial, trivial⟩, trivial⟩, trivial⟩, trivial⟩, trivial⟩, trivial⟩ ?_
            refine gv_icmp_gt (t := 107) hD rfl rfl ⟨⟨by omega, by omega⟩, ⟨by omega, by omega⟩⟩ (fun c189 => ?_) (fun c189 => ?_)
            · refine gv_run 1 true hD (pc' := 108) (lv' := [(3, .inl z175), (2, .inl (I129 0 64)), (1, .inl z110), (0, .inr (.inr (some 0)))]) (st' := [.inl 0, .inr (.inr (some 0))]) (h' := gr_h I176 J177) (C := (True ∧ True)) rfl ⟨trivial, trivial⟩ ?_
              refine gv_pick [3, 2, 0] rfl ?_
              exact L108 I176 J177 z110 z175 0 hI176 FI176 FJ177 KTM_I176 (by omega)
            · refine gv_run 2 true hD (pc' := 108) (lv' := [(3, .inl z175), (2, .inl (I129 0 64)), (1, .inl z110), (0, .inr (.inr (some 0)))]) (st' := [.inl 1, .inr (.inr (some 0))]) (h' := gr_h I176 J177) (C := ((True ∧ True) ∧ True)) rfl ⟨⟨trivial, trivial⟩, trivial⟩ ?_
              refine gv_pick [3, 2, 0] rfl ?_
              exact L108 I176 J177 z110 z175 1 hI176 FI176 FJ177 KTM_I176 (by omega)
        · refine gv_run 1 true hD (pc' := 65) (lv' := [(1, .inl z110), (0, .inr (.inr (some 0)))]) (st' := [.inl 0]) (h' := gr_h I129 J130) (C := (True ∧ True)) rfl ⟨trivial, trivial⟩ ?_
          exact gv_zret hD rfl (by omega) ⟨I129, J130, rfl, hI129, FI129, FJ130, KTM_I129, ⟨_, rfl, by omega⟩⟩
      · refine gv_run 2 true hD (pc' := 47) (lv' := [(1, .inl z110), (0, .inr (.inr (some 0)))]) (st' := [.inl 4, .inr (.inr (some 0))]) (h' := gr_h I92 J93) (C := ((True ∧ True) ∧ True)) rfl ⟨⟨trivial, trivial⟩, trivial⟩ ?_
        obtain ⟨r190, h190, E190, P190⟩ := r_no_ (ws0 := ws0) (tb := tb) hws htb ext I92 J93 hI92 4 ⟨by omega, by omega⟩ 
        obtain ⟨I191, J192, rfl, hI191, g190, k190, ⟨z190, rfl, q190⟩⟩ := P190
        have FI191 := gr_frt FI92 g190 rfl rfl
        have FJ192 := gr_fjt FJ93 k190 rfl rfl
        have t193 := g190 0 71 rfl
        have t194 := g190 0 72 rfl
        have t195 := g190 0 73 rfl
        have t196 := g190 0 69 rfl
        have t197 := g190 0 64 rfl
        have t198 := g190 0 99 rfl
        have t199 := g190 0 122 rfl
        have f200 := (show 0 ≤ I191 0 71 ∧ I191 0 71 ≤ 5 from (hI191 0 71).1)
        have f201 := (show 0 ≤ I191 0 72 ∧ I191 0 72 ≤ 1000 from (hI191 0 72).1)
        have f202 := (show 0 ≤ I191 0 73 ∧ I191 0 73 ≤ 1001 from (hI191 0 73).1)
        have f203 := (show 0 ≤ I191 0 69 ∧ I191 0 69 ≤ 1000 from (hI191 0 69).1)
        have f204 := (show 0 ≤ I191 0 64 ∧ I191 0 64 ≤ 2000 from (hI191 0 64).1)
        have f205 := (show 0 ≤ I191 0 99 ∧ I191 0 99 ≤ 1000 from (hI191 0 99).1)
        have f206 := (show 0 ≤ I191 0 122 ∧ I191 0 122 ≤ 47 from (hI191 0 122).1)
        have KTM_I191 := gr_TM_fr KTM_I92 (fun k => g190 52 k rfl) (fun k => g190 53 k rfl) (fun k => g190 54 k rfl) (g190 0 64 rfl)
        refine gv_callV hD rfl (As := [.inl 4]) (st := []) rfl (by decide) rfl rfl (gr_lV hws rfl) (Nat.le_of_ble_eq_true rfl) (gz_Ev_mono (d := 2) (by decide) E190) ?_
        show gv_X _ _ (50, [(1, .inl z110), (0, .inr (.inr (some 0)))], [.inl z190], gr_sh ++ ext, gr_h I191 J192)
        exact gv_zret hD rfl (by omega) ⟨I191, J192, rfl, hI191, FI191, FJ192, KTM_I191, ⟨_, rfl, by omega⟩⟩
    · refine gv_run 2 true hD (pc' := 32) (lv' := [(1, .inl z110), (0, .inr (.inr (some 0)))]) (st' := [.inl 5, .inr (.inr (some 0))]) (h' := gr_h I92 J93) (C := ((True ∧ True) ∧ True)) rfl ⟨⟨trivial, trivial⟩, trivial⟩ ?_
      obtain ⟨r207, h207, E207, P207⟩ := r_no_ (ws0 := ws0) (tb := tb) hws htb ext I92 J93 hI92 5 ⟨by omega, by omega⟩ 
      obtain ⟨I208, J209, rfl, hI208, g207, k207, ⟨z207, rfl, q207⟩⟩ := P207
      have FI208 := gr_frt FI92 g207 rfl rfl
      have FJ209 := gr_fjt FJ93 k207 rfl rfl
      have t210 := g207 0 71 rfl
      have t211 := g207 0 72 rfl
      have t212 := g207 0 73 rfl
      have t213 := g207 0 69 rfl
      have t214 := g207 0 64 rfl
      have t215 := g207 0 99 rfl
      have t216 := g207 0 122 rfl
      have f217 := (show 0 ≤ I208 0 71 ∧ I208 0 71 ≤ 5 from (hI208 0 71).1)
      have f218 := (show 0 ≤ I208 0 72 ∧ I208 0 72 ≤ 1000 from (hI208 0 72).1)
      have f219 := (show 0 ≤ I208 0 73 ∧ I208 0 73 ≤ 1001 from (hI208 0 73).1)
      have f220 := (show 0 ≤ I208 0 69 ∧ I208 0 69 ≤ 1000 from (hI208 0 69).1)
      have f221 := (show 0 ≤ I208 0 64 ∧ I208 0 64 ≤ 2000 from (hI208 0 64).1)
      have f222 := (show 0 ≤ I208 0 99 ∧ I208 0 99 ≤ 1000 from (hI208 0 99).1)
      have f223 := (show 0 ≤ I208 0 122 ∧ I208 0 122 ≤ 47 from (hI208 0 122).1)
      have KTM_I208 := gr_TM_fr KTM_I92 (fun k => g207 52 k rfl) (fun k => g207 53 k rfl) (fun k => g207 54 k rfl) (g207 0 64 rfl)
      refine gv_callV hD rfl (As := [.inl 5]) (st := []) rfl (by decide) rfl rfl (gr_lV hws rfl) (Nat.le_of_ble_eq_true rfl) (gz_Ev_mono (d := 2) (by decide) E207) ?_
      show gv_X _ _ (35, [(1, .inl z110), (0, .inr (.inr (some 0)))], [.inl z207], gr_sh ++ ext, gr_h I208 J209)
      exact gv_zret hD rfl (by omega) ⟨I208, J209, rfl, hI208, FI208, FJ209, KTM_I208, ⟨_, rfl, by omega⟩⟩
  · refine gv_run 1 true hD (pc' := 8) (lv' := [(0, .inr (.inr (some 0)))]) (st' := [.inl 0]) (h' := gr_h I92 J93) (C := (True ∧ True)) rfl ⟨trivial, trivial⟩ ?_
    exact gv_zret hD rfl (by omega) ⟨I92, J93, rfl, hI92, FI92, FJ93, KTM_I92, ⟨_, rfl, by omega⟩⟩
