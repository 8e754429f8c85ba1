set_option maxHeartbeats 4000000 in
set_option maxRecDepth 100000 in
theorem r_mean {ws0 : List Cond} {tb : String → gz_T} (hws : ∀ w ∈ gr_ws, w ∈ ws0) (htb : tb RX13 = gr_T) (ext : gz_Sh) (I : gr_I) (J : gr_J) (hI : gr_Inv I)   (x0 : I 0 71 = 5 ∨ I 0 73 ≤ I 0 69) (x1 : I 0 72 ≤ I 0 69) (x2 : I 0 71 = 0 ∨ (I 0 72 < I 0 73 ∧ I 0 72 < I 0 69)) (x3 : I 0 71 = 3 → 2 ≤ I 0 73 - I 0 72 ∧ I 0 73 - I 0 72 ≤ 14) (x4 : I 0 72 ≤ I 0 73) (x5 : I 0 64 + I 0 69 - I 0 72 ≤ 1900) (x6 : I 0 99 ≤ I 0 72) (KTM_I : gr_TM I) : ∃ r h', gz_Ev ws0 tb 99 (yX13_mean, cX13_mean, 4, (some .boolean)) [.inr (.inr (some 0))] (gr_sh ++ ext) (gr_h I J) r (gr_sh ++ ext) h' 0 0 ∧ (∃ (I' : gr_I) (J' : gr_J), h' = gr_h I' J' ∧ gr_Inv I' ∧ gr_fr [64, 71, 72, 73, 74, 75, 76, 77, 99, 122, 123] [10, 52, 53, 54, 55, 60, 75] I I' ∧ gr_fj [64, 71, 72, 73, 74, 75, 76, 77, 99, 122, 123] [10, 52, 53, 54, 55, 60, 75] J J' ∧ gr_TM I' ∧ (∃ z : Int, r = some (.inl z) ∧ 0 ≤ z ∧ z ≤ 1 ∧ (I' 0 71 = 5 ∨ I' 0 73 ≤ I' 0 69) ∧ (I' 0 72 ≤ I' 0 69) ∧ (I' 0 71 = 0 ∨ (I' 0 72 < I' 0 73 ∧ I' 0 72 < I' 0 69)) ∧ (I' 0 71 = 3 → 2 ≤ I' 0 73 - I' 0 72 ∧ I' 0 73 - I' 0 72 ≤ 14) ∧ (I' 0 72 ≤ I' 0 73) ∧ (I' 0 69 = I 0 69) ∧ (I 0 73 ≤ I' 0 73) ∧ (I 0 72 ≤ I' 0 72) ∧ (I 0 64 ≤ I' 0 64) ∧ (I' 0 64 - I' 0 72 ≤ I 0 64 - I 0 72) ∧ (I' 0 99 ≤ I' 0 72))) := by
  have FI : gr_fr [64, 71, 72, 73, 74, 75, 76, 77, 99, 122, 123] [10, 52, 53, 54, 55, 60, 75] I I := fun _ _ _ => rfl
  have FJ : gr_fj [64, 71, 72, 73, 74, 75, 76, 77, 99, 122, 123] [10, 52, 53, 54, 55, 60, 75] J J := fun _ _ _ => rfl
  have hD : gv_D (gr_E ws0 tb 98 (yX13_mean, cX13_mean, 4, (some .boolean)) kX13_mean) := gq_ok oX13_mean
  refine gr_ev (d := 98) (l := kX13_mean) (Po := fun r h' => (∃ (I' : gr_I) (J' : gr_J), h' = gr_h I' J' ∧ gr_Inv I' ∧ gr_fr [64, 71, 72, 73, 74, 75, 76, 77, 99, 122, 123] [10, 52, 53, 54, 55, 60, 75] I I' ∧ gr_fj [64, 71, 72, 73, 74, 75, 76, 77, 99, 122, 123] [10, 52, 53, 54, 55, 60, 75] J J' ∧ gr_TM I' ∧ (∃ z : Int, r = some (.inl z) ∧ 0 ≤ z ∧ z ≤ 1 ∧ (I' 0 71 = 5 ∨ I' 0 73 ≤ I' 0 69) ∧ (I' 0 72 ≤ I' 0 69) ∧ (I' 0 71 = 0 ∨ (I' 0 72 < I' 0 73 ∧ I' 0 72 < I' 0 69)) ∧ (I' 0 71 = 3 → 2 ≤ I' 0 73 - I' 0 72 ∧ I' 0 73 - I' 0 72 ≤ 14) ∧ (I' 0 72 ≤ I' 0 73) ∧ (I' 0 69 = I 0 69) ∧ (I 0 73 ≤ I' 0 73) ∧ (I 0 72 ≤ I' 0 72) ∧ (I 0 64 ≤ I' 0 64) ∧ (I' 0 64 - I' 0 72 ≤ I 0 64 - I 0 72) ∧ (I' 0 99 ≤ I' 0 72)))) htb rfl (Nat.le_of_ble_eq_true rfl) ?_
  have f1 := (show 0 ≤ I 0 71 ∧ I 0 71 ≤ 5 from (hI 0 71).1)
  have f2 := (show 0 ≤ I 0 72 ∧ I 0 72 ≤ 1000 from (hI 0 72).1)
  have f3 := (show 0 ≤ I 0 73 ∧ I 0 73 ≤ 1001 from (hI 0 73).1)
  have f4 := (show 0 ≤ I 0 69 ∧ I 0 69 ≤ 1000 from (hI 0 69).1)
  have f5 := (show 0 ≤ I 0 64 ∧ I 0 64 ≤ 2000 from (hI 0 64).1)
  have f6 := (show 0 ≤ I 0 99 ∧ I 0 99 ≤ 1000 from (hI 0 99).1)
  have L114 : ∀ (I7 : gr_I) (J8 : gr_J) , gr_Inv I7 → gr_fr [64, 71, 72, 73, 74, 75, 76, 77, 99, 122, 123] [10, 52, 53, 54, 55, 60, 75] I I7 → gr_fj [64, 71, 72, 73, 74, 75, 76, 77, 99, 122, 123] [10, 52, 53, 54, 55, 60, 75] J J8 → gr_TM I7 → ((I 0 64 ≤ I7 0 64) ∧ (I7 0 64 - I7 0 72 ≤ I 0 64 - I 0 72) ∧ (I 0 72 + 1 ≤ I7 0 72) ∧ (I7 0 99 = I 0 99) ∧ (I7 0 71 = 5 ∨ I7 0 73 ≤ I7 0 69) ∧ (I7 0 72 ≤ I7 0 69) ∧ (I7 0 71 = 0 ∨ (I7 0 72 < I7 0 73 ∧ I7 0 72 < I7 0 69)) ∧ (I7 0 71 = 3 → 2 ≤ I7 0 73 - I7 0 72 ∧ I7 0 73 - I7 0 72 ≤ 14) ∧ (I7 0 72 ≤ I7 0 73) ∧ (I7 0 69 = I 0 69) ∧ (I 0 73 ≤ I7 0 73) ∧ (I 0 72 ≤ I7 0 72)) → gv_X (gr_E ws0 tb 98 (yX13_mean, cX13_mean, 4, (some .boolean)) kX13_mean) (gv_Q cX13_mean (some .boolean) (gr_sh ++ ext) (fun r h' => (∃ (I' : gr_I) (J' : gr_J), h' = gr_h I' J' ∧ gr_Inv I' ∧ gr_fr [64, 71, 72, 73, 74, 75, 76, 77, 99, 122, 123] [10, 52, 53, 54, 55, 60, 75] I I' ∧ gr_fj [64, 71, 72, 73, 74, 75, 76, 77, 99, 122, 123] [10, 52, 53, 54, 55, 60, 75] J J' ∧ gr_TM I' ∧ (∃ z : Int, r = some (.inl z) ∧ 0 ≤ z ∧ z ≤ 1 ∧ (I' 0 71 = 5 ∨ I' 0 73 ≤ I' 0 69) ∧ (I' 0 72 ≤ I' 0 69) ∧ (I' 0 71 = 0 ∨ (I' 0 72 < I' 0 73 ∧ I' 0 72 < I' 0 69)) ∧ (I' 0 71 = 3 → 2 ≤ I' 0 73 - I' 0 72 ∧ I' 0 73 - I' 0 72 ≤ 14) ∧ (I' 0 72 ≤ I' 0 73) ∧ (I' 0 69 = I 0 69) ∧ (I 0 73 ≤ I' 0 73) ∧ (I 0 72 ≤ I' 0 72) ∧ (I 0 64 ≤ I' 0 64) ∧ (I' 0 64 - I' 0 72 ≤ I 0 64 - I 0 72) ∧ (I' 0 99 ≤ I' 0 72))))) (114, [], [], gr_sh ++ ext, gr_h I7 J8) := by
    intro I7 J8 hI7 FI7 FJ8 KTM_I7 m_9
    obtain ⟨e0_9, e1_9, e2_9, e3_9, e4_9, e5_9, e6_9, e7_9, e8_9, e9_9, e10_9, e11_9⟩ := m_9
    have f10 := (show 0 ≤ I7 0 71 ∧ I7 0 71 ≤ 5 from (hI7 0 71).1)
    have f11 := (show 0 ≤ I7 0 72 ∧ I7 0 72 ≤ 1000 from (hI7 0 72).1)
    have f12 := (show 0 ≤ I7 0 73 ∧ I7 0 73 ≤ 1001 from (hI7 0 73).1)
    have f13 := (show 0 ≤ I7 0 69 ∧ I7 0 69 ≤ 1000 from (hI7 0 69).1)
    have f14 := (show 0 ≤ I7 0 64 ∧ I7 0 64 ≤ 2000 from (hI7 0 64).1)
    have f15 := (show 0 ≤ I7 0 99 ∧ I7 0 99 ≤ 1000 from (hI7 0 99).1)
    refine gv_run 1 true hD (pc' := 115) (lv' := []) (st' := [.inl 0]) (h' := gr_h I7 J8) (C := (True ∧ True)) rfl ⟨trivial, trivial⟩ ?_
    exact gv_zret hD rfl (by omega) ⟨I7, J8, rfl, hI7, FI7, FJ8, KTM_I7, ⟨_, rfl, by omega⟩⟩
  have L108 : ∀ (I16 : gr_I) (J17 : gr_J) (v1_18 : Int) (v3_18 : Int) (s1_18 : Int), gr_Inv I16 → gr_fr [64, 71, 72, 73, 74, 75, 76, 77, 99, 122, 123] [10, 52, 53, 54, 55, 60, 75] I I16 → gr_fj [64, 71, 72, 73, 74, 75, 76, 77, 99, 122, 123] [10, 52, 53, 54, 55, 60, 75] J J17 → gr_TM I16 → ((0 ≤ v1_18 ∧ v1_18 ≤ 95) ∧ (0 ≤ v3_18 ∧ v3_18 ≤ 1999) ∧ (0 ≤ s1_18 ∧ s1_18 ≤ 1) ∧ (I 0 64 ≤ I16 0 64) ∧ (I16 0 64 - I16 0 72 ≤ I 0 64 - I 0 72) ∧ (I 0 72 + 1 ≤ I16 0 72) ∧ (I16 0 99 = I 0 99) ∧ (I 0 72 ≤ 999) ∧ (I16 0 71 = 5 ∨ I16 0 73 ≤ I16 0 69) ∧ (I16 0 72 ≤ I16 0 69) ∧ (I16 0 71 = 0 ∨ (I16 0 72 < I16 0 73 ∧ I16 0 72 < I16 0 69)) ∧ (I16 0 71 = 3 → 2 ≤ I16 0 73 - I16 0 72 ∧ I16 0 73 - I16 0 72 ≤ 14) ∧ (I16 0 72 ≤ I16 0 73) ∧ (I16 0 69 = I 0 69) ∧ (I 0 73 ≤ I16 0 73) ∧ (I 0 72 ≤ I16 0 72)) → gv_X (gr_E ws0 tb 98 (yX13_mean, cX13_mean, 4, (some .boolean)) kX13_mean) (gv_Q cX13_mean (some .boolean) (gr_sh ++ ext) (fun r h' => (∃ (I' : gr_I) (J' : gr_J), h' = gr_h I' J' ∧ gr_Inv I' ∧ gr_fr [64, 71, 72, 73, 74, 75, 76, 77, 99, 122, 123] [10, 52, 53, 54, 55, 60, 75] I I' ∧ gr_fj [64, 71, 72, 73, 74, 75, 76, 77, 99, 122, 123] [10, 52, 53, 54, 55, 60, 75] J J' ∧ gr_TM I' ∧ (∃ z : Int, r = some (.inl z) ∧ 0 ≤ z ∧ z ≤ 1 ∧ (I' 0 71 = 5 ∨ I' 0 73 ≤ I' 0 69) ∧ (I' 0 72 ≤ I' 0 69) ∧ (I' 0 71 = 0 ∨ (I' 0 72 < I' 0 73 ∧ I' 0 72 < I' 0 69)) ∧ (I' 0 71 = 3 → 2 ≤ I' 0 73 - I' 0 72 ∧ I' 0 73 - I' 0 72 ≤ 14) ∧ (I' 0 72 ≤ I' 0 73) ∧ (I' 0 69 = I 0 69) ∧ (I 0 73 ≤ I' 0 73) ∧ (I 0 72 ≤ I' 0 72) ∧ (I 0 64 ≤ I' 0 64) ∧ (I' 0 64 - I' 0 72 ≤ I 0 64 - I 0 72) ∧ (I' 0 99 ≤ I' 0 72))))) (108, [(0, .inr (.inr (some 0))), (1, .inl v1_18), (3, .inl v3_18)], [.inl s1_18, .inr (.inr (some 0))], gr_sh ++ ext, gr_h I16 J17) := by
    intro I16 J17 v1_18 v3_18 s1_18 hI16 FI16 FJ17 KTM_I16 m_18
    obtain ⟨hv1_18, hv3_18, hs1_18, e0_18, e1_18, e2_18, e3_18, e4_18, e5_18, e6_18, e7_18, e8_18, e9_18, e10_18, e11_18, e12_18⟩ := m_18
    have f19 := (show 0 ≤ I16 0 71 ∧ I16 0 71 ≤ 5 from (hI16 0 71).1)
    have f20 := (show 0 ≤ I16 0 72 ∧ I16 0 72 ≤ 1000 from (hI16 0 72).1)
    have f21 := (show 0 ≤ I16 0 73 ∧ I16 0 73 ≤ 1001 from (hI16 0 73).1)
    have f22 := (show 0 ≤ I16 0 69 ∧ I16 0 69 ≤ 1000 from (hI16 0 69).1)
    have f23 := (show 0 ≤ I16 0 64 ∧ I16 0 64 ≤ 2000 from (hI16 0 64).1)
    have f24 := (show 0 ≤ I16 0 99 ∧ I16 0 99 ≤ 1000 from (hI16 0 99).1)
    obtain ⟨r25, h25, E25, P25⟩ := r_done (ws0 := ws0) (tb := tb) hws htb ext I16 J17 hI16 s1_18 ⟨by omega, by omega⟩ (by omega) (by omega) (by omega) (by omega) (by omega)
    obtain ⟨I26, J27, rfl, hI26, g25, k25, ⟨z25, rfl, q25⟩⟩ := P25
    have FI26 := gr_frt FI16 g25 rfl rfl
    have FJ27 := gr_fjt FJ17 k25 rfl rfl
    have t28 := g25 0 69 rfl
    have t29 := g25 0 64 rfl
    have t30 := g25 0 99 rfl
    have f31 := (show 0 ≤ I26 0 71 ∧ I26 0 71 ≤ 5 from (hI26 0 71).1)
    have f32 := (show 0 ≤ I26 0 72 ∧ I26 0 72 ≤ 1000 from (hI26 0 72).1)
    have f33 := (show 0 ≤ I26 0 73 ∧ I26 0 73 ≤ 1001 from (hI26 0 73).1)
    have f34 := (show 0 ≤ I26 0 69 ∧ I26 0 69 ≤ 1000 from (hI26 0 69).1)
    have f35 := (show 0 ≤ I26 0 64 ∧ I26 0 64 ≤ 2000 from (hI26 0 64).1)
    have f36 := (show 0 ≤ I26 0 99 ∧ I26 0 99 ≤ 1000 from (hI26 0 99).1)
    have KTM_I26 := gr_TM_fr KTM_I16 (fun k => g25 52 k rfl) (fun k => g25 53 k rfl) (fun k => g25 54 k rfl) (g25 0 64 rfl)
    refine gv_callV hD rfl (As := [.inl s1_18]) (st := []) rfl (by decide) rfl rfl (gr_lV hws rfl) (Nat.le_of_ble_eq_true rfl) (gz_Ev_mono (d := 11) (by decide) E25) ?_
    show gv_X _ _ (111, [(0, .inr (.inr (some 0))), (1, .inl v1_18), (3, .inl v3_18)], [.inl z25], gr_sh ++ ext, gr_h I26 J27)
    refine gv_if_ne (t := 116) hD rfl rfl ⟨by omega, by omega⟩ (fun c37 => ?_) (fun c37 => ?_)
    · refine gv_run 4 true hD (pc' := 122) (lv' := [(0, .inr (.inr (some 0))), (1, .inl v1_18), (3, .inl v3_18)]) (st' := [.inl v3_18, .inl v1_18, .inr (.inr (some 10))]) (h' := gr_h I26 J27) (C := ((((True ∧ True) ∧ True) ∧ True) ∧ True)) rfl ⟨⟨⟨⟨trivial, trivial⟩, trivial⟩, trivial⟩, trivial⟩ ?_
      refine gv_run 1 true hD (pc' := 123) (lv' := [(0, .inr (.inr (some 0))), (1, .inl v1_18), (3, .inl v3_18)]) (st' := []) (h' := gz_up (gr_h I26 J27) 10 (Int.toNat v1_18) (.inl v3_18)) (C := (True ∧ (0 ≤ v1_18 ∧ v1_18 < ((96 : Nat) : Int)))) rfl ⟨trivial, ⟨by omega, by omega⟩⟩ ?_
      refine gr_st hI26 FI26 rfl rfl ⟨⟨by show (-1) ≤ _; omega, by show _ ≤ 1999; omega⟩, trivial⟩ (fun I38 hI38 FI38 q39 p39 => ?_)
      have t40 := p39 0 71 (fun q => absurd q.1 (by decide))
      have t41 := p39 0 72 (fun q => absurd q.1 (by decide))
      have t42 := p39 0 73 (fun q => absurd q.1 (by decide))
      have t43 := p39 0 69 (fun q => absurd q.1 (by decide))
      have t44 := p39 0 64 (fun q => absurd q.1 (by decide))
      have t45 := p39 0 99 (fun q => absurd q.1 (by decide))
      have f46 := (show 0 ≤ I38 0 71 ∧ I38 0 71 ≤ 5 from (hI38 0 71).1)
      have f47 := (show 0 ≤ I38 0 72 ∧ I38 0 72 ≤ 1000 from (hI38 0 72).1)
      have f48 := (show 0 ≤ I38 0 73 ∧ I38 0 73 ≤ 1001 from (hI38 0 73).1)
      have f49 := (show 0 ≤ I38 0 69 ∧ I38 0 69 ≤ 1000 from (hI38 0 69).1)
      have f50 := (show 0 ≤ I38 0 64 ∧ I38 0 64 ≤ 2000 from (hI38 0 64).1)
      have f51 := (show 0 ≤ I38 0 99 ∧ I38 0 99 ≤ 1000 from (hI38 0 99).1)
      have KTM_I38 := gr_TM_fr KTM_I26 (fun k => p39 52 k (fun q => absurd q.1 (by decide))) (fun k => p39 53 k (fun q => absurd q.1 (by decide))) (fun k => p39 54 k (fun q => absurd q.1 (by decide))) (p39 0 64 (fun q => absurd q.1 (by decide)))
      have f52 := (show 0 ≤ I38 0 99 ∧ I38 0 99 ≤ 1000 from (hI38 0 99).1)
      refine gv_run 7 true hD (pc' := 134) (lv' := [(0, .inr (.inr (some 0))), (1, .inl v1_18), (3, .inl v3_18)]) (st' := [.inl 1, .inl (I38 0 99), .inr (.inr (some 0)), .inl (I38 0 99), .inr (.inr (some 60))]) (h' := gr_h I38 J27) (C := (((((((True ∧ True) ∧ True) ∧ True) ∧ True) ∧ True) ∧ True) ∧ True)) rfl ⟨⟨⟨⟨⟨⟨⟨trivial, trivial⟩, trivial⟩, trivial⟩, trivial⟩, trivial⟩, trivial⟩, trivial⟩ ?_
      refine gv_run 2 true hD (pc' := 138) (lv' := [(0, .inr (.inr (some 0))), (1, .inl v1_18), (3, .inl v3_18)]) (st' := [.inl (I38 0 99), .inr (.inr (some 60))]) (h' := gz_up (gr_h I38 J27) 0 99 (.inl (((I38 0 99) + 1)))) (C := ((True ∧ True) ∧ True)) rfl ⟨⟨trivial, trivial⟩, trivial⟩ ?_
      refine gr_st hI38 FI38 rfl rfl ⟨⟨by show 0 ≤ _; omega, by show _ ≤ 1000; omega⟩, trivial⟩ (fun I53 hI53 FI53 q54 p54 => ?_)
      have t55 := p54 0 71 (by decide)
      have t56 := p54 0 72 (by decide)
      have t57 := p54 0 73 (by decide)
      have t58 := p54 0 69 (by decide)
      have t59 := p54 0 64 (by decide)
      have f60 := (show 0 ≤ I53 0 71 ∧ I53 0 71 ≤ 5 from (hI53 0 71).1)
      have f61 := (show 0 ≤ I53 0 72 ∧ I53 0 72 ≤ 1000 from (hI53 0 72).1)
      have f62 := (show 0 ≤ I53 0 73 ∧ I53 0 73 ≤ 1001 from (hI53 0 73).1)
      have f63 := (show 0 ≤ I53 0 69 ∧ I53 0 69 ≤ 1000 from (hI53 0 69).1)
      have f64 := (show 0 ≤ I53 0 64 ∧ I53 0 64 ≤ 2000 from (hI53 0 64).1)
      have f65 := (show 0 ≤ I53 0 99 ∧ I53 0 99 ≤ 1000 from (hI53 0 99).1)
      have KTM_I53 := gr_TM_fr KTM_I38 (fun k => p54 52 k (fun q => absurd q.1 (by decide))) (fun k => p54 53 k (fun q => absurd q.1 (by decide))) (fun k => p54 54 k (fun q => absurd q.1 (by decide))) (p54 0 64 (by decide))
      refine gv_run 2 true hD (pc' := 140) (lv' := [(0, .inr (.inr (some 0))), (1, .inl v1_18), (3, .inl v3_18)]) (st' := []) (h' := gz_up (gr_h I53 J27) 60 (Int.toNat ((I38 0 99))) (.inl v1_18)) (C := ((True ∧ True) ∧ (0 ≤ (I38 0 99) ∧ (I38 0 99) < ((1000 : Nat) : Int)))) rfl ⟨⟨trivial, trivial⟩, ⟨by omega, by omega⟩⟩ ?_
      refine gr_st hI53 FI53 rfl rfl ⟨⟨by show 0 ≤ _; omega, by show _ ≤ 95; omega⟩, trivial⟩ (fun I66 hI66 FI66 q67 p67 => ?_)
      have t68 := p67 0 71 (fun q => absurd q.1 (by decide))
      have t69 := p67 0 72 (fun q => absurd q.1 (by decide))
      have t70 := p67 0 73 (fun q => absurd q.1 (by decide))
      have t71 := p67 0 69 (fun q => absurd q.1 (by decide))
      have t72 := p67 0 64 (fun q => absurd q.1 (by decide))
      have t73 := p67 0 99 (fun q => absurd q.1 (by decide))
      have f74 := (show 0 ≤ I66 0 71 ∧ I66 0 71 ≤ 5 from (hI66 0 71).1)
      have f75 := (show 0 ≤ I66 0 72 ∧ I66 0 72 ≤ 1000 from (hI66 0 72).1)
      have f76 := (show 0 ≤ I66 0 73 ∧ I66 0 73 ≤ 1001 from (hI66 0 73).1)
      have f77 := (show 0 ≤ I66 0 69 ∧ I66 0 69 ≤ 1000 from (hI66 0 69).1)
      have f78 := (show 0 ≤ I66 0 64 ∧ I66 0 64 ≤ 2000 from (hI66 0 64).1)
      have f79 := (show 0 ≤ I66 0 99 ∧ I66 0 99 ≤ 1000 from (hI66 0 99).1)
      have KTM_I66 := gr_TM_fr KTM_I53 (fun k => p67 52 k (fun q => absurd q.1 (by decide))) (fun k => p67 53 k (fun q => absurd q.1 (by decide))) (fun k => p67 54 k (fun q => absurd q.1 (by decide))) (p67 0 64 (fun q => absurd q.1 (by decide)))
      refine gv_run 1 true hD (pc' := 141) (lv' := [(0, .inr (.inr (some 0))), (1, .inl v1_18), (3, .inl v3_18)]) (st' := [.inl 1]) (h' := gr_h I66 J27) (C := (True ∧ True)) rfl ⟨trivial, trivial⟩ ?_
      exact gv_zret hD rfl (by omega) ⟨I66, J27, rfl, hI66, FI66, FJ27, KTM_I66, ⟨_, rfl, by omega⟩⟩
    · refine gv_pick [] rfl ?_
      exact L114 I26 J27 hI26 FI26 FJ27 KTM_I26 (by omega)
  refine gv_run 1 true hD (pc' := 1) (lv' := [(0, .inr (.inr (some 0)))]) (st' := [.inr (.inr (some 0))]) (h' := gr_h I J) (C := (True ∧ True)) rfl ⟨trivial, trivial⟩ ?_
  obtain ⟨r80, h80, E80, P80⟩ := r_name (ws0 := ws0) (tb := tb) hws htb ext I J hI   
  obtain ⟨I81, J82, rfl, hI81, g80, k80, ⟨z80, rfl, q80⟩⟩ := P80
  have FI81 := gr_frt FI g80 rfl rfl
  have FJ82 := gr_fjt FJ k80 rfl rfl
  have t83 := g80 0 71 rfl
  have t84 := g80 0 72 rfl
  have t85 := g80 0 73 rfl
  have t86 := g80 0 69 rfl
  have t87 := g80 0 64 rfl
  have t88 := g80 0 99 rfl
  have f89 := (show 0 ≤ I81 0 71 ∧ I81 0 71 ≤ 5 from (hI81 0 71).1)
  have f90 := (show 0 ≤ I81 0 72 ∧ I81 0 72 ≤ 1000 from (hI81 0 72).1)
  have f91 := (show 0 ≤ I81 0 73 ∧ I81 0 73 ≤ 1001 from (hI81 0 73).1)
  have f92 := (show 0 ≤ I81 0 69 ∧ I81 0 69 ≤ 1000 from (hI81 0 69).1)
  have f93 := (show 0 ≤ I81 0 64 ∧ I81 0 64 ≤ 2000 from (hI81 0 64).1)
  have f94 := (show 0 ≤ I81 0 99 ∧ I81 0 99 ≤ 1000 from (hI81 0 99).1)
  have KTM_I81 := gr_TM_fr KTM_I (fun k => g80 52 k rfl) (fun k => g80 53 k rfl) (fun k => g80 54 k rfl) (g80 0 64 rfl)
  refine gv_callV hD rfl (As := []) (st := []) rfl (by decide) rfl rfl (gr_lV hws rfl) (Nat.le_of_ble_eq_true rfl) (gz_Ev_mono (d := 3) (by decide) E80) ?_
  show gv_X _ _ (4, [(0, .inr (.inr (some 0)))], [.inl z80], gr_sh ++ ext, gr_h I81 J82)
  refine gv_if_ne (t := 9) hD rfl rfl ⟨by omega, by omega⟩ (fun c95 => ?_) (fun c95 => ?_)
  · have f96 := (show 0 ≤ I81 0 3 ∧ I81 0 3 ≤ 96 from (hI81 0 3).1)
    refine gv_run 7 true hD (pc' := 22) (lv' := [(0, .inr (.inr (some 0)))]) (st' := [.inr (.inl (J82 0 75)), .inl (I81 0 3), .inl 0, .inr (.inr (some 3))]) (h' := gr_h I81 J82) (C := (((((((True ∧ True) ∧ True) ∧ True) ∧ True) ∧ True) ∧ True) ∧ True)) rfl ⟨⟨⟨⟨⟨⟨⟨trivial, trivial⟩, trivial⟩, trivial⟩, trivial⟩, trivial⟩, trivial⟩, trivial⟩ ?_
    obtain ⟨r97, h97, E97, P97⟩ := r_find_3 (ws0 := ws0) (tb := tb) hws htb ext I81 J82 hI81 0 (I81 0 3) (J82 0 75) ⟨by omega, by omega⟩ ⟨by omega, by omega⟩ (by omega)
    obtain ⟨rfl, ⟨z97, rfl, q97⟩⟩ := P97
    refine gv_callS hD rfl (As := [.inr (.inr (some 3)), .inl 0, .inl (I81 0 3), .inr (.inl (J82 0 75))]) (st := []) rfl (gr_lS hws rfl) (Nat.le_of_ble_eq_true rfl) (gz_Ev_mono (d := 1) (by decide) E97) ?_
    show gv_X _ _ (25, [(0, .inr (.inr (some 0)))], [.inl z97], gr_sh ++ ext, gr_h I81 J82)
    refine gv_run 2 true hD (pc' := 27) (lv' := [(1, .inl z97), (0, .inr (.inr (some 0)))]) (st' := [.inl z97]) (h' := gr_h I81 J82) (C := ((True ∧ True) ∧ True)) rfl ⟨⟨trivial, trivial⟩, trivial⟩ ?_
    refine gv_if_ge (t := 36) hD rfl rfl ⟨by omega, by omega⟩ (fun c98 => ?_) (fun c98 => ?_)
    · have f99 := (show (-1) ≤ I81 10 (Int.toNat z97) ∧ I81 10 (Int.toNat z97) ≤ 1999 from (hI81 10 (Int.toNat z97)).1)
      refine gv_run 4 true hD (pc' := 42) (lv' := [(1, .inl z97), (0, .inr (.inr (some 0)))]) (st' := [.inl (I81 10 (Int.toNat z97))]) (h' := gr_h I81 J82) (C := ((((True ∧ True) ∧ True) ∧ True) ∧ (0 ≤ z97 ∧ z97 < ((96 : Nat) : Int)))) rfl ⟨⟨⟨⟨trivial, trivial⟩, trivial⟩, trivial⟩, ⟨by omega, by omega⟩⟩ ?_
      refine gv_if_lt (t := 51) hD rfl rfl ⟨by omega, by omega⟩ (fun c100 => ?_) (fun c100 => ?_)
      · refine gv_run 1 true hD (pc' := 52) (lv' := [(1, .inl z97), (0, .inr (.inr (some 0)))]) (st' := [.inr (.inr (some 0))]) (h' := gr_h I81 J82) (C := (True ∧ True)) rfl ⟨trivial, trivial⟩ ?_
        obtain ⟨r101, h101, E101, P101⟩ := r_next (ws0 := ws0) (tb := tb) hws htb ext I81 J82 hI81   (by omega)
        obtain ⟨I102, J103, rfl, hI102, g101, k101, ⟨rfl, q101⟩⟩ := P101
        have FI102 := gr_frt FI81 g101 rfl rfl
        have FJ103 := gr_fjt FJ82 k101 rfl rfl
        have t104 := g101 0 69 rfl
        have t105 := g101 0 64 rfl
        have t106 := g101 0 99 rfl
        have f107 := (show 0 ≤ I102 0 71 ∧ I102 0 71 ≤ 5 from (hI102 0 71).1)
        have f108 := (show 0 ≤ I102 0 72 ∧ I102 0 72 ≤ 1000 from (hI102 0 72).1)
        have f109 := (show 0 ≤ I102 0 73 ∧ I102 0 73 ≤ 1001 from (hI102 0 73).1)
        have f110 := (show 0 ≤ I102 0 69 ∧ I102 0 69 ≤ 1000 from (hI102 0 69).1)
        have f111 := (show 0 ≤ I102 0 64 ∧ I102 0 64 ≤ 2000 from (hI102 0 64).1)
        have f112 := (show 0 ≤ I102 0 99 ∧ I102 0 99 ≤ 1000 from (hI102 0 99).1)
        have KTM_I102 := gr_TM_fr KTM_I81 (fun k => g101 52 k rfl) (fun k => g101 53 k rfl) (fun k => g101 54 k rfl) (g101 0 64 rfl)
        refine gv_callV hD rfl (As := []) (st := []) rfl (by decide) rfl rfl (gr_lV hws rfl) (Nat.le_of_ble_eq_true rfl) (gz_Ev_mono (d := 10) (by decide) E101) ?_
        show gv_X _ _ (55, [(1, .inl z97), (0, .inr (.inr (some 0)))], [], gr_sh ++ ext, gr_h I102 J103)
        refine gv_run 2 true hD (pc' := 58) (lv' := [(1, .inl z97), (0, .inr (.inr (some 0)))]) (st' := [.inl 61, .inr (.inr (some 0))]) (h' := gr_h I102 J103) (C := ((True ∧ True) ∧ True)) rfl ⟨⟨trivial, trivial⟩, trivial⟩ ?_
        obtain ⟨r113, h113, E113, P113⟩ := r_need (ws0 := ws0) (tb := tb) hws htb ext I102 J103 hI102 61 ⟨by omega, by omega⟩ (by omega) (by omega) (by omega) (by omega) (by omega)
        obtain ⟨I114, J115, rfl, hI114, g113, k113, ⟨z113, rfl, q113⟩⟩ := P113
        have FI114 := gr_frt FI102 g113 rfl rfl
        have FJ115 := gr_fjt FJ103 k113 rfl rfl
        have t116 := g113 0 69 rfl
        have t117 := g113 0 64 rfl
        have t118 := g113 0 99 rfl
        have f119 := (show 0 ≤ I114 0 71 ∧ I114 0 71 ≤ 5 from (hI114 0 71).1)
        have f120 := (show 0 ≤ I114 0 72 ∧ I114 0 72 ≤ 1000 from (hI114 0 72).1)
        have f121 := (show 0 ≤ I114 0 73 ∧ I114 0 73 ≤ 1001 from (hI114 0 73).1)
        have f122 := (show 0 ≤ I114 0 69 ∧ I114 0 69 ≤ 1000 from (hI114 0 69).1)
        have f123 := (show 0 ≤ I114 0 64 ∧ I114 0 64 ≤ 2000 from (hI114 0 64).1)
        have f124 := (show 0 ≤ I114 0 99 ∧ I114 0 99 ≤ 1000 from (hI114 0 99).1)
        have KTM_I114 := gr_TM_fr KTM_I102 (fun k => g113 52 k rfl) (fun k => g113 53 k rfl) (fun k => g113 54 k rfl) (g113 0 64 rfl)
        refine gv_callV hD rfl (As := [.inl 61]) (st := []) rfl (by decide) rfl rfl (gr_lV hws rfl) (Nat.le_of_ble_eq_true rfl) (gz_Ev_mono (d := 11) (by decide) E113) ?_
        show gv_X _ _ (61, [(1, .inl z97), (0, .inr (.inr (some 0)))], [.inl z113], gr_sh ++ ext, gr_h I114 J115)
        refine gv_if_ne (t := 66) hD rfl rfl ⟨by omega, by omega⟩ (fun c125 => ?_) (fun c125 => ?_)
        · have f126 := (show 0 ≤ I114 0 64 ∧ I114 0 64 ≤ 2000 from (hI114 0 64).1)
          refine gv_run 5 true hD (pc' := 73) (lv' := [(2, .inl (I114 0 64)), (1, .inl z97), (0, .inr (.inr (some 0)))]) (st' := [.inl 0, .inr (.inr (some 0))]) (h' := gr_h I114 J115) (C := (((((True ∧ True) ∧ True) ∧ True) ∧ True) ∧ True)) rfl ⟨⟨⟨⟨⟨trivial, trivial⟩, trivial⟩, trivial⟩, trivial⟩, trivial⟩ ?_
          refine gv_run 1 true hD (pc' := 76) (lv' := [(2, .inl (I114 0 64)), (1, .inl z97), (0, .inr (.inr (some 0)))]) (st' := []) (h' := gz_up (gr_h I114 J115) 0 122 (.inl 0)) (C := (True ∧ True)) rfl ⟨trivial, trivial⟩ ?_
          refine gr_st hI114 FI114 rfl rfl ⟨⟨by show 0 ≤ _; omega, by show _ ≤ 47; omega⟩, trivial⟩ (fun I127 hI127 FI127 q128 p128 => ?_)
          have t129 := p128 0 71 (by decide)
          have t130 := p128 0 72 (by decide)
          have t131 := p128 0 73 (by decide)
          have t132 := p128 0 69 (by decide)
          have t133 := p128 0 64 (by decide)
          have t134 := p128 0 99 (by decide)
          have f135 := (show 0 ≤ I127 0 71 ∧ I127 0 71 ≤ 5 from (hI127 0 71).1)
          have f136 := (show 0 ≤ I127 0 72 ∧ I127 0 72 ≤ 1000 from (hI127 0 72).1)
          have f137 := (show 0 ≤ I127 0 73 ∧ I127 0 73 ≤ 1001 from (hI127 0 73).1)
          have f138 := (show 0 ≤ I127 0 69 ∧ I127 0 69 ≤ 1000 from (hI127 0 69).1)
          have f139 := (show 0 ≤ I127 0 64 ∧ I127 0 64 ≤ 2000 from (hI127 0 64).1)
          have f140 := (show 0 ≤ I127 0 99 ∧ I127 0 99 ≤ 1000 from (hI127 0 99).1)
          have KTM_I127 := gr_TM_fr KTM_I114 (fun k => p128 52 k (fun q => absurd q.1 (by decide))) (fun k => p128 53 k (fun q => absurd q.1 (by decide))) (fun k => p128 54 k (fun q => absurd q.1 (by decide))) (p128 0 64 (by decide))
          refine gv_run 3 true hD (pc' := 81) (lv' := [(2, .inl (I114 0 64)), (1, .inl z97), (0, .inr (.inr (some 0)))]) (st' := []) (h' := gz_up (gr_h I127 J115) 0 123 (.inl z97)) (C := (((True ∧ True) ∧ True) ∧ True)) rfl ⟨⟨⟨trivial, trivial⟩, trivial⟩, trivial⟩ ?_
          refine gr_st hI127 FI127 rfl rfl ⟨⟨by show 0 ≤ _; omega, by show _ ≤ 95; omega⟩, trivial⟩ (fun I141 hI141 FI141 q142 p142 => ?_)
          have t143 := p142 0 71 (by decide)
          have t144 := p142 0 72 (by decide)
          have t145 := p142 0 73 (by decide)
          have t146 := p142 0 69 (by decide)
          have t147 := p142 0 64 (by decide)
          have t148 := p142 0 99 (by decide)
          have f149 := (show 0 ≤ I141 0 71 ∧ I141 0 71 ≤ 5 from (hI141 0 71).1)
          have f150 := (show 0 ≤ I141 0 72 ∧ I141 0 72 ≤ 1000 from (hI141 0 72).1)
          have f151 := (show 0 ≤ I141 0 73 ∧ I141 0 73 ≤ 1001 from (hI141 0 73).1)
          have f152 := (show 0 ≤ I141 0 69 ∧ I141 0 69 ≤ 1000 from (hI141 0 69).1)
          have f153 := (show 0 ≤ I141 0 64 ∧ I141 0 64 ≤ 2000 from (hI141 0 64).1)
          have f154 := (show 0 ≤ I141 0 99 ∧ I141 0 99 ≤ 1000 from (hI141 0 99).1)
          have KTM_I141 := gr_TM_fr KTM_I127 (fun k => p142 52 k (fun q => absurd q.1 (by decide))) (fun k => p142 53 k (fun q => absurd q.1 (by decide))) (fun k => p142 54 k (fun q => absurd q.1 (by decide))) (p142 0 64 (by decide))
          refine gv_run 2 true hD (pc' := 83) (lv' := [(2, .inl (I114 0 64)), (1, .inl z97), (0, .inr (.inr (some 0)))]) (st' := [.inl 1, .inr (.inr (some 0))]) (h' := gr_h I141 J115) (C := ((True ∧ True) ∧ True)) rfl ⟨⟨trivial, trivial⟩, trivial⟩ ?_
          obtain ⟨r155, h155, E155, P155⟩ := r_term (ws0 := ws0) (tb := tb) hws htb ext 42 I141 J115 hI141 1 ⟨by omega, by omega⟩ (by omega) (by omega) (by omega) (by omega) (by omega) (by omega) (by omega) KTM_I141 (by omega)
          obtain ⟨I156, J157, rfl, hI156, g155, k155, KTM_I156, ⟨z155, rfl, q155⟩⟩ := P155
          have FI156 := gr_frt FI141 g155 rfl rfl
          have FJ157 := gr_fjt FJ115 k155 rfl rfl
          have t158 := g155 0 69 rfl
          have t159 := g155 0 99 rfl
          have f160 := (show 0 ≤ I156 0 71 ∧ I156 0 71 ≤ 5 from (hI156 0 71).1)
          have f161 := (show 0 ≤ I156 0 72 ∧ I156 0 72 ≤ 1000 from (hI156 0 72).1)
          have f162 := (show 0 ≤ I156 0 73 ∧ I156 0 73 ≤ 1001 from (hI156 0 73).1)
          have f163 := (show 0 ≤ I156 0 69 ∧ I156 0 69 ≤ 1000 from (hI156 0 69).1)
          have f164 := (show 0 ≤ I156 0 64 ∧ I156 0 64 ≤ 2000 from (hI156 0 64).1)
          have f165 := (show 0 ≤ I156 0 99 ∧ I156 0 99 ≤ 1000 from (hI156 0 99).1)
          refine gv_callV hD rfl (As := [.inl 1]) (st := []) rfl (by decide) rfl rfl (gr_lV hws rfl) (Nat.le_of_ble_eq_true rfl) (gz_Ev_mono (d := 98) (by decide) E155) ?_
          show gv_X _ _ (86, [(2, .inl (I114 0 64)), (1, .inl z97), (0, .inr (.inr (some 0)))], [.inl z155], gr_sh ++ ext, gr_h I156 J157)
          refine gv_run 2 true hD (pc' := 88) (lv' := [(3, .inl z155), (2, .inl (I114 0 64)), (1, .inl z97), (0, .inr (.inr (some 0)))]) (st' := [.inl z155]) (h' := gr_h I156 J157) (C := ((True ∧ True) ∧ True)) rfl ⟨⟨trivial, trivial⟩, trivial⟩ ?_
          refine gv_if_lt (t := 114) hD rfl rfl ⟨by omega, by omega⟩ (fun c166 => ?_) (fun c166 => ?_)
          · refine gv_pick [] rfl ?_
            exact L114 I156 J157 hI156 FI156 FJ157 KTM_I156 (by omega)
          · have f167 := (show 0 ≤ I156 0 64 ∧ I156 0 64 ≤ 2000 from (hI156 0 64).1)
            refine gv_run 6 true hD (pc' := 100) (lv' := [(3, .inl z155), (2, .inl (I114 0 64)), (1, .inl z97), (0, .inr (.inr (some 0)))]) (st' := [.inl 40, .inl ((I156 0 64) - (I114 0 64)), .inr (.inr (some 0))]) (h' := gr_h I156 J157) (C := ((((((True ∧ True) ∧ True) ∧ True) ∧ True) ∧ True) ∧ True)) rfl ⟨⟨⟨⟨⟨⟨trivial, trivial⟩, trivial⟩, trivial⟩, trivial⟩, trivial⟩, trivial⟩ ?_
            refine gv_icmp_gt (t := 107) hD rfl rfl ⟨⟨by omega, by omega⟩, ⟨by omega, by omega⟩⟩ (fun c168 => ?_) (fun c168 => ?_)
            · refine gv_run 1 true hD (pc' := 108) (lv' := [(3, .inl z155), (2, .inl (I114 0 64)), (1, .inl z97), (0, .inr (.inr (some 0)))]) (st' := [.inl 0, .inr (.inr (some 0))]) (h' := gr_h I156 J157) (C := (True ∧ True)) rfl ⟨trivial, trivial⟩ ?_
              refine gv_pick [3, 2, 0] rfl ?_
              exact L108 I156 J157 z97 z155 0 hI156 FI156 FJ157 KTM_I156 (by omega)
            · refine gv_run 2 true hD (pc' := 108) (lv' := [(3, .inl z155), (2, .inl (I114 0 64)), (1, .inl z97), (0, .inr (.inr (some 0)))]) (st' := [.inl 1, .inr (.inr (some 0))]) (h' := gr_h I156 J157) (C := ((True ∧ True) ∧ True)) rfl ⟨⟨trivial, trivial⟩, trivial⟩ ?_
              refine gv_pick [3, 2, 0] rfl ?_
              exact L108 I156 J157 z97 z155 1 hI156 FI156 FJ157 KTM_I156 (by omega)
        · refine gv_run 1 true hD (pc' := 65) (lv' := [(1, .inl z97), (0, .inr (.inr (some 0)))]) (st' := [.inl 0]) (h' := gr_h I114 J115) (C := (True ∧ True)) rfl ⟨trivial, trivial⟩ ?_
          exact gv_zret hD rfl (by omega) ⟨I114, J115, rfl, hI114, FI114, FJ115, KTM_I114, ⟨_, rfl, by omega⟩⟩
      · refine gv_run 2 true hD (pc' := 47) (lv' := [(1, .inl z97), (0, .inr (.inr (some 0)))]) (st' := [.inl 4, .inr (.inr (some 0))]) (h' := gr_h I81 J82) (C := ((True ∧ True) ∧ True)) rfl ⟨⟨trivial, trivial⟩, trivial⟩ ?_
        obtain ⟨r169, h169, E169, P169⟩ := r_no_ (ws0 := ws0) (tb := tb) hws htb ext I81 J82 hI81 4 ⟨by omega, by omega⟩ 
        obtain ⟨I170, J171, rfl, hI170, g169, k169, ⟨z169, rfl, q169⟩⟩ := P169
        have FI170 := gr_frt FI81 g169 rfl rfl
        have FJ171 := gr_fjt FJ82 k169 rfl rfl
        have t172 := g169 0 71 rfl
        have t173 := g169 0 72 rfl
        have t174 := g169 0 73 rfl
        have t175 := g169 0 69 rfl
        have t176 := g169 0 64 rfl
        have t177 := g169 0 99 rfl
        have f178 := (show 0 ≤ I170 0 71 ∧ I170 0 71 ≤ 5 from (hI170 0 71).1)
        have f179 := (show 0 ≤ I170 0 72 ∧ I170 0 72 ≤ 1000 from (hI170 0 72).1)
        have f180 := (show 0 ≤ I170 0 73 ∧ I170 0 73 ≤ 1001 from (hI170 0 73).1)
        have f181 := (show 0 ≤ I170 0 69 ∧ I170 0 69 ≤ 1000 from (hI170 0 69).1)
        have f182 := (show 0 ≤ I170 0 64 ∧ I170 0 64 ≤ 2000 from (hI170 0 64).1)
        have f183 := (show 0 ≤ I170 0 99 ∧ I170 0 99 ≤ 1000 from (hI170 0 99).1)
        have KTM_I170 := gr_TM_fr KTM_I81 (fun k => g169 52 k rfl) (fun k => g169 53 k rfl) (fun k => g169 54 k rfl) (g169 0 64 rfl)
        refine gv_callV hD rfl (As := [.inl 4]) (st := []) rfl (by decide) rfl rfl (gr_lV hws rfl) (Nat.le_of_ble_eq_true rfl) (gz_Ev_mono (d := 2) (by decide) E169) ?_
        show gv_X _ _ (50, [(1, .inl z97), (0, .inr (.inr (some 0)))], [.inl z169], gr_sh ++ ext, gr_h I170 J171)
        exact gv_zret hD rfl (by omega) ⟨I170, J171, rfl, hI170, FI170, FJ171, KTM_I170, ⟨_, rfl, by omega⟩⟩
    · refine gv_run 2 true hD (pc' := 32) (lv' := [(1, .inl z97), (0, .inr (.inr (some 0)))]) (st' := [.inl 5, .inr (.inr (some 0))]) (h' := gr_h I81 J82) (C := ((True ∧ True) ∧ True)) rfl ⟨⟨trivial, trivial⟩, trivial⟩ ?_
      obtain ⟨r184, h184, E184, P184⟩ := r_no_ (ws0 := ws0) (tb := tb) hws htb ext I81 J82 hI81 5 ⟨by omega, by omega⟩ 
      obtain ⟨I185, J186, rfl, hI185, g184, k184, ⟨z184, rfl, q184⟩⟩ := P184
      have FI185 := gr_frt FI81 g184 rfl rfl
      have FJ186 := gr_fjt FJ82 k184 rfl rfl
      have t187 := g184 0 71 rfl
      have t188 := g184 0 72 rfl
      have t189 := g184 0 73 rfl
      have t190 := g184 0 69 rfl
      have t191 := g184 0 64 rfl
      have t192 := g184 0 99 rfl
      have f193 := (show 0 ≤ I185 0 71 ∧ I185 0 71 ≤ 5 from (hI185 0 71).1)
      have f194 := (show 0 ≤ I185 0 72 ∧ I185 0 72 ≤ 1000 from (hI185 0 72).1)
      have f195 := (show 0 ≤ I185 0 73 ∧ I185 0 73 ≤ 1001 from (hI185 0 73).1)
      have f196 := (show 0 ≤ I185 0 69 ∧ I185 0 69 ≤ 1000 from (hI185 0 69).1)
      have f197 := (show 0 ≤ I185 0 64 ∧ I185 0 64 ≤ 2000 from (hI185 0 64).1)
      have f198 := (show 0 ≤ I185 0 99 ∧ I185 0 99 ≤ 1000 from (hI185 0 99).1)
      have KTM_I185 := gr_TM_fr KTM_I81 (fun k => g184 52 k rfl) (fun k => g184 53 k rfl) (fun k => g184 54 k rfl) (g184 0 64 rfl)
      refine gv_callV hD rfl (As := [.inl 5]) (st := []) rfl (by decide) rfl rfl (gr_lV hws rfl) (Nat.le_of_ble_eq_true rfl) (gz_Ev_mono (d := 2) (by decide) E184) ?_
      show gv_X _ _ (35, [(1, .inl z97), (0, .inr (.inr (some 0)))], [.inl z184], gr_sh ++ ext, gr_h I185 J186)
      exact gv_zret hD rfl (by omega) ⟨I185, J186, rfl, hI185, FI185, FJ186, KTM_I185, ⟨_, rfl, by omega⟩⟩
  · refine gv_run 1 true hD (pc' := 8) (lv' := [(0, .inr (.inr (some 0)))]) (st' := [.inl 0]) (h' := gr_h I81 J82) (C := (True ∧ True)) rfl ⟨trivial, trivial⟩ ?_
    exact gv_zret hD rfl (by omega) ⟨I81, J82, rfl, hI81, FI81, FJ82, KTM_I81, ⟨_, rfl, by omega⟩⟩
set_option maxHeartbeats 4000000 in
set_option maxRecDepth 100000 in
theorem r_statement {ws0 : List Cond} {tb : String → gz_T} (hws : ∀ w ∈ gr_ws, w ∈ ws0) (htb : tb RX13 = gr_T) (ext : gz_Sh) (B : Int) (hB : B ≤ 1500) (I : gr_I) (J : gr_J) (hI : gr_Inv I)   (x0 : I 0 71 = 5 ∨ I 0 73 ≤ I 0 69) (x1 : I 0 72 ≤ I 0 69) (x2 : I 0 71 = 0 ∨ (I 0 72 < I 0 73 ∧ I 0 72 < I 0 69)) (x3 : I 0 71 = 3 → 2 ≤ I 0 73 - I 0 72 ∧ I 0 73 - I 0 72 ≤ 14) (x4 : I 0 72 ≤ I 0 73) (x5 : I 0 59 + I 0 69 - I 0 72 ≤ 1900) (x6 : I 0 42 + I 0 69 - I 0 72 ≤ 1900) (x7 : I 0 64 + I 0 69 - I 0 72 ≤ 1900) (x8 : I 0 99 ≤ I 0 72) (KTM_I : gr_TM I) (KVF_I : gr_VF I) (KLN_I : gr_LN B I) : ∃ r h', gz_Ev ws0 tb 100 (yX13_statement, cX13_statement, 5, (some .boolean)) [.inr (.inr (some 0))] (gr_sh ++ ext) (gr_h I J) r (gr_sh ++ ext) h' 0 0 ∧ (∃ (I' : gr_I) (J' : gr_J), h' = gr_h I' J' ∧ gr_Inv I' ∧ gr_fr [1, 2, 3, 4, 5, 6, 42, 59, 64, 71, 72, 73, 74, 75, 76, 77, 78, 99, 101, 104, 106, 118, 119, 120, 122, 123] [1, 2, 3, 4, 5, 6, 7, 8, 9, 10, 11, 12, 13, 14, 15, 16, 17, 18, 19, 20, 21, 22, 23, 24, 25, 26, 27, 28, 29, 30, 31, 32, 33, 34, 35, 36, 37, 38, 39, 40, 41, 42, 43, 44, 45, 46, 47, 48, 49, 50, 51, 52, 53, 54, 55, 57, 60, 61, 62, 63, 64, 65, 66, 67, 68, 69, 70, 71, 72, 73, 74, 75] I I' ∧ gr_fj [1, 2, 3, 4, 5, 6, 42, 59, 64, 71, 72, 73, 74, 75, 76, 77, 78, 99, 101, 104, 106, 118, 119, 120, 122, 123] [1, 2, 3, 4, 5, 6, 7, 8, 9, 10, 11, 12, 13, 14, 15, 16, 17, 18, 19, 20, 21, 22, 23, 24, 25, 26, 27, 28, 29, 30, 31, 32, 33, 34, 35, 36, 37, 38, 39, 40, 41, 42, 43, 44, 45, 46, 47, 48, 49, 50, 51, 52, 53, 54, 55, 57, 60, 61, 62, 63, 64, 65, 66, 67, 68, 69, 70, 71, 72, 73, 74, 75] J J' ∧ gr_TM I' ∧ gr_VF I' ∧ gr_LN B I' ∧ (∃ z : Int, r = some (.inl z) ∧ 0 ≤ z ∧ z ≤ 1 ∧ (I' 0 71 = 5 ∨ I' 0 73 ≤ I' 0 69) ∧ (I' 0 72 ≤ I' 0 69) ∧ (I' 0 71 = 0 ∨ (I' 0 72 < I' 0 73 ∧ I' 0 72 < I' 0 69)) ∧ (I' 0 71 = 3 → 2 ≤ I' 0 73 - I' 0 72 ∧ I' 0 73 - I' 0 72 ≤ 14) ∧ (I' 0 72 ≤ I' 0 73) ∧ (I' 0 69 = I 0 69) ∧ (I 0 73 ≤ I' 0 73) ∧ (I 0 72 ≤ I' 0 72) ∧ (I' 0 59 - I' 0 72 ≤ I 0 59 - I 0 72) ∧ (I' 0 42 - I' 0 72 ≤ I 0 42 - I 0 72) ∧ (I' 0 64 - I' 0 72 ≤ I 0 64 - I 0 72) ∧ (I' 0 99 ≤ I' 0 72) ∧ (I 0 64 ≤ I' 0 64) ∧ (z = 0 ∨ I 0 72 < I' 0 72))) := by
  have FI : gr_fr [1, 2, 3, 4, 5, 6, 42, 59, 64, 71, 72, 73, 74, 75, 76, 77, 78, 99, 101, 104, 106, 118, 119, 120, 122, 123] [1, 2, 3, 4, 5, 6, 7, 8, 9, 10, 11, 12, 13, 14, 15, 16, 17, 18, 19, 20, 21, 22, 23, 24, 25, 26, 27, 28, 29, 30, 31, 32, 33, 34, 35, 36, 37, 38, 39, 40, 41, 42, 43, 44, 45, 46, 47, 48, 49, 50, 51, 52, 53, 54, 55, 57, 60, 61, 62, 63, 64, 65, 66, 67, 68, 69, 70, 71, 72, 73, 74, 75] I I := fun _ _ _ => rfl
  have FJ : gr_fj [1, 2, 3, 4, 5, 6, 42, 59, 64, 71, 72, 73, 74, 75, 76, 77, 78, 99, 101, 104, 106, 118, 119, 120, 122, 123] [1, 2, 3, 4, 5, 6, 7, 8, 9, 10, 11, 12, 13, 14, 15, 16, 17, 18, 19, 20, 21, 22, 23, 24, 25, 26, 27, 28, 29, 30, 31, 32, 33, 34, 35, 36, 37, 38, 39, 40, 41, 42, 43, 44, 45, 46, 47, 48, 49, 50, 51, 52, 53, 54, 55, 57, 60, 61, 62, 63, 64, 65, 66, 67, 68, 69, 70, 71, 72, 73, 74, 75] J J := fun _ _ _ => rfl
  have hD : gv_D (gr_E ws0 tb 99 (yX13_statement, cX13_statement, 5, (some .boolean)) kX13_statement) := gq_ok oX13_statement
  refine gr_ev (d := 99) (l := kX13_statement) (Po := fun r h' => (∃ (I' : gr_I) (J' : gr_J), h' = gr_h I' J' ∧ gr_Inv I' ∧ gr_fr [1, 2, 3, 4, 5, 6, 42, 59, 64, 71, 72, 73, 74, 75, 76, 77, 78, 99, 101, 104, 106, 118, 119, 120, 122, 123] [1, 2, 3, 4, 5, 6, 7, 8, 9, 10, 11, 12, 13, 14, 15, 16, 17, 18, 19, 20, 21, 22, 23, 24, 25, 26, 27, 28, 29, 30, 31, 32, 33, 34, 35, 36, 37, 38, 39, 40, 41, 42, 43, 44, 45, 46, 47, 48, 49, 50, 51, 52, 53, 54, 55, 57, 60, 61, 62, 63, 64, 65, 66, 67, 68, 69, 70, 71, 72, 73, 74, 75] I I' ∧ gr_fj [1, 2, 3, 4, 5, 6, 42, 59, 64, 71, 72, 73, 74, 75, 76, 77, 78, 99, 101, 104, 106, 118, 119, 120, 122, 123] [1, 2, 3, 4, 5, 6, 7, 8, 9, 10, 11, 12, 13, 14, 15, 16, 17, 18, 19, 20, 21, 22, 23, 24, 25, 26, 27, 28, 29, 30, 31, 32, 33, 34, 35, 36, 37, 38, 39, 40, 41, 42, 43, 44, 45, 46, 47, 48, 49, 50, 51, 52, 53, 54, 55, 57, 60, 61, 62, 63, 64, 65, 66, 67, 68, 69, 70, 71, 72, 73, 74, 75] J J' ∧ gr_TM I' ∧ gr_VF I' ∧ gr_LN B I' ∧ (∃ z : Int, r = some (.inl z) ∧ 0 ≤ z ∧ z ≤ 1 ∧ (I' 0 71 = 5 ∨ I' 0 73 ≤ I' 0 69) ∧ (I' 0 72 ≤ I' 0 69) ∧ (I' 0 71 = 0 ∨ (I' 0 72 < I' 0 73 ∧ I' 0 72 < I' 0 69)) ∧ (I' 0 71 = 3 → 2 ≤ I' 0 73 - I' 0 72 ∧ I' 0 73 - I' 0 72 ≤ 14) ∧ (I' 0 72 ≤ I' 0 73) ∧ (I' 0 69 = I 0 69) ∧ (I 0 73 ≤ I' 0 73) ∧ (I 0 72 ≤ I' 0 72) ∧ (I' 0 59 - I' 0 72 ≤ I 0 59 - I 0 72) ∧ (I' 0 42 - I' 0 72 ≤ I 0 42 - I 0 72) ∧ (I' 0 64 - I' 0 72 ≤ I 0 64 - I 0 72) ∧ (I' 0 99 ≤ I' 0 72) ∧ (I 0 64 ≤ I' 0 64) ∧ (z = 0 ∨ I 0 72 < I' 0 72)))) htb rfl (Nat.le_of_ble_eq_true rfl) ?_
  have f1 := (show 0 ≤ I 0 71 ∧ I 0 71 ≤ 5 from (hI 0 71).1)
  have f2 := (show 0 ≤ I 0 72 ∧ I 0 72 ≤ 1000 from (hI 0 72).1)
  have f3 := (show 0 ≤ I 0 73 ∧ I 0 73 ≤ 1001 from (hI 0 73).1)
  have f4 := (show 0 ≤ I 0 69 ∧ I 0 69 ≤ 1000 from (hI 0 69).1)
  have f5 := (show 0 ≤ I 0 64 ∧ I 0 64 ≤ 2000 from (hI 0 64).1)
  have f6 := (show 0 ≤ I 0 99 ∧ I 0 99 ≤ 1000 from (hI 0 99).1)
  have f7 := (show 0 ≤ I 0 59 ∧ I 0 59 ≤ 2000 from (hI 0 59).1)
  have f8 := (show 0 ≤ I 0 42 ∧ I 0 42 ≤ 2000 from (hI 0 42).1)
  have f9 := (show (-1) ≤ I 0 6 ∧ I 0 6 ≤ 7 from (hI 0 6).1)
  have L86 : ∀ (I10 : gr_I) (J11 : gr_J) (v1_12 : Int64) (s0_12 : Int), gr_Inv I10 → gr_fr [1, 2, 3, 4, 5, 6, 42, 59, 64, 71, 72, 73, 74, 75, 76, 77, 78, 99, 101, 104, 106, 118, 119, 120, 122, 123] [1, 2, 3, 4, 5, 6, 7, 8, 9, 10, 11, 12, 13, 14, 15, 16, 17, 18, 19, 20, 21, 22, 23, 24, 25, 26, 27, 28, 29, 30, 31, 32, 33, 34, 35, 36, 37, 38, 39, 40, 41, 42, 43, 44, 45, 46, 47, 48, 49, 50, 51, 52, 53, 54, 55, 57, 60, 61, 62, 63, 64, 65, 66, 67, 68, 69, 70, 71, 72, 73, 74, 75] I I10 → gr_fj [1, 2, 3, 4, 5, 6, 42, 59, 64, 71, 72, 73, 74, 75, 76, 77, 78, 99, 101, 104, 106, 118, 119, 120, 122, 123] [1, 2, 3, 4, 5, 6, 7, 8, 9, 10, 11, 12, 13, 14, 15, 16, 17, 18, 19, 20, 21, 22, 23, 24, 25, 26, 27, 28, 29, 30, 31, 32, 33, 34, 35, 36, 37, 38, 39, 40, 41, 42, 43, 44, 45, 46, 47, 48, 49, 50, 51, 52, 53, 54, 55, 57, 60, 61, 62, 63, 64, 65, 66, 67, 68, 69, 70, 71, 72, 73, 74, 75] J J11 → gr_TM I10 → gr_VF I10 → gr_LN B I10 → ((0 ≤ s0_12 ∧ s0_12 ≤ 1) ∧ (s0_12 = 1 ∨ (¬ ((lg_cmp v1_12 (J 0 83)).toInt) = 0 ∧ ¬ ((lg_cmp v1_12 (J 0 84)).toInt) = 0 ∧ ¬ ((lg_cmp v1_12 (J 0 85)).toInt) = 0 ∧ ¬ ((lg_cmp v1_12 (J 0 86)).toInt) = 0 ∧ ¬ ((lg_cmp v1_12 (J 0 87)).toInt) = 0 ∧ ¬ ((lg_cmp v1_12 (J 0 88)).toInt) = 0)) ∧ (I10 0 71 = 5 ∨ I10 0 73 ≤ I10 0 69) ∧ (I10 0 72 ≤ I10 0 69) ∧ (I10 0 71 = 0 ∨ (I10 0 72 < I10 0 73 ∧ I10 0 72 < I10 0 69)) ∧ (I10 0 71 = 3 → 2 ≤ I10 0 73 - I10 0 72 ∧ I10 0 73 - I10 0 72 ≤ 14) ∧ (I10 0 72 ≤ I10 0 73) ∧ (I10 0 69 = I 0 69) ∧ (I 0 73 ≤ I10 0 73) ∧ (I 0 72 ≤ I10 0 72)) → gv_X (gr_E ws0 tb 99 (yX13_statement, cX13_statement, 5, (some .boolean)) kX13_statement) (gv_Q cX13_statement (some .boolean) (gr_sh ++ ext) (fun r h' => (∃ (I' : gr_I) (J' : gr_J), h' = gr_h I' J' ∧ gr_Inv I' ∧ gr_fr [1, 2, 3, 4, 5, 6, 42, 59, 64, 71, 72, 73, 74, 75, 76, 77, 78, 99, 101, 104, 106, 118, 119, 120, 122, 123] [1, 2, 3, 4, 5, 6, 7, 8, 9, 10, 11, 12, 13, 14, 15, 16, 17, 18, 19, 20, 21, 22, 23, 24, 25, 26, 27, 28, 29, 30, 31, 32, 33, 34, 35, 36, 37, 38, 39, 40, 41, 42, 43, 44, 45, 46, 47, 48, 49, 50, 51, 52, 53, 54, 55, 57, 60, 61, 62, 63, 64, 65, 66, 67, 68, 69, 70, 71, 72, 73, 74, 75] I I' ∧ gr_fj [1, 2, 3, 4, 5, 6, 42, 59, 64, 71, 72, 73, 74, 75, 76, 77, 78, 99, 101, 104, 106, 118, 119, 120, 122, 123] [1, 2, 3, 4, 5, 6, 7, 8, 9, 10, 11, 12, 13, 14, 15, 16, 17, 18, 19, 20, 21, 22, 23, 24, 25, 26, 27, 28, 29, 30, 31, 32, 33, 34, 35, 36, 37, 38, 39, 40, 41, 42, 43, 44, 45, 46, 47, 48, 49, 50, 51, 52, 53, 54, 55, 57, 60, 61, 62, 63, 64, 65, 66, 67, 68, 69, 70, 71, 72, 73, 74, 75] J J' ∧ gr_TM I' ∧ gr_VF I' ∧ gr_LN B I' ∧ (∃ z : Int, r = some (.inl z) ∧ 0 ≤ z ∧ z ≤ 1 ∧ (I' 0 71 = 5 ∨ I' 0 73 ≤ I' 0 69) ∧ (I' 0 72 ≤ I' 0 69) ∧ (I' 0 71 = 0 ∨ (I' 0 72 < I' 0 73 ∧ I' 0 72 < I' 0 69)) ∧ (I' 0 71 = 3 → 2 ≤ I' 0 73 - I' 0 72 ∧ I' 0 73 - I' 0 72 ≤ 14) ∧ (I' 0 72 ≤ I' 0 73) ∧ (I' 0 69 = I 0 69) ∧ (I 0 73 ≤ I' 0 73) ∧ (I 0 72 ≤ I' 0 72) ∧ (I' 0 59 - I' 0 72 ≤ I 0 59 - I 0 72) ∧ (I' 0 42 - I' 0 72 ≤ I 0 42 - I 0 72) ∧ (I' 0 64 - I' 0 72 ≤ I 0 64 - I 0 72) ∧ (I' 0 99 ≤ I' 0 72) ∧ (I 0 64 ≤ I' 0 64) ∧ (z = 0 ∨ I 0 72 < I' 0 72))))) (86, [(0, .inr (.inr (some 0))), (1, .inr (.inl v1_12))], [.inl s0_12], gr_sh ++ ext, gr_h I10 J11) := by
    intro I10 J11 v1_12 s0_12 hI10 FI10 FJ11 KTM_I10 KVF_I10 KLN_I10 m_12
    obtain ⟨hs0_12, e0_12, e1_12, e2_12, e3_12, e4_12, e5_12, e6_12, e7_12, e8_12⟩ := m_12
    have f13 := (show 0 ≤ I10 0 71 ∧ I10 0 71 ≤ 5 from (hI10 0 71).1)
    have f14 := (show 0 ≤ I10 0 72 ∧ I10 0 72 ≤ 1000 from (hI10 0 72).1)
    have f15 := (show 0 ≤ I10 0 73 ∧ I10 0 73 ≤ 1001 from (hI10 0 73).1)
    have f16 := (show 0 ≤ I10 0 69 ∧ I10 0 69 ≤ 1000 from (hI10 0 69).1)
    have f17 := (show 0 ≤ I10 0 64 ∧ I10 0 64 ≤ 2000 from (hI10 0 64).1)
    have f18 := (show 0 ≤ I10 0 99 ∧ I10 0 99 ≤ 1000 from (hI10 0 99).1)
    have f19 := (show 0 ≤ I10 0 59 ∧ I10 0 59 ≤ 2000 from (hI10 0 59).1)
    have f20 := (show 0 ≤ I10 0 42 ∧ I10 0 42 ≤ 2000 from (hI10 0 42).1)
    have f21 := (show (-1) ≤ I10 0 6 ∧ I10 0 6 ≤ 7 from (hI10 0 6).1)
    have L146 : ∀ (v3_22 : Int) (s0_22 : Int), ((0 ≤ v3_22 ∧ v3_22 ≤ 1) ∧ (0 ≤ s0_22 ∧ s0_22 ≤ 1) ∧ (v3_22 = 1 ∨ (¬ ((lg_cmp v1_12 (J 0 83)).toInt) = 0 ∧ ¬ ((lg_cmp v1_12 (J 0 84)).toInt) = 0 ∧ ¬ ((lg_cmp v1_12 (J 0 85)).toInt) = 0 ∧ ¬ ((lg_cmp v1_12 (J 0 86)).toInt) = 0 ∧ ¬ ((lg_cmp v1_12 (J 0 87)).toInt) = 0 ∧ ¬ ((lg_cmp v1_12 (J 0 88)).toInt) = 0)) ∧ (I10 0 71 = 5 ∨ I10 0 73 ≤ I10 0 69) ∧ (I10 0 72 ≤ I10 0 69) ∧ (I10 0 71 = 0 ∨ (I10 0 72 < I10 0 73 ∧ I10 0 72 < I10 0 69)) ∧ (I10 0 71 = 3 → 2 ≤ I10 0 73 - I10 0 72 ∧ I10 0 73 - I10 0 72 ≤ 14) ∧ (I10 0 72 ≤ I10 0 73) ∧ (I10 0 69 = I 0 69) ∧ (I 0 73 ≤ I10 0 73) ∧ (I 0 72 ≤ I10 0 72)) → gv_X (gr_E ws0 tb 99 (yX13_statement, cX13_statement, 5, (some .boolean)) kX13_statement) (gv_Q cX13_statement (some .boolean) (gr_sh ++ ext) (fun r h' => (∃ (I' : gr_I) (J' : gr_J), h' = gr_h I' J' ∧ gr_Inv I' ∧ gr_fr [1, 2, 3, 4, 5, 6, 42, 59, 64, 71, 72, 73, 74, 75, 76, 77, 78, 99, 101, 104, 106, 118, 119, 120, 122, 123] [1, 2, 3, 4, 5, 6, 7, 8, 9, 10, 11, 12, 13, 14, 15, 16, 17, 18, 19, 20, 21, 22, 23, 24, 25, 26, 27, 28, 29, 30, 31, 32, 33, 34, 35, 36, 37, 38, 39, 40, 41, 42, 43, 44, 45, 46, 47, 48, 49, 50, 51, 52, 53, 54, 55, 57, 60, 61, 62, 63, 64, 65, 66, 67, 68, 69, 70, 71, 72, 73, 74, 75] I I' ∧ gr_fj [1, 2, 3, 4, 5, 6, 42, 59, 64, 71, 72, 73, 74, 75, 76, 77, 78, 99, 101, 104, 106, 118, 119, 120, 122, 123] [1, 2, 3, 4, 5, 6, 7, 8, 9, 10, 11, 12, 13, 14, 15, 16, 17, 18, 19, 20, 21, 22, 23, 24, 25, 26, 27, 28, 29, 30, 31, 32, 33, 34, 35, 36, 37, 38, 39, 40, 41, 42, 43, 44, 45, 46, 47, 48, 49, 50, 51, 52, 53, 54, 55, 57, 60, 61, 62, 63, 64, 65, 66, 67, 68, 69, 70, 71, 72, 73, 74, 75] J J' ∧ gr_TM I' ∧ gr_VF I' ∧ gr_LN B I' ∧ (∃ z : Int, r = some (.inl z) ∧ 0 ≤ z ∧ z ≤ 1 ∧ (I' 0 71 = 5 ∨ I' 0 73 ≤ I' 0 69) ∧ (I' 0 72 ≤ I' 0 69) ∧ (I' 0 71 = 0 ∨ (I' 0 72 < I' 0 73 ∧ I' 0 72 < I' 0 69)) ∧ (I' 0 71 = 3 → 2 ≤ I' 0 73 - I' 0 72 ∧ I' 0 73 - I' 0 72 ≤ 14) ∧ (I' 0 72 ≤ I' 0 73) ∧ (I' 0 69 = I 0 69) ∧ (I 0 73 ≤ I' 0 73) ∧ (I 0 72 ≤ I' 0 72) ∧ (I' 0 59 - I' 0 72 ≤ I 0 59 - I 0 72) ∧ (I' 0 42 - I' 0 72 ≤ I 0 42 - I 0 72) ∧ (I' 0 64 - I' 0 72 ≤ I 0 64 - I 0 72) ∧ (I' 0 99 ≤ I' 0 72) ∧ (I 0 64 ≤ I' 0 64) ∧ (z = 0 ∨ I 0 72 < I' 0 72))))) (146, [(0, .inr (.inr (some 0))), (1, .inr (.inl v1_12)), (3, .inl v3_22)], [.inl s0_22], gr_sh ++ ext, gr_h I10 J11) := by
      intro v3_22 s0_22 m_22
      obtain ⟨hv3_22, hs0_22, e0_22, e1_22, e2_22, e3_22, e4_22, e5_22, e6_22, e7_22, e8_22⟩ := m_22
      have f23 := (show 0 ≤ I10 0 71 ∧ I10 0 71 ≤ 5 from (hI10 0 71).1)
      have f24 := (show 0 ≤ I10 0 72 ∧ I10 0 72 ≤ 1000 from (hI10 0 72).1)
      have f25 := (show 0 ≤ I10 0 73 ∧ I10 0 73 ≤ 1001 from (hI10 0 73).1)
      have f26 := (show 0 ≤ I10 0 69 ∧ I10 0 69 ≤ 1000 from (hI10 0 69).1)
      have f27 := (show 0 ≤ I10 0 64 ∧ I10 0 64 ≤ 2000 from (hI10 0 64).1)
      have f28 := (show 0 ≤ I10 0 99 ∧ I10 0 99 ≤ 1000 from (hI10 0 99).1)
      have f29 := (show 0 ≤ I10 0 59 ∧ I10 0 59 ≤ 2000 from (hI10 0 59).1)
      have f30 := (show 0 ≤ I10 0 42 ∧ I10 0 42 ≤ 2000 from (hI10 0 42).1)
      have f31 := (show (-1) ≤ I10 0 6 ∧ I10 0 6 ≤ 7 from (hI10 0 6).1)
      have L163 : ((0 ≤ v3_22 ∧ v3_22 ≤ 1) ∧ (v3_22 = 1 ∨ (¬ ((lg_cmp v1_12 (J 0 83)).toInt) = 0 ∧ ¬ ((lg_cmp v1_12 (J 0 84)).toInt) = 0 ∧ ¬ ((lg_cmp v1_12 (J 0 85)).toInt) = 0 ∧ ¬ ((lg_cmp v1_12 (J 0 86)).toInt) = 0 ∧ ¬ ((lg_cmp v1_12 (J 0 87)).toInt) = 0 ∧ ¬ ((lg_cmp v1_12 (J 0 88)).toInt) = 0)) ∧ (I10 0 71 = 5 ∨ I10 0 73 ≤ I10 0 69) ∧ (I10 0 72 ≤ I10 0 69) ∧ (I10 0 71 = 0 ∨ (I10 0 72 < I10 0 73 ∧ I10 0 72 < I10 0 69)) ∧ (I10 0 71 = 3 → 2 ≤ I10 0 73 - I10 0 72 ∧ I10 0 73 - I10 0 72 ≤ 14) ∧ (I10 0 72 ≤ I10 0 73) ∧ (I10 0 69 = I 0 69) ∧ (I 0 73 ≤ I10 0 73) ∧ (I 0 72 ≤ I10 0 72)) → gv_X (gr_E ws0 tb 99 (yX13_statement, cX13_statement, 5, (some .boolean)) kX13_statement) (gv_Q cX13_statement (some .boolean) (gr_sh ++ ext) (fun r h' => (∃ (I' : gr_I) (J' : gr_J), h' = gr_h I' J' ∧ gr_Inv I' ∧ gr_fr [1, 2, 3, 4, 5, 6, 42, 59, 64, 71, 72, 73, 74, 75, 76, 77, 78, 99, 101, 104, 106, 118, 119, 120, 122, 123] [1, 2, 3, 4, 5, 6, 7, 8, 9, 10, 11, 12, 13, 14, 15, 16, 17, 18, 19, 20, 21, 22, 23, 24, 25, 26, 27, 28, 29, 30, 31, 32, 33, 34, 35, 36, 37, 38, 39, 40, 41, 42, 43, 44, 45, 46, 47, 48, 49, 50, 51, 52, 53, 54, 55, 57, 60, 61, 62, 63, 64, 65, 66, 67, 68, 69, 70, 71, 72, 73, 74, 75] I I' ∧ gr_fj [1, 2, 3, 4, 5, 6, 42, 59, 64, 71, 72, 73, 74, 75, 76, 77, 78, 99, 101, 104, 106, 118, 119, 120, 122, 123] [1, 2, 3, 4, 5, 6, 7, 8, 9, 10, 11, 12, 13, 14, 15, 16, 17, 18, 19, 20, 21, 22, 23, 24, 25, 26, 27, 28, 29, 30, 31, 32, 33, 34, 35, 36, 37, 38, 39, 40, 41, 42, 43, 44, 45, 46, 47, 48, 49, 50, 51, 52, 53, 54, 55, 57, 60, 61, 62, 63, 64, 65, 66, 67, 68, 69, 70, 71, 72, 73, 74, 75] J J' ∧ gr_TM I' ∧ gr_VF I' ∧ gr_LN B I' ∧ (∃ z : Int, r = some (.inl z) ∧ 0 ≤ z ∧ z ≤ 1 ∧ (I' 0 71 = 5 ∨ I' 0 73 ≤ I' 0 69) ∧ (I' 0 72 ≤ I' 0 69) ∧ (I' 0 71 = 0 ∨ (I' 0 72 < I' 0 73 ∧ I' 0 72 < I' 0 69)) ∧ (I' 0 71 = 3 → 2 ≤ I' 0 73 - I' 0 72 ∧ I' 0 73 - I' 0 72 ≤ 14) ∧ (I' 0 72 ≤ I' 0 73) ∧ (I' 0 69 = I 0 69) ∧ (I 0 73 ≤ I' 0 73) ∧ (I 0 72 ≤ I' 0 72) ∧ (I' 0 59 - I' 0 72 ≤ I 0 59 - I 0 72) ∧ (I' 0 42 - I' 0 72 ≤ I 0 42 - I 0 72) ∧ (I' 0 64 - I' 0 72 ≤ I 0 64 - I 0 72) ∧ (I' 0 99 ≤ I' 0 72) ∧ (I 0 64 ≤ I' 0 64) ∧ (z = 0 ∨ I 0 72 < I' 0 72))))) (163, [(0, .inr (.inr (some 0))), (1, .inr (.inl v1_12)), (3, .inl v3_22)], [], gr_sh ++ ext, gr_h I10 J11) := by
        intro m_32
        obtain ⟨hv3_22_32, e0_32, e1_32, e2_32, e3_32, e4_32, e5_32, e6_32, e7_32, e8_32⟩ := m_32
        have f33 := (show 0 ≤ I10 0 71 ∧ I10 0 71 ≤ 5 from (hI10 0 71).1)
        have f34 := (show 0 ≤ I10 0 72 ∧ I10 0 72 ≤ 1000 from (hI10 0 72).1)
        have f35 := (show 0 ≤ I10 0 73 ∧ I10 0 73 ≤ 1001 from (hI10 0 73).1)
        have f36 := (show 0 ≤ I10 0 69 ∧ I10 0 69 ≤ 1000 from (hI10 0 69).1)
        have f37 := (show 0 ≤ I10 0 64 ∧ I10 0 64 ≤ 2000 from (hI10 0 64).1)
        have f38 := (show 0 ≤ I10 0 99 ∧ I10 0 99 ≤ 1000 from (hI10 0 99).1)
        have f39 := (show 0 ≤ I10 0 59 ∧ I10 0 59 ≤ 2000 from (hI10 0 59).1)
        have f40 := (show 0 ≤ I10 0 42 ∧ I10 0 42 ≤ 2000 from (hI10 0 42).1)
        have f41 := (show (-1) ≤ I10 0 6 ∧ I10 0 6 ≤ 7 from (hI10 0 6).1)
        have L180 : ((0 ≤ I10 0 6 ∨ (¬ ((lg_cmp v1_12 (J 0 83)).toInt) = 0 ∧ ¬ ((lg_cmp v1_12 (J 0 84)).toInt) = 0 ∧ ¬ ((lg_cmp v1_12 (J 0 85)).toInt) = 0 ∧ ¬ ((lg_cmp v1_12 (J 0 86)).toInt) = 0 ∧ ¬ ((lg_cmp v1_12 (J 0 87)).toInt) = 0 ∧ ¬ ((lg_cmp v1_12 (J 0 88)).toInt) = 0)) ∧ (I10 0 71 = 5 ∨ I10 0 73 ≤ I10 0 69) ∧ (I10 0 72 ≤ I10 0 69) ∧ (I10 0 71 = 0 ∨ (I10 0 72 < I10 0 73 ∧ I10 0 72 < I10 0 69)) ∧ (I10 0 71 = 3 → 2 ≤ I10 0 73 - I10 0 72 ∧ I10 0 73 - I10 0 72 ≤ 14) ∧ (I10 0 72 ≤ I10 0 73) ∧ (I10 0 69 = I 0 69) ∧ (I 0 73 ≤ I10 0 73) ∧ (I 0 72 ≤ I10 0 72)) → gv_X (gr_E ws0 tb 99 (yX13_statement, cX13_statement, 5, (some .boolean)) kX13_statement) (gv_Q cX13_statement (some .boolean) (gr_sh ++ ext) (fun r h' => (∃ (I' : gr_I) (J' : gr_J), h' = gr_h I' J' ∧ gr_Inv I' ∧ gr_fr [1, 2, 3, 4, 5, 6, 42, 59, 64, 71, 72, 73, 74, 75, 76, 77, 78, 99, 101, 104, 106, 118, 119, 120, 122, 123] [1, 2, 3, 4, 5, 6, 7, 8, 9, 10, 11, 12, 13, 14, 15, 16, 17, 18, 19, 20, 21, 22, 23, 24, 25, 26, 27, 28, 29, 30, 31, 32, 33, 34, 35, 36, 37, 38, 39, 40, 41, 42, 43, 44, 45, 46, 47, 48, 49, 50, 51, 52, 53, 54, 55, 57, 60, 61, 62, 63, 64, 65, 66, 67, 68, 69, 70, 71, 72, 73, 74, 75] I I' ∧ gr_fj [1, 2, 3, 4, 5, 6, 42, 59, 64, 71, 72, 73, 74, 75, 76, 77, 78, 99, 101, 104, 106, 118, 119, 120, 122, 123] [1, 2, 3, 4, 5, 6, 7, 8, 9, 10, 11, 12, 13, 14, 15, 16, 17, 18, 19, 20, 21, 22, 23, 24, 25, 26, 27, 28, 29, 30, 31, 32, 33, 34, 35, 36, 37, 38, 39, 40, 41, 42, 43, 44, 45, 46, 47, 48, 49, 50, 51, 52, 53, 54, 55, 57, 60, 61, 62, 63, 64, 65, 66, 67, 68, 69, 70, 71, 72, 73, 74, 75] J J' ∧ gr_TM I' ∧ gr_VF I' ∧ gr_LN B I' ∧ (∃ z : Int, r = some (.inl z) ∧ 0 ≤ z ∧ z ≤ 1 ∧ (I' 0 71 = 5 ∨ I' 0 73 ≤ I' 0 69) ∧ (I' 0 72 ≤ I' 0 69) ∧ (I' 0 71 = 0 ∨ (I' 0 72 < I' 0 73 ∧ I' 0 72 < I' 0 69)) ∧ (I' 0 71 = 3 → 2 ≤ I' 0 73 - I' 0 72 ∧ I' 0 73 - I' 0 72 ≤ 14) ∧ (I' 0 72 ≤ I' 0 73) ∧ (I' 0 69 = I 0 69) ∧ (I 0 73 ≤ I' 0 73) ∧ (I 0 72 ≤ I' 0 72) ∧ (I' 0 59 - I' 0 72 ≤ I 0 59 - I 0 72) ∧ (I' 0 42 - I' 0 72 ≤ I 0 42 - I 0 72) ∧ (I' 0 64 - I' 0 72 ≤ I 0 64 - I 0 72) ∧ (I' 0 99 ≤ I' 0 72) ∧ (I 0 64 ≤ I' 0 64) ∧ (z = 0 ∨ I 0 72 < I' 0 72))))) (180, [(0, .inr (.inr (some 0))), (1, .inr (.inl v1_12))], [], gr_sh ++ ext, gr_h I10 J11) := by
          intro m_42
          obtain ⟨e0_42, e1_42, e2_42, e3_42, e4_42, e5_42, e6_42, e7_42, e8_42⟩ := m_42
          have f43 := (show 0 ≤ I10 0 71 ∧ I10 0 71 ≤ 5 from (hI10 0 71).1)
          have f44 := (show 0 ≤ I10 0 72 ∧ I10 0 72 ≤ 1000 from (hI10 0 72).1)
          have f45 := (show 0 ≤ I10 0 73 ∧ I10 0 73 ≤ 1001 from (hI10 0 73).1)
          have f46 := (show 0 ≤ I10 0 69 ∧ I10 0 69 ≤ 1000 from (hI10 0 69).1)
          have f47 := (show 0 ≤ I10 0 64 ∧ I10 0 64 ≤ 2000 from (hI10 0 64).1)
          have f48 := (show 0 ≤ I10 0 99 ∧ I10 0 99 ≤ 1000 from (hI10 0 99).1)
          have f49 := (show 0 ≤ I10 0 59 ∧ I10 0 59 ≤ 2000 from (hI10 0 59).1)
          have f50 := (show 0 ≤ I10 0 42 ∧ I10 0 42 ≤ 2000 from (hI10 0 42).1)
          have f51 := (show (-1) ≤ I10 0 6 ∧ I10 0 6 ≤ 7 from (hI10 0 6).1)
          have L344 : ∀ (I52 : gr_I) (J53 : gr_J) (s0_54 : Int), gr_Inv I52 → gr_fr [1, 2, 3, 4, 5, 6, 42, 59, 64, 71, 72, 73, 74, 75, 76, 77, 78, 99, 101, 104, 106, 118, 119, 120, 122, 123] [1, 2, 3, 4, 5, 6, 7, 8, 9, 10, 11, 12, 13, 14, 15, 16, 17, 18, 19, 20, 21, 22, 23, 24, 25, 26, 27, 28, 29, 30, 31, 32, 33, 34, 35, 36, 37, 38, 39, 40, 41, 42, 43, 44, 45, 46, 47, 48, 49, 50, 51, 52, 53, 54, 55, 57, 60, 61, 62, 63, 64, 65, 66, 67, 68, 69, 70, 71, 72, 73, 74, 75] I I52 → gr_fj [1, 2, 3, 4, 5, 6, 42, 59, 64, 71, 72, 73, 74, 75, 76, 77, 78, 99, 101, 104, 106, 118, 119, 120, 122, 123] [1, 2, 3, 4, 5, 6, 7, 8, 9, 10, 11, 12, 13, 14, 15, 16, 17, 18, 19, 20, 21, 22, 23, 24, 25, 26, 27, 28, 29, 30, 31, 32, 33, 34, 35, 36, 37, 38, 39, 40, 41, 42, 43, 44, 45, 46, 47, 48, 49, 50, 51, 52, 53, 54, 55, 57, 60, 61, 62, 63, 64, 65, 66, 67, 68, 69, 70, 71, 72, 73, 74, 75] J J53 → gr_TM I52 → gr_VF I52 → gr_LN B I52 → ((0 ≤ s0_54 ∧ s0_54 ≤ 1) ∧ (I52 0 59 - I52 0 72 ≤ I 0 59 - I 0 72) ∧ (I52 0 42 - I52 0 72 ≤ I 0 42 - I 0 72) ∧ (I52 0 64 - I52 0 72 ≤ I 0 64 - I 0 72) ∧ (I52 0 99 ≤ I52 0 72) ∧ (I 0 64 ≤ I52 0 64) ∧ (I 0 72 < I52 0 72) ∧ (I52 0 71 = 5 ∨ I52 0 73 ≤ I52 0 69) ∧ (I52 0 72 ≤ I52 0 69) ∧ (I52 0 71 = 0 ∨ (I52 0 72 < I52 0 73 ∧ I52 0 72 < I52 0 69)) ∧ (I52 0 71 = 3 → 2 ≤ I52 0 73 - I52 0 72 ∧ I52 0 73 - I52 0 72 ≤ 14) ∧ (I52 0 72 ≤ I52 0 73) ∧ (I52 0 69 = I 0 69) ∧ (I 0 73 ≤ I52 0 73) ∧ (I 0 72 ≤ I52 0 72)) → gv_X (gr_E ws0 tb 99 (yX13_statement, cX13_statement, 5, (some .boolean)) kX13_statement) (gv_Q cX13_statement (some .boolean) (gr_sh ++ ext) (fun r h' => (∃ (I' : gr_I) (J' : gr_J), h' = gr_h I' J' ∧ gr_Inv I' ∧ gr_fr [1, 2, 3, 4, 5, 6, 42, 59, 64, 71, 72, 73, 74, 75, 76, 77, 78, 99, 101, 104, 106, 118, 119, 120, 122, 123] [1, 2, 3, 4, 5, 6, 7, 8, 9, 10, 11, 12, 13, 14, 15, 16, 17, 18, 19, 20, 21, 22, 23, 24, 25, 26, 27, 28, 29, 30, 31, 32, 33, 34, 35, 36, 37, 38, 39, 40, 41, 42, 43, 44, 45, 46, 47, 48, 49, 50, 51, 52, 53, 54, 55, 57, 60, 61, 62, 63, 64, 65, 66, 67, 68, 69, 70, 71, 72, 73, 74, 75] I I' ∧ gr_fj [1, 2, 3, 4, 5, 6, 42, 59, 64, 71, 72, 73, 74, 75, 76, 77, 78, 99, 101, 104, 106, 118, 119, 120, 122, 123] [1, 2, 3, 4, 5, 6, 7, 8, 9, 10, 11, 12, 13, 14, 15, 16, 17, 18, 19, 20, 21, 22, 23, 24, 25, 26, 27, 28, 29, 30, 31, 32, 33, 34, 35, 36, 37, 38, 39, 40, 41, 42, 43, 44, 45, 46, 47, 48, 49, 50, 51, 52, 53, 54, 55, 57, 60, 61, 62, 63, 64, 65, 66, 67, 68, 69, 70, 71, 72, 73, 74, 75] J J' ∧ gr_TM I' ∧ gr_VF I' ∧ gr_LN B I' ∧ (∃ z : Int, r = some (.inl z) ∧ 0 ≤ z ∧ z ≤ 1 ∧ (I' 0 71 = 5 ∨ I' 0 73 ≤ I' 0 69) ∧ (I' 0 72 ≤ I' 0 69) ∧ (I' 0 71 = 0 ∨ (I' 0 72 < I' 0 73 ∧ I' 0 72 < I' 0 69)) ∧ (I' 0 71 = 3 → 2 ≤ I' 0 73 - I' 0 72 ∧ I' 0 73 - I' 0 72 ≤ 14) ∧ (I' 0 72 ≤ I' 0 73) ∧ (I' 0 69 = I 0 69) ∧ (I 0 73 ≤ I' 0 73) ∧ (I 0 72 ≤ I' 0 72) ∧ (I' 0 59 - I' 0 72 ≤ I 0 59 - I 0 72) ∧ (I' 0 42 - I' 0 72 ≤ I 0 42 - I 0 72) ∧ (I' 0 64 - I' 0 72 ≤ I 0 64 - I 0 72) ∧ (I' 0 99 ≤ I' 0 72) ∧ (I 0 64 ≤ I' 0 64) ∧ (z = 0 ∨ I 0 72 < I' 0 72))))) (344, [], [.inl s0_54], gr_sh ++ ext, gr_h I52 J53) := by
            intro I52 J53 s0_54 hI52 FI52 FJ53 KTM_I52 KVF_I52 KLN_I52 m_54
            clear e0_42 e1_42 e2_42 e3_42 e4_42 e5_42 e6_42 e7_42 e8_42 f43 f44 f45 f46 f47 f48 f49 f50 f51 hv3_22_32 e0_32 e1_32 e2_32 e3_32 e4_32 e5_32 e6_32 e7_32 e8_32 f33 f34 f35 f36 f37 f38 f39 f40 f41 hv3_22 hs0_22 e0_22 e1_22 e2_22 e3_22 e4_22 e5_22 e6_22 e7_22 e8_22 f23 f24 f25 f26 f27 f28 f29 f30 f31 hs0_12 e0_12 e1_12 e2_12 e3_12 e4_12 e5_12 e6_12 e7_12 e8_12 f13 f14 f15 f16 f17 f18 f19 f20 f21
            obtain ⟨hs0_54, e0_54, e1_54, e2_54, e3_54, e4_54, e5_54, e6_54, e7_54, e8_54, e9_54, e10_54, e11_54, e12_54, e13_54⟩ := m_54
            have f55 := (show 0 ≤ I52 0 71 ∧ I52 0 71 ≤ 5 from (hI52 0 71).1)
            have f56 := (show 0 ≤ I52 0 72 ∧ I52 0 72 ≤ 1000 from (hI52 0 72).1)
            have f57 := (show 0 ≤ I52 0 73 ∧ I52 0 73 ≤ 1001 from (hI52 0 73).1)
            have f58 := (show 0 ≤ I52 0 69 ∧ I52 0 69 ≤ 1000 from (hI52 0 69).1)
            have f59 := (show 0 ≤ I52 0 64 ∧ I52 0 64 ≤ 2000 from (hI52 0 64).1)
            have f60 := (show 0 ≤ I52 0 99 ∧ I52 0 99 ≤ 1000 from (hI52 0 99).1)
            have f61 := (show 0 ≤ I52 0 59 ∧ I52 0 59 ≤ 2000 from (hI52 0 59).1)
            have f62 := (show 0 ≤ I52 0 42 ∧ I52 0 42 ≤ 2000 from (hI52 0 42).1)
            have f63 := (show (-1) ≤ I52 0 6 ∧ I52 0 6 ≤ 7 from (hI52 0 6).1)
            exact gv_zret hD rfl (by omega) ⟨I52, J53, rfl, hI52, FI52, FJ53, KTM_I52, KVF_I52, KLN_I52, ⟨_, rfl, by omega⟩⟩
          refine gv_run 1 true hD (pc' := 181) (lv' := [(0, .inr (.inr (some 0))), (1, .inr (.inl v1_12))]) (st' := [.inr (.inr (some 0))]) (h' := gr_h I10 J11) (C := (True ∧ True)) rfl ⟨trivial, trivial⟩ ?_
          obtain ⟨r64, h64, E64, P64⟩ := r_next (ws0 := ws0) (tb := tb) hws htb ext I10 J11 hI10   (by omega)
          obtain ⟨I65, J66, rfl, hI65, g64, k64, ⟨rfl, q64⟩⟩ := P64
          have FI65 := gr_frt FI10 g64 rfl rfl
          have FJ66 := gr_fjt FJ11 k64 rfl rfl
          have t67 := g64 0 69 rfl
          have t68 := g64 0 64 rfl
          have t69 := g64 0 99 rfl
          have t70 := g64 0 59 rfl
          have t71 := g64 0 42 rfl
          have t72 := g64 0 6 rfl
          have f73 := (show 0 ≤ I65 0 71 ∧ I65 0 71 ≤ 5 from (hI65 0 71).1)
          have f74 := (show 0 ≤ I65 0 72 ∧ I65 0 72 ≤ 1000 from (hI65 0 72).1)
          have f75 := (show 0 ≤ I65 0 73 ∧ I65 0 73 ≤ 1001 from (hI65 0 73).1)
          have f76 := (show 0 ≤ I65 0 69 ∧ I65 0 69 ≤ 1000 from (hI65 0 69).1)
          have f77 := (show 0 ≤ I65 0 64 ∧ I65 0 64 ≤ 2000 from (hI65 0 64).1)
          have f78 := (show 0 ≤ I65 0 99 ∧ I65 0 99 ≤ 1000 from (hI65 0 99).1)
          have f79 := (show 0 ≤ I65 0 59 ∧ I65 0 59 ≤ 2000 from (hI65 0 59).1)
          have f80 := (show 0 ≤ I65 0 42 ∧ I65 0 42 ≤ 2000 from (hI65 0 42).1)
          have f81 := (show (-1) ≤ I65 0 6 ∧ I65 0 6 ≤ 7 from (hI65 0 6).1)
          have KTM_I65 := gr_TM_fr KTM_I10 (fun k => g64 52 k rfl) (fun k => g64 53 k rfl) (fun k => g64 54 k rfl) (g64 0 64 rfl)
          have KVF_I65 := gr_VF_fr KVF_I10 (fun k => g64 14 k rfl) (fun k => g64 13 k rfl)
          have KLN_I65 := gr_LN_fr KLN_I10 (fun k => g64 19 k rfl) (by omega) (by omega)
          refine gv_callV hD rfl (As := []) (st := []) rfl (by decide) rfl rfl (gr_lV hws rfl) (Nat.le_of_ble_eq_true rfl) (gz_Ev_mono (d := 10) (by decide) E64) ?_
          show gv_X _ _ (184, [(0, .inr (.inr (some 0))), (1, .inr (.inl v1_12))], [], gr_sh ++ ext, gr_h I65 J66)
          refine gv_run 3 true hD (pc' := 189) (lv' := [(0, .inr (.inr (some 0))), (1, .inr (.inl v1_12))]) (st' := [.inr (.inl (J66 0 80)), .inr (.inl v1_12)]) (h' := gr_h I65 J66) (C := (((True ∧ True) ∧ True) ∧ True)) rfl ⟨⟨⟨trivial, trivial⟩, trivial⟩, trivial⟩ ?_
          rw [FJ66 0 80 rfl]
          have f82 := gw_cmp (v1_12) ((J 0 80))
          refine gv_run 1 true hD (pc' := 190) (lv' := [(0, .inr (.inr (some 0))), (1, .inr (.inl v1_12))]) (st' := [.inl ((lg_cmp (v1_12) ((J 0 80))).toInt)]) (h' := gr_h I65 J66) (C := (True ∧ True)) rfl ⟨trivial, trivial⟩ ?_
          refine gv_if_ne (t := 198) hD rfl rfl ⟨by omega, by omega⟩ (fun c83 => ?_) (fun c83 => ?_)
          · refine gv_run 3 true hD (pc' := 203) (lv' := [(0, .inr (.inr (some 0))), (1, .inr (.inl v1_12))]) (st' := [.inr (.inl (J66 0 81)), .inr (.inl v1_12)]) (h' := gr_h I65 J66) (C := (((True ∧ True) ∧ True) ∧ True)) rfl ⟨⟨⟨trivial, trivial⟩, trivial⟩, trivial⟩ ?_
            rw [FJ66 0 81 rfl]
            have f84 := gw_cmp (v1_12) ((J 0 81))
            refine gv_run 1 true hD (pc' := 204) (lv' := [(0, .inr (.inr (some 0))), (1, .inr (.inl v1_12))]) (st' := [.inl ((lg_cmp (v1_12) ((J 0 81))).toInt)]) (h' := gr_h I65 J66) (C := (True ∧ True)) rfl ⟨trivial, trivial⟩ ?_
            refine gv_if_ne (t := 212) hD rfl rfl ⟨by omega, by omega⟩ (fun c85 => ?_) (fun c85 => ?_)
            · refine gv_run 3 true hD (pc' := 217) (lv' := [(0, .inr (.inr (some 0))), (1, .inr (.inl v1_12))]) (st' := [.inr (.inl (J66 0 82)), .inr (.inl v1_12)]) (h' := gr_h I65 J66) (C := (((True ∧ True) ∧ True) ∧ True)) rfl ⟨⟨⟨trivial, trivial⟩, trivial⟩, trivial⟩ ?_
              rw [FJ66 0 82 rfl]
              have f86 := gw_cmp (v1_12) ((J 0 82))
              refine gv_run 1 true hD (pc' := 218) (lv' := [(0, .inr (.inr (some 0))), (1, .inr (.inl v1_12))]) (st' := [.inl ((lg_cmp (v1_12) ((J 0 82))).toInt)]) (h' := gr_h I65 J66) (C := (True ∧ True)) rfl ⟨trivial, trivial⟩ ?_
              refine gv_if_ne (t := 226) hD rfl rfl ⟨by omega, by omega⟩ (fun c87 => ?_) (fun c87 => ?_)
              · refine gv_run 3 true hD (pc' := 231) (lv' := [(0, .inr (.inr (some 0))), (1, .inr (.inl v1_12))]) (st' := [.inr (.inl (J66 0 83)), .inr (.inl v1_12)]) (h' := gr_h I65 J66) (C := (((True ∧ True) ∧ True) ∧ True)) rfl ⟨⟨⟨trivial, trivial⟩, trivial⟩, trivial⟩ ?_
                rw [FJ66 0 83 rfl]
                have f88 := gw_cmp (v1_12) ((J 0 83))
                refine gv_run 1 true hD (pc' := 232) (lv' := [(0, .inr (.inr (some 0))), (1, .inr (.inl v1_12))]) (st' := [.inl ((lg_cmp (v1_12) ((J 0 83))).toInt)]) (h' := gr_h I65 J66) (C := (True ∧ True)) rfl ⟨trivial, trivial⟩ ?_
                refine gv_if_ne (t := 240) hD rfl rfl ⟨by omega, by omega⟩ (fun c89 => ?_) (fun c89 => ?_)
                · refine gv_run 3 true hD (pc' := 245) (lv' := [(0, .inr (.inr (some 0))), (1, .inr (.inl v1_12))]) (st' := [.inr (.inl (J66 0 84)), .inr (.inl v1_12)]) (h' := gr_h I65 J66) (C := (((True ∧ True) ∧ True) ∧ True)) rfl ⟨⟨⟨trivial, trivial⟩, trivial⟩, trivial⟩ ?_
                  rw [FJ66 0 84 rfl]
                  have f90 := gw_cmp (v1_12) ((J 0 84))
                  refine gv_run 1 true hD (pc' := 246) (lv' := [(0, .inr (.inr (some 0))), (1, .inr (.inl v1_12))]) (st' := [.inl ((lg_cmp (v1_12) ((J 0 84))).toInt)]) (h' := gr_h I65 J66) (C := (True ∧ True)) rfl ⟨trivial, trivial⟩ ?_
                  refine gv_if_ne (t := 254) hD rfl rfl ⟨by omega, by omega⟩ (fun c91 => ?_) (fun c91 => ?_)
                  · refine gv_run 3 true hD (pc' := 259) (lv' := [(0, .inr (.inr (some 0))), (1, .inr (.inl v1_12))]) (st' := [.inr (.inl (J66 0 85)), .inr (.inl v1_12)]) (h' := gr_h I65 J66) (C := (((True ∧ True) ∧ True) ∧ True)) rfl ⟨⟨⟨trivial, trivial⟩, trivial⟩, trivial⟩ ?_
                    rw [FJ66 0 85 rfl]
                    have f92 := gw_cmp (v1_12) ((J 0 85))
                    refine gv_run 1 true hD (pc' := 260) (lv' := [(0, .inr (.inr (some 0))), (1, .inr (.inl v1_12))]) (st' := [.inl ((lg_cmp (v1_12) ((J 0 85))).toInt)]) (h' := gr_h I65 J66) (C := (True ∧ True)) rfl ⟨trivial, trivial⟩ ?_
                    refine gv_if_ne (t := 268) hD rfl rfl ⟨by omega, by omega⟩ (fun c93 => ?_) (fun c93 => ?_)
                    · refine gv_run 3 true hD (pc' := 273) (lv' := [(0, .inr (.inr (some 0))), (1, .inr (.inl v1_12))]) (st' := [.inr (.inl (J66 0 86)), .inr (.inl v1_12)]) (h' := gr_h I65 J66) (C := (((True ∧ True) ∧ True) ∧ True)) rfl ⟨⟨⟨trivial, trivial⟩, trivial⟩, trivial⟩ ?_
                      rw [FJ66 0 86 rfl]
                      have f94 := gw_cmp (v1_12) ((J 0 86))
                      refine gv_run 1 true hD (pc' := 274) (lv' := [(0, .inr (.inr (some 0))), (1, .inr (.inl v1_12))]) (st' := [.inl ((lg_cmp (v1_12) ((J 0 86))).toInt)]) (h' := gr_h I65 J66) (C := (True ∧ True)) rfl ⟨trivial, trivial⟩ ?_
                      refine gv_if_ne (t := 282) hD rfl rfl ⟨by omega, by omega⟩ (fun c95 => ?_) (fun c95 => ?_)
                      · refine gv_run 3 true hD (pc' := 287) (lv' := [(0, .inr (.inr (some 0))), (1, .inr (.inl v1_12))]) (st' := [.inr (.inl (J66 0 87)), .inr (.inl v1_12)]) (h' := gr_h I65 J66) (C := (((True ∧ True) ∧ True) ∧ True)) rfl ⟨⟨⟨trivial, trivial⟩, trivial⟩, trivial⟩ ?_
                        rw [FJ66 0 87 rfl]
                        have f96 := gw_cmp (v1_12) ((J 0 87))
                        refine gv_run 1 true hD (pc' := 288) (lv' := [(0, .inr (.inr (some 0))), (1, .inr (.inl v1_12))]) (st' := [.inl ((lg_cmp (v1_12) ((J 0 87))).toInt)]) (h' := gr_h I65 J66) (C := (True ∧ True)) rfl ⟨trivial, trivial⟩ ?_
                        refine gv_if_ne (t := 296) hD rfl rfl ⟨by omega, by omega⟩ (fun c97 => ?_) (fun c97 => ?_)
                        · refine gv_run 3 true hD (pc' := 301) (lv' := [(0, .inr (.inr (some 0))), (1, .inr (.inl v1_12))]) (st' := [.inr (.inl (J66 0 88)), .inr (.inl v1_12)]) (h' := gr_h I65 J66) (C := (((True ∧ True) ∧ True) ∧ True)) rfl ⟨⟨⟨trivial, trivial⟩, trivial⟩, trivial⟩ ?_
                          rw [FJ66 0 88 rfl]
                          have f98 := gw_cmp (v1_12) ((J 0 88))
                          refine gv_run 1 true hD (pc' := 302) (lv' := [(0, .inr (.inr (some 0))), (1, .inr (.inl v1_12))]) (st' := [.inl ((lg_cmp (v1_12) ((J 0 88))).toInt)]) (h' := gr_h I65 J66) (C := (True ∧ True)) rfl ⟨trivial, trivial⟩ ?_
                          refine gv_if_ne (t := 310) hD rfl rfl ⟨by omega, by omega⟩ (fun c99 => ?_) (fun c99 => ?_)
                          · refine gv_run 3 true hD (pc' := 315) (lv' := [(0, .inr (.inr (some 0))), (1, .inr (.inl v1_12))]) (st' := [.inr (.inl (J66 0 89)), .inr (.inl v1_12)]) (h' := gr_h I65 J66) (C := (((True ∧ True) ∧ True) ∧ True)) rfl ⟨⟨⟨trivial, trivial⟩, trivial⟩, trivial⟩ ?_
                            rw [FJ66 0 89 rfl]
                            have f100 := gw_cmp (v1_12) ((J 0 89))
                            refine gv_run 1 true hD (pc' := 316) (lv' := [(0, .inr (.inr (some 0))), (1, .inr (.inl v1_12))]) (st' := [.inl ((lg_cmp (v1_12) ((J 0 89))).toInt)]) (h' := gr_h I65 J66) (C := (True ∧ True)) rfl ⟨trivial, trivial⟩ ?_
                            refine gv_if_ne (t := 324) hD rfl rfl ⟨by omega, by omega⟩ (fun c101 => ?_) (fun c101 => ?_)
                            · refine gv_run 3 true hD (pc' := 329) (lv' := [(0, .inr (.inr (some 0))), (1, .inr (.inl v1_12))]) (st' := [.inr (.inl (J66 0 90)), .inr (.inl v1_12)]) (h' := gr_h I65 J66) (C := (((True ∧ True) ∧ True) ∧ True)) rfl ⟨⟨⟨trivial, trivial⟩, trivial⟩, trivial⟩ ?_
                              rw [FJ66 0 90 rfl]
                              have f102 := gw_cmp (v1_12) ((J 0 90))
                              refine gv_run 1 true hD (pc' := 330) (lv' := [(0, .inr (.inr (some 0))), (1, .inr (.inl v1_12))]) (st' := [.inl ((lg_cmp (v1_12) ((J 0 90))).toInt)]) (h' := gr_h I65 J66) (C := (True ∧ True)) rfl ⟨trivial, trivial⟩ ?_
                              refine gv_if_ne (t := 340) hD rfl rfl ⟨by omega, by omega⟩ (fun c103 => ?_) (fun c103 => ?_)
                              · refine gv_run 1 true hD (pc' := 341) (lv' := [(0, .inr (.inr (some 0))), (1, .inr (.inl v1_12))]) (st' := [.inr (.inr (some 0))]) (h' := gr_h I65 J66) (C := (True ∧ True)) rfl ⟨trivial, trivial⟩ ?_
                                obtain ⟨r104, h104, E104, P104⟩ := r_fact (ws0 := ws0) (tb := tb) hws htb ext I65 J66 hI65   (by omega) (by omega) (by omega) (by omega) (by omega)
                                obtain ⟨I105, J106, rfl, hI105, g104, k104, ⟨z104, rfl, q104⟩⟩ := P104
                                have FI105 := gr_frt FI65 g104 rfl rfl
                                have FJ106 := gr_fjt FJ66 k104 rfl rfl
                                have t107 := g104 0 69 rfl
                                have t108 := g104 0 64 rfl
                                have t109 := g104 0 99 rfl
                                have t110 := g104 0 59 rfl
                                have t111 := g104 0 42 rfl
                                have t112 := g104 0 6 rfl
                                have f113 := (show 0 ≤ I105 0 71 ∧ I105 0 71 ≤ 5 from (hI105 0 71).1)
                                have f114 := (show 0 ≤ I105 0 72 ∧ I105 0 72 ≤ 1000 from (hI105 0 72).1)
                                have f115 := (show 0 ≤ I105 0 73 ∧ I105 0 73 ≤ 1001 from (hI105 0 73).1)
                                have f116 := (show 0 ≤ I105 0 69 ∧ I105 0 69 ≤ 1000 from (hI105 0 69).1)
                                have f117 := (show 0 ≤ I105 0 64 ∧ I105 0 64 ≤ 2000 from (hI105 0 64).1)
                                have f118 := (show 0 ≤ I105 0 99 ∧ I105 0 99 ≤ 1000 from (hI105 0 99).1)
                                have f119 := (show 0 ≤ I105 0 59 ∧ I105 0 59 ≤ 2000 from (hI105 0 59).1)
                                have f120 := (show 0 ≤ I105 0 42 ∧ I105 0 42 ≤ 2000 from (hI105 0 42).1)
                                have f121 := (show (-1) ≤ I105 0 6 ∧ I105 0 6 ≤ 7 from (hI105 0 6).1)
                                have KTM_I105 := gr_TM_fr KTM_I65 (fun k => g104 52 k rfl) (fun k => g104 53 k rfl) (fun k => g104 54 k rfl) (g104 0 64 rfl)
                                have KVF_I105 := gr_VF_fr KVF_I65 (fun k => g104 14 k rfl) (fun k => g104 13 k rfl)
                                have KLN_I105 := gr_LN_fr KLN_I65 (fun k => g104 19 k rfl) (by omega) (by omega)
                                refine gv_callV hD rfl (As := []) (st := []) rfl (by decide) rfl rfl (gr_lV hws rfl) (Nat.le_of_ble_eq_true rfl) (gz_Ev_mono (d := 12) (by decide) E104) ?_
                                show gv_X _ _ (344, [(0, .inr (.inr (some 0))), (1, .inr (.inl v1_12))], [.inl z104], gr_sh ++ ext, gr_h I105 J106)
                                refine gv_pick [] rfl ?_
                                exact L344 I105 J106 z104 hI105 FI105 FJ106 KTM_I105 KVF_I105 KLN_I105 (by omega)
                              · refine gv_run 1 true hD (pc' := 334) (lv' := [(0, .inr (.inr (some 0))), (1, .inr (.inl v1_12))]) (st' := [.inr (.inr (some 0))]) (h' := gr_h I65 J66) (C := (True ∧ True)) rfl ⟨trivial, trivial⟩ ?_
                                obtain ⟨r122, h122, E122, P122⟩ := r_thing (ws0 := ws0) (tb := tb) hws htb ext I65 J66 hI65   (by omega) (by omega) (by omega) (by omega) (by omega)
                                obtain ⟨I123, J124, rfl, hI123, g122, k122, ⟨z122, rfl, q122⟩⟩ := P122
                                have FI123 := gr_frt FI65 g122 rfl rfl
                                have FJ124 := gr_fjt FJ66 k122 rfl rfl
                                have t125 := g122 0 69 rfl
                                have t126 := g122 0 64 rfl
                                have t127 := g122 0 99 rfl
                                have t128 := g122 0 59 rfl
                                have t129 := g122 0 42 rfl
                                have t130 := g122 0 6 rfl
                                have f131 := (show 0 ≤ I123 0 71 ∧ I123 0 71 ≤ 5 from (hI123 0 71).1)
                                have f132 := (show 0 ≤ I123 0 72 ∧ I123 0 72 ≤ 1000 from (hI123 0 72).1)
                                have f133 := (show 0 ≤ I123 0 73 ∧ I123 0 73 ≤ 1001 from (hI123 0 73).1)
                                have f134 := (show 0 ≤ I123 0 69 ∧ I123 0 69 ≤ 1000 from (hI123 0 69).1)
                                have f135 := (show 0 ≤ I123 0 64 ∧ I123 0 64 ≤ 2000 from (hI123 0 64).1)
                                have f136 := (show 0 ≤ I123 0 99 ∧ I123 0 99 ≤ 1000 from (hI123 0 99).1)
                                have f137 := (show 0 ≤ I123 0 59 ∧ I123 0 59 ≤ 2000 from (hI123 0 59).1)
                                have f138 := (show 0 ≤ I123 0 42 ∧ I123 0 42 ≤ 2000 from (hI123 0 42).1)
                                have f139 := (show (-1) ≤ I123 0 6 ∧ I123 0 6 ≤ 7 from (hI123 0 6).1)
                                have KTM_I123 := gr_TM_fr KTM_I65 (fun k => g122 52 k rfl) (fun k => g122 53 k rfl) (fun k => g122 54 k rfl) (g122 0 64 rfl)
                                have KVF_I123 := gr_VF_fr KVF_I65 (fun k => g122 14 k rfl) (fun k => g122 13 k rfl)
                                have KLN_I123 := gr_LN_fr KLN_I65 (fun k => g122 19 k rfl) (by omega) (by omega)
                                refine gv_callV hD rfl (As := []) (st := []) rfl (by decide) rfl rfl (gr_lV hws rfl) (Nat.le_of_ble_eq_true rfl) (gz_Ev_mono (d := 12) (by decide) E122) ?_
                                show gv_X _ _ (337, [(0, .inr (.inr (some 0))), (1, .inr (.inl v1_12))], [.inl z122], gr_sh ++ ext, gr_h I123 J124)
                                refine gv_run 1 true hD (pc' := 344) (lv' := [(0, .inr (.inr (some 0))), (1, .inr (.inl v1_12))]) (st' := [.inl z122]) (h' := gr_h I123 J124) (C := (True ∧ True)) rfl ⟨trivial, trivial⟩ ?_
                                refine gv_pick [] rfl ?_
                                exact L344 I123 J124 z122 hI123 FI123 FJ124 KTM_I123 KVF_I123 KLN_I123 (by omega)
                            · refine gv_run 1 true hD (pc' := 320) (lv' := [(0, .inr (.inr (some 0))), (1, .inr (.inl v1_12))]) (st' := [.inr (.inr (some 0))]) (h' := gr_h I65 J66) (C := (True ∧ True)) rfl ⟨trivial, trivial⟩ ?_
                              obtain ⟨r140, h140, E140, P140⟩ := r_mean (ws0 := ws0) (tb := tb) hws htb ext I65 J66 hI65   (by omega) (by omega) (by omega) (by omega) (by omega) (by omega) (by omega) KTM_I65
                              obtain ⟨I141, J142, rfl, hI141, g140, k140, KTM_I141, ⟨z140, rfl, q140⟩⟩ := P140
                              have FI141 := gr_frt FI65 g140 rfl rfl
                              have FJ142 := gr_fjt FJ66 k140 rfl rfl
                              have t143 := g140 0 69 rfl
                              have t144 := g140 0 59 rfl
                              have t145 := g140 0 42 rfl
                              have t146 := g140 0 6 rfl
                              have f147 := (show 0 ≤ I141 0 71 ∧ I141 0 71 ≤ 5 from (hI141 0 71).1)
                              have f148 := (show 0 ≤ I141 0 72 ∧ I141 0 72 ≤ 1000 from (hI141 0 72).1)
                              have f149 := (show 0 ≤ I141 0 73 ∧ I141 0 73 ≤ 1001 from (hI141 0 73).1)
                              have f150 := (show 0 ≤ I141 0 69 ∧ I141 0 69 ≤ 1000 from (hI141 0 69).1)
                              have f151 := (show 0 ≤ I141 0 64 ∧ I141 0 64 ≤ 2000 from (hI141 0 64).1)
                              have f152 := (show 0 ≤ I141 0 99 ∧ I141 0 99 ≤ 1000 from (hI141 0 99).1)
                              have f153 := (show 0 ≤ I141 0 59 ∧ I141 0 59 ≤ 2000 from (hI141 0 59).1)
                              have f154 := (show 0 ≤ I141 0 42 ∧ I141 0 42 ≤ 2000 from (hI141 0 42).1)
                              have f155 := (show (-1) ≤ I141 0 6 ∧ I141 0 6 ≤ 7 from (hI141 0 6).1)
                              have KVF_I141 := gr_VF_fr KVF_I65 (fun k => g140 14 k rfl) (fun k => g140 13 k rfl)
                              have KLN_I141 := gr_LN_fr KLN_I65 (fun k => g140 19 k rfl) (by omega) (by omega)
                              refine gv_callV hD rfl (As := []) (st := []) rfl (by decide) rfl rfl (gr_lV hws rfl) (Nat.le_of_ble_eq_true rfl) (gz_Ev_mono (d := 99) (by decide) E140) ?_
                              show gv_X _ _ (323, [(0, .inr (.inr (some 0))), (1, .inr (.inl v1_12))], [.inl z140], gr_sh ++ ext, gr_h I141 J142)
                              exact gv_zret hD rfl (by omega) ⟨I141, J142, rfl, hI141, FI141, FJ142, KTM_I141, KVF_I141, KLN_I141, ⟨_, rfl, by omega⟩⟩
                          · refine gv_run 1 true hD (pc' := 306) (lv' := [(0, .inr (.inr (some 0))), (1, .inr (.inl v1_12))]) (st' := [.inr (.inr (some 0))]) (h' := gr_h I65 J66) (C := (True ∧ True)) rfl ⟨trivial, trivial⟩ ?_
                            obtain ⟨r156, h156, E156, P156⟩ := r_lin (ws0 := ws0) (tb := tb) hws htb ext B (by omega) I65 J66 hI65   (by omega) (by omega) (by omega) (by omega) (by omega) (by omega) (by omega) KLN_I65
                            obtain ⟨I157, J158, rfl, hI157, g156, k156, KLN_I157, ⟨z156, rfl, q156⟩⟩ := P156
                            have FI157 := gr_frt FI65 g156 rfl rfl
                            have FJ158 := gr_fjt FJ66 k156 rfl rfl
                            have t159 := g156 0 69 rfl
                            have t160 := g156 0 64 rfl
                            have t161 := g156 0 99 rfl
                            have t162 := g156 0 42 rfl
                            have t163 := g156 0 6 rfl
                            have f164 := (show 0 ≤ I157 0 71 ∧ I157 0 71 ≤ 5 from (hI157 0 71).1)
                            have f165 := (show 0 ≤ I157 0 72 ∧ I157 0 72 ≤ 1000 from (hI157 0 72).1)
                            have f166 := (show 0 ≤ I157 0 73 ∧ I157 0 73 ≤ 1001 from (hI157 0 73).1)
                            have f167 := (show 0 ≤ I157 0 69 ∧ I157 0 69 ≤ 1000 from (hI157 0 69).1)
                            have f168 := (show 0 ≤ I157 0 64 ∧ I157 0 64 ≤ 2000 from (hI157 0 64).1)
                            have f169 := (show 0 ≤ I157 0 99 ∧ I157 0 99 ≤ 1000 from (hI157 0 99).1)
                            have f170 := (show 0 ≤ I157 0 59 ∧ I157 0 59 ≤ 2000 from (hI157 0 59).1)
                            have f171 := (show 0 ≤ I157 0 42 ∧ I157 0 42 ≤ 2000 from (hI157 0 42).1)
                            have f172 := (show (-1) ≤ I157 0 6 ∧ I157 0 6 ≤ 7 from (hI157 0 6).1)
                            have KTM_I157 := gr_TM_fr KTM_I65 (fun k => g156 52 k rfl) (fun k => g156 53 k rfl) (fun k => g156 54 k rfl) (g156 0 64 rfl)
                            have KVF_I157 := gr_VF_fr KVF_I65 (fun k => g156 14 k rfl) (fun k => g156 13 k rfl)
                            refine gv_callV hD rfl (As := []) (st := []) rfl (by decide) rfl rfl (gr_lV hws rfl) (Nat.le_of_ble_eq_true rfl) (gz_Ev_mono (d := 13) (by decide) E156) ?_
                            show gv_X _ _ (309, [(0, .inr (.inr (some 0))), (1, .inr (.inl v1_12))], [.inl z156], gr_sh ++ ext, gr_h I157 J158)
                            exact gv_zret hD rfl (by omega) ⟨I157, J158, rfl, hI157, FI157, FJ158, KTM_I157, KVF_I157, KLN_I157, ⟨_, rfl, by omega⟩⟩
                        · refine gv_run 1 true hD (pc' := 292) (lv' := [(0, .inr (.inr (some 0))), (1, .inr (.inl v1_12))]) (st' := [.inr (.inr (some 0))]) (h' := gr_h I65 J66) (C := (True ∧ True)) rfl ⟨trivial, trivial⟩ ?_
                          obtain ⟨r173, h173, E173, P173⟩ := r_wordOf (ws0 := ws0) (tb := tb) hws htb ext I65 J66 hI65   (by omega) (by omega) (by omega) (by omega) (by omega) (by omega) (by omega)
                          obtain ⟨I174, J175, rfl, hI174, g173, k173, ⟨z173, rfl, q173⟩⟩ := P173
                          have FI174 := gr_frt FI65 g173 rfl rfl
                          have FJ175 := gr_fjt FJ66 k173 rfl rfl
                          have t176 := g173 0 69 rfl
                          have t177 := g173 0 64 rfl
                          have t178 := g173 0 99 rfl
                          have t179 := g173 0 42 rfl
                          have t180 := g173 0 6 rfl
                          have f181 := (show 0 ≤ I174 0 71 ∧ I174 0 71 ≤ 5 from (hI174 0 71).1)
                          have f182 := (show 0 ≤ I174 0 72 ∧ I174 0 72 ≤ 1000 from (hI174 0 72).1)
                          have f183 := (show 0 ≤ I174 0 73 ∧ I174 0 73 ≤ 1001 from (hI174 0 73).1)
                          have f184 := (show 0 ≤ I174 0 69 ∧ I174 0 69 ≤ 1000 from (hI174 0 69).1)
                          have f185 := (show 0 ≤ I174 0 64 ∧ I174 0 64 ≤ 2000 from (hI174 0 64).1)
                          have f186 := (show 0 ≤ I174 0 99 ∧ I174 0 99 ≤ 1000 from (hI174 0 99).1)
                          have f187 := (show 0 ≤ I174 0 59 ∧ I174 0 59 ≤ 2000 from (hI174 0 59).1)
                          have f188 := (show 0 ≤ I174 0 42 ∧ I174 0 42 ≤ 2000 from (hI174 0 42).1)
                          have f189 := (show (-1) ≤ I174 0 6 ∧ I174 0 6 ≤ 7 from (hI174 0 6).1)
                          have KTM_I174 := gr_TM_fr KTM_I65 (fun k => g173 52 k rfl) (fun k => g173 53 k rfl) (fun k => g173 54 k rfl) (g173 0 64 rfl)
                          have KVF_I174 := gr_VF_fr KVF_I65 (fun k => g173 14 k rfl) (fun k => g173 13 k rfl)
                          have KLN_I174 := gr_LN_fr KLN_I65 (fun k => g173 19 k rfl) (by omega) (by omega)
                          refine gv_callV hD rfl (As := []) (st := []) rfl (by decide) rfl rfl (gr_lV hws rfl) (Nat.le_of_ble_eq_true rfl) (gz_Ev_mono (d := 12) (by decide) E173) ?_
                          show gv_X _ _ (295, [(0, .inr (.inr (some 0))), (1, .inr (.inl v1_12))], [.inl z173], gr_sh ++ ext, gr_h I174 J175)
                          exact gv_zret hD rfl (by omega) ⟨I174, J175, rfl, hI174, FI174, FJ175, KTM_I174, KVF_I174, KLN_I174, ⟨_, rfl, by omega⟩⟩
                      · refine gv_run 1 true hD (pc' := 278) (lv' := [(0, .inr (.inr (some 0))), (1, .inr (.inl v1_12))]) (st' := [.inr (.inr (some 0))]) (h' := gr_h I65 J66) (C := (True ∧ True)) rfl ⟨trivial, trivial⟩ ?_
                        obtain ⟨r190, h190, E190, P190⟩ := r_pattern (ws0 := ws0) (tb := tb) hws htb ext I65 J66 hI65   (by omega) (by omega) (by omega) (by omega) (by omega) (by omega) (by omega) (by omega)
                        obtain ⟨I191, J192, rfl, hI191, g190, k190, ⟨z190, rfl, q190⟩⟩ := P190
                        have FI191 := gr_frt FI65 g190 rfl rfl
                        have FJ192 := gr_fjt FJ66 k190 rfl rfl
                        have t193 := g190 0 69 rfl
                        have t194 := g190 0 64 rfl
                        have t195 := g190 0 99 rfl
                        have t196 := g190 0 6 rfl
                        have f197 := (show 0 ≤ I191 0 71 ∧ I191 0 71 ≤ 5 from (hI191 0 71).1)
                        have f198 := (show 0 ≤ I191 0 72 ∧ I191 0 72 ≤ 1000 from (hI191 0 72).1)
                        have f199 := (show 0 ≤ I191 0 73 ∧ I191 0 73 ≤ 1001 from (hI191 0 73).1)
                        have f200 := (show 0 ≤ I191 0 69 ∧ I191 0 69 ≤ 1000 from (hI191 0 69).1)
                        have f201 := (show 0 ≤ I191 0 64 ∧ I191 0 64 ≤ 2000 from (hI191 0 64).1)
                        have f202 := (show 0 ≤ I191 0 99 ∧ I191 0 99 ≤ 1000 from (hI191 0 99).1)
                        have f203 := (show 0 ≤ I191 0 59 ∧ I191 0 59 ≤ 2000 from (hI191 0 59).1)
                        have f204 := (show 0 ≤ I191 0 42 ∧ I191 0 42 ≤ 2000 from (hI191 0 42).1)
                        have f205 := (show (-1) ≤ I191 0 6 ∧ I191 0 6 ≤ 7 from (hI191 0 6).1)
                        have KTM_I191 := gr_TM_fr KTM_I65 (fun k => g190 52 k rfl) (fun k => g190 53 k rfl) (fun k => g190 54 k rfl) (g190 0 64 rfl)
                        have KVF_I191 := gr_VF_fr KVF_I65 (fun k => g190 14 k rfl) (fun k => g190 13 k rfl)
                        have KLN_I191 := gr_LN_fr KLN_I65 (fun k => g190 19 k rfl) (by omega) (by omega)
                        refine gv_callV hD rfl (As := []) (st := []) rfl (by decide) rfl rfl (gr_lV hws rfl) (Nat.le_of_ble_eq_true rfl) (gz_Ev_mono (d := 12) (by decide) E190) ?_
                        show gv_X _ _ (281, [(0, .inr (.inr (some 0))), (1, .inr (.inl v1_12))], [.inl z190], gr_sh ++ ext, gr_h I191 J192)
                        exact gv_zret hD rfl (by omega) ⟨I191, J192, rfl, hI191, FI191, FJ192, KTM_I191, KVF_I191, KLN_I191, ⟨_, rfl, by omega⟩⟩
                    · refine gv_run 1 true hD (pc' := 264) (lv' := [(0, .inr (.inr (some 0))), (1, .inr (.inl v1_12))]) (st' := [.inr (.inr (some 0))]) (h' := gr_h I65 J66) (C := (True ∧ True)) rfl ⟨trivial, trivial⟩ ?_
                      obtain ⟨r206, h206, E206, P206⟩ := r_sound (ws0 := ws0) (tb := tb) hws htb ext I65 J66 hI65   (by omega) (by omega) (by omega) (by omega) (by omega) (by omega) (by omega)
                      obtain ⟨I207, J208, rfl, hI207, g206, k206, ⟨z206, rfl, q206⟩⟩ := P206
                      have FI207 := gr_frt FI65 g206 rfl rfl
                      have FJ208 := gr_fjt FJ66 k206 rfl rfl
                      have t209 := g206 0 69 rfl
                      have t210 := g206 0 64 rfl
                      have t211 := g206 0 99 rfl
                      have t212 := g206 0 42 rfl
                      have t213 := g206 0 6 rfl
                      have f214 := (show 0 ≤ I207 0 71 ∧ I207 0 71 ≤ 5 from (hI207 0 71).1)
                      have f215 := (show 0 ≤ I207 0 72 ∧ I207 0 72 ≤ 1000 from (hI207 0 72).1)
                      have f216 := (show 0 ≤ I207 0 73 ∧ I207 0 73 ≤ 1001 from (hI207 0 73).1)
                      have f217 := (show 0 ≤ I207 0 69 ∧ I207 0 69 ≤ 1000 from (hI207 0 69).1)
                      have f218 := (show 0 ≤ I207 0 64 ∧ I207 0 64 ≤ 2000 from (hI207 0 64).1)
                      have f219 := (show 0 ≤ I207 0 99 ∧ I207 0 99 ≤ 1000 from (hI207 0 99).1)
                      have f220 := (show 0 ≤ I207 0 59 ∧ I207 0 59 ≤ 2000 from (hI207 0 59).1)
                      have f221 := (show 0 ≤ I207 0 42 ∧ I207 0 42 ≤ 2000 from (hI207 0 42).1)
                      have f222 := (show (-1) ≤ I207 0 6 ∧ I207 0 6 ≤ 7 from (hI207 0 6).1)
                      have KTM_I207 := gr_TM_fr KTM_I65 (fun k => g206 52 k rfl) (fun k => g206 53 k rfl) (fun k => g206 54 k rfl) (g206 0 64 rfl)
                      have KVF_I207 := gr_VF_fr KVF_I65 (fun k => g206 14 k rfl) (fun k => g206 13 k rfl)
                      have KLN_I207 := gr_LN_fr KLN_I65 (fun k => g206 19 k rfl) (by omega) (by omega)
                      refine gv_callV hD rfl (As := []) (st := []) rfl (by decide) rfl rfl (gr_lV hws rfl) (Nat.le_of_ble_eq_true rfl) (gz_Ev_mono (d := 13) (by decide) E206) ?_
                      show gv_X _ _ (267, [(0, .inr (.inr (some 0))), (1, .inr (.inl v1_12))], [.inl z206], gr_sh ++ ext, gr_h I207 J208)
                      exact gv_zret hD rfl (by omega) ⟨I207, J208, rfl, hI207, FI207, FJ208, KTM_I207, KVF_I207, KLN_I207, ⟨_, rfl, by omega⟩⟩
                  · refine gv_run 1 true hD (pc' := 250) (lv' := [(0, .inr (.inr (some 0))), (1, .inr (.inl v1_12))]) (st' := [.inr (.inr (some 0))]) (h' := gr_h I65 J66) (C := (True ∧ True)) rfl ⟨trivial, trivial⟩ ?_
                    obtain ⟨r223, h223, E223, P223⟩ := r_lettersOf (ws0 := ws0) (tb := tb) hws htb ext I65 J66 hI65   (by omega) (by omega) (by omega) (by omega) (by omega) (by omega)
                    obtain ⟨I224, J225, rfl, hI224, g223, k223, ⟨z223, rfl, q223⟩⟩ := P223
                    have FI224 := gr_frt FI65 g223 rfl rfl
                    have FJ225 := gr_fjt FJ66 k223 rfl rfl
                    have t226 := g223 0 69 rfl
                    have t227 := g223 0 64 rfl
                    have t228 := g223 0 99 rfl
                    have t229 := g223 0 59 rfl
                    have t230 := g223 0 42 rfl
                    have t231 := g223 0 6 rfl
                    have f232 := (show 0 ≤ I224 0 71 ∧ I224 0 71 ≤ 5 from (hI224 0 71).1)
                    have f233 := (show 0 ≤ I224 0 72 ∧ I224 0 72 ≤ 1000 from (hI224 0 72).1)
                    have f234 := (show 0 ≤ I224 0 73 ∧ I224 0 73 ≤ 1001 from (hI224 0 73).1)
                    have f235 := (show 0 ≤ I224 0 69 ∧ I224 0 69 ≤ 1000 from (hI224 0 69).1)
                    have f236 := (show 0 ≤ I224 0 64 ∧ I224 0 64 ≤ 2000 from (hI224 0 64).1)
                    have f237 := (show 0 ≤ I224 0 99 ∧ I224 0 99 ≤ 1000 from (hI224 0 99).1)
                    have f238 := (show 0 ≤ I224 0 59 ∧ I224 0 59 ≤ 2000 from (hI224 0 59).1)
                    have f239 := (show 0 ≤ I224 0 42 ∧ I224 0 42 ≤ 2000 from (hI224 0 42).1)
                    have f240 := (show (-1) ≤ I224 0 6 ∧ I224 0 6 ≤ 7 from (hI224 0 6).1)
                    have KTM_I224 := gr_TM_fr KTM_I65 (fun k => g223 52 k rfl) (fun k => g223 53 k rfl) (fun k => g223 54 k rfl) (g223 0 64 rfl)
                    have KVF_I224 := gr_VF_fr KVF_I65 (fun k => g223 14 k rfl) (fun k => g223 13 k rfl)
                    have KLN_I224 := gr_LN_fr KLN_I65 (fun k => g223 19 k rfl) (by omega) (by omega)
                    refine gv_callV hD rfl (As := []) (st := []) rfl (by decide) rfl rfl (gr_lV hws rfl) (Nat.le_of_ble_eq_true rfl) (gz_Ev_mono (d := 12) (by decide) E223) ?_
                    show gv_X _ _ (253, [(0, .inr (.inr (some 0))), (1, .inr (.inl v1_12))], [.inl z223], gr_sh ++ ext, gr_h I224 J225)
                    exact gv_zret hD rfl (by omega) ⟨I224, J225, rfl, hI224, FI224, FJ225, KTM_I224, KVF_I224, KLN_I224, ⟨_, rfl, by omega⟩⟩
                · refine gv_run 1 true hD (pc' := 236) (lv' := [(0, .inr (.inr (some 0))), (1, .inr (.inl v1_12))]) (st' := [.inr (.inr (some 0))]) (h' := gr_h I65 J66) (C := (True ∧ True)) rfl ⟨trivial, trivial⟩ ?_
                  obtain ⟨r241, h241, E241, P241⟩ := r_feature (ws0 := ws0) (tb := tb) hws htb ext I65 J66 hI65   (by omega) (by omega) (by omega) (by omega) (by omega) (by omega) KVF_I65
                  obtain ⟨I242, J243, rfl, hI242, g241, k241, KVF_I242, ⟨z241, rfl, q241⟩⟩ := P241
                  have FI242 := gr_frt FI65 g241 rfl rfl
                  have FJ243 := gr_fjt FJ66 k241 rfl rfl
                  have t244 := g241 0 69 rfl
                  have t245 := g241 0 64 rfl
                  have t246 := g241 0 99 rfl
                  have t247 := g241 0 59 rfl
                  have t248 := g241 0 42 rfl
                  have t249 := g241 0 6 rfl
                  have f250 := (show 0 ≤ I242 0 71 ∧ I242 0 71 ≤ 5 from (hI242 0 71).1)
                  have f251 := (show 0 ≤ I242 0 72 ∧ I242 0 72 ≤ 1000 from (hI242 0 72).1)
                  have f252 := (show 0 ≤ I242 0 73 ∧ I242 0 73 ≤ 1001 from (hI242 0 73).1)
                  have f253 := (show 0 ≤ I242 0 69 ∧ I242 0 69 ≤ 1000 from (hI242 0 69).1)
                  have f254 := (show 0 ≤ I242 0 64 ∧ I242 0 64 ≤ 2000 from (hI242 0 64).1)
                  have f255 := (show 0 ≤ I242 0 99 ∧ I242 0 99 ≤ 1000 from (hI242 0 99).1)
                  have f256 := (show 0 ≤ I242 0 59 ∧ I242 0 59 ≤ 2000 from (hI242 0 59).1)
                  have f257 := (show 0 ≤ I242 0 42 ∧ I242 0 42 ≤ 2000 from (hI242 0 42).1)
                  have f258 := (show (-1) ≤ I242 0 6 ∧ I242 0 6 ≤ 7 from (hI242 0 6).1)
                  have KTM_I242 := gr_TM_fr KTM_I65 (fun k => g241 52 k rfl) (fun k => g241 53 k rfl) (fun k => g241 54 k rfl) (g241 0 64 rfl)
                  have KLN_I242 := gr_LN_fr KLN_I65 (fun k => g241 19 k rfl) (by omega) (by omega)
                  refine gv_callV hD rfl (As := []) (st := []) rfl (by decide) rfl rfl (gr_lV hws rfl) (Nat.le_of_ble_eq_true rfl) (gz_Ev_mono (d := 12) (by decide) E241) ?_
                  show gv_X _ _ (239, [(0, .inr (.inr (some 0))), (1, .inr (.inl v1_12))], [.inl z241], gr_sh ++ ext, gr_h I242 J243)
                  exact gv_zret hD rfl (by omega) ⟨I242, J243, rfl, hI242, FI242, FJ243, KTM_I242, KVF_I242, KLN_I242, ⟨_, rfl, by omega⟩⟩
              · refine gv_run 1 true hD (pc' := 222) (lv' := [(0, .inr (.inr (some 0))), (1, .inr (.inl v1_12))]) (st' := [.inr (.inr (some 0))]) (h' := gr_h I65 J66) (C := (True ∧ True)) rfl ⟨trivial, trivial⟩ ?_
                obtain ⟨r259, h259, E259, P259⟩ := r_fun (ws0 := ws0) (tb := tb) hws htb ext I65 J66 hI65   (by omega) (by omega) (by omega) (by omega) (by omega)
                obtain ⟨I260, J261, rfl, hI260, g259, k259, ⟨z259, rfl, q259⟩⟩ := P259
                have FI260 := gr_frt FI65 g259 rfl rfl
                have FJ261 := gr_fjt FJ66 k259 rfl rfl
                have t262 := g259 0 69 rfl
                have t263 := g259 0 64 rfl
                have t264 := g259 0 99 rfl
                have t265 := g259 0 59 rfl
                have t266 := g259 0 42 rfl
                have t267 := g259 0 6 rfl
                have f268 := (show 0 ≤ I260 0 71 ∧ I260 0 71 ≤ 5 from (hI260 0 71).1)
                have f269 := (show 0 ≤ I260 0 72 ∧ I260 0 72 ≤ 1000 from (hI260 0 72).1)
                have f270 := (show 0 ≤ I260 0 73 ∧ I260 0 73 ≤ 1001 from (hI260 0 73).1)
                have f271 := (show 0 ≤ I260 0 69 ∧ I260 0 69 ≤ 1000 from (hI260 0 69).1)
                have f272 := (show 0 ≤ I260 0 64 ∧ I260 0 64 ≤ 2000 from (hI260 0 64).1)
                have f273 := (show 0 ≤ I260 0 99 ∧ I260 0 99 ≤ 1000 from (hI260 0 99).1)
                have f274 := (show 0 ≤ I260 0 59 ∧ I260 0 59 ≤ 2000 from (hI260 0 59).1)
                have f275 := (show 0 ≤ I260 0 42 ∧ I260 0 42 ≤ 2000 from (hI260 0 42).1)
                have f276 := (show (-1) ≤ I260 0 6 ∧ I260 0 6 ≤ 7 from (hI260 0 6).1)
                have KTM_I260 := gr_TM_fr KTM_I65 (fun k => g259 52 k rfl) (fun k => g259 53 k rfl) (fun k => g259 54 k rfl) (g259 0 64 rfl)
                have KVF_I260 := gr_VF_fr KVF_I65 (fun k => g259 14 k rfl) (fun k => g259 13 k rfl)
                have KLN_I260 := gr_LN_fr KLN_I65 (fun k => g259 19 k rfl) (by omega) (by omega)
                refine gv_callV hD rfl (As := []) (st := []) rfl (by decide) rfl rfl (gr_lV hws rfl) (Nat.le_of_ble_eq_true rfl) (gz_Ev_mono (d := 12) (by decide) E259) ?_
                show gv_X _ _ (225, [(0, .inr (.inr (some 0))), (1, .inr (.inl v1_12))], [.inl z259], gr_sh ++ ext, gr_h I260 J261)
                exact gv_zret hD rfl (by omega) ⟨I260, J261, rfl, hI260, FI260, FJ261, KTM_I260, KVF_I260, KLN_I260, ⟨_, rfl, by omega⟩⟩
            · refine gv_run 1 true hD (pc' := 208) (lv' := [(0, .inr (.inr (some 0))), (1, .inr (.inl v1_12))]) (st' := [.inr (.inr (some 0))]) (h' := gr_h I65 J66) (C := (True ∧ True)) rfl ⟨trivial, trivial⟩ ?_
              obtain ⟨r277, h277, E277, P277⟩ := r_kind (ws0 := ws0) (tb := tb) hws htb ext I65 J66 hI65   (by omega) (by omega) (by omega) (by omega) (by omega)
              obtain ⟨I278, J279, rfl, hI278, g277, k277, ⟨z277, rfl, q277⟩⟩ := P277
              have FI278 := gr_frt FI65 g277 rfl rfl
              have FJ279 := gr_fjt FJ66 k277 rfl rfl
              have t280 := g277 0 69 rfl
              have t281 := g277 0 64 rfl
              have t282 := g277 0 99 rfl
              have t283 := g277 0 59 rfl
              have t284 := g277 0 42 rfl
              have t285 := g277 0 6 rfl
              have f286 := (show 0 ≤ I278 0 71 ∧ I278 0 71 ≤ 5 from (hI278 0 71).1)
              have f287 := (show 0 ≤ I278 0 72 ∧ I278 0 72 ≤ 1000 from (hI278 0 72).1)
              have f288 := (show 0 ≤ I278 0 73 ∧ I278 0 73 ≤ 1001 from (hI278 0 73).1)
              have f289 := (show 0 ≤ I278 0 69 ∧ I278 0 69 ≤ 1000 from (hI278 0 69).1)
              have f290 := (show 0 ≤ I278 0 64 ∧ I278 0 64 ≤ 2000 from (hI278 0 64).1)
              have f291 := (show 0 ≤ I278 0 99 ∧ I278 0 99 ≤ 1000 from (hI278 0 99).1)
              have f292 := (show 0 ≤ I278 0 59 ∧ I278 0 59 ≤ 2000 from (hI278 0 59).1)
              have f293 := (show 0 ≤ I278 0 42 ∧ I278 0 42 ≤ 2000 from (hI278 0 42).1)
              have f294 := (show (-1) ≤ I278 0 6 ∧ I278 0 6 ≤ 7 from (hI278 0 6).1)
              have KTM_I278 := gr_TM_fr KTM_I65 (fun k => g277 52 k rfl) (fun k => g277 53 k rfl) (fun k => g277 54 k rfl) (g277 0 64 rfl)
              have KVF_I278 := gr_VF_fr KVF_I65 (fun k => g277 14 k rfl) (fun k => g277 13 k rfl)
              have KLN_I278 := gr_LN_fr KLN_I65 (fun k => g277 19 k rfl) (by omega) (by omega)
              refine gv_callV hD rfl (As := []) (st := []) rfl (by decide) rfl rfl (gr_lV hws rfl) (Nat.le_of_ble_eq_true rfl) (gz_Ev_mono (d := 12) (by decide) E277) ?_
              show gv_X _ _ (211, [(0, .inr (.inr (some 0))), (1, .inr (.inl v1_12))], [.inl z277], gr_sh ++ ext, gr_h I278 J279)
              exact gv_zret hD rfl (by omega) ⟨I278, J279, rfl, hI278, FI278, FJ279, KTM_I278, KVF_I278, KLN_I278, ⟨_, rfl, by omega⟩⟩
          · refine gv_run 1 true hD (pc' := 194) (lv' := [(0, .inr (.inr (some 0))), (1, .inr (.inl v1_12))]) (st' := [.inr (.inr (some 0))]) (h' := gr_h I65 J66) (C := (True ∧ True)) rfl ⟨trivial, trivial⟩ ?_
            obtain ⟨r295, h295, E295, P295⟩ := r_tongue (ws0 := ws0) (tb := tb) hws htb ext I65 J66 hI65   (by omega) (by omega) (by omega) (by omega) (by omega)
            obtain ⟨I296, J297, rfl, hI296, g295, k295, ⟨z295, rfl, q295⟩⟩ := P295
            have FI296 := gr_frt FI65 g295 rfl rfl
            have FJ297 := gr_fjt FJ66 k295 rfl rfl
            have t298 := g295 0 69 rfl
            have t299 := g295 0 64 rfl
            have t300 := g295 0 99 rfl
            have t301 := g295 0 59 rfl
            have t302 := g295 0 42 rfl
            have f303 := (show 0 ≤ I296 0 71 ∧ I296 0 71 ≤ 5 from (hI296 0 71).1)
            have f304 := (show 0 ≤ I296 0 72 ∧ I296 0 72 ≤ 1000 from (hI296 0 72).1)
            have f305 := (show 0 ≤ I296 0 73 ∧ I296 0 73 ≤ 1001 from (hI296 0 73).1)
            have f306 := (show 0 ≤ I296 0 69 ∧ I296 0 69 ≤ 1000 from (hI296 0 69).1)
            have f307 := (show 0 ≤ I296 0 64 ∧ I296 0 64 ≤ 2000 from (hI296 0 64).1)
            have f308 := (show 0 ≤ I296 0 99 ∧ I296 0 99 ≤ 1000 from (hI296 0 99).1)
            have f309 := (show 0 ≤ I296 0 59 ∧ I296 0 59 ≤ 2000 from (hI296 0 59).1)
            have f310 := (show 0 ≤ I296 0 42 ∧ I296 0 42 ≤ 2000 from (hI296 0 42).1)
            have f311 := (show (-1) ≤ I296 0 6 ∧ I296 0 6 ≤ 7 from (hI296 0 6).1)
            have KTM_I296 := gr_TM_fr KTM_I65 (fun k => g295 52 k rfl) (fun k => g295 53 k rfl) (fun k => g295 54 k rfl) (g295 0 64 rfl)
            have KVF_I296 := gr_VF_fr KVF_I65 (fun k => g295 14 k rfl) (fun k => g295 13 k rfl)
            have KLN_I296 := gr_LN_fr KLN_I65 (fun k => g295 19 k rfl) (by omega) (by omega)
            refine gv_callV hD rfl (As := []) (st := []) rfl (by decide) rfl rfl (gr_lV hws rfl) (Nat.le_of_ble_eq_true rfl) (gz_Ev_mono (d := 12) (by decide) E295) ?_
            show gv_X _ _ (197, [(0, .inr (.inr (some 0))), (1, .inr (.inl v1_12))], [.inl z295], gr_sh ++ ext, gr_h I296 J297)
            exact gv_zret hD rfl (by omega) ⟨I296, J297, rfl, hI296, FI296, FJ297, KTM_I296, KVF_I296, KLN_I296, ⟨_, rfl, by omega⟩⟩
        refine gv_run 1 true hD (pc' := 164) (lv' := [(0, .inr (.inr (some 0))), (1, .inr (.inl v1_12)), (3, .inl v3_22)]) (st' := [.inl v3_22]) (h' := gr_h I10 J11) (C := (True ∧ True)) rfl ⟨trivial, trivial⟩ ?_
        refine gv_if_eq (t := 180) hD rfl rfl ⟨by omega, by omega⟩ (fun c312 => ?_) (fun c312 => ?_)
        · refine gv_pick [0, 1] rfl ?_
          exact L180 (by omega)
        · have f313 := (show (-1) ≤ I10 0 6 ∧ I10 0 6 ≤ 7 from (hI10 0 6).1)
          refine gv_run 2 true hD (pc' := 171) (lv' := [(0, .inr (.inr (some 0))), (1, .inr (.inl v1_12)), (3, .inl v3_22)]) (st' := [.inl (I10 0 6)]) (h' := gr_h I10 J11) (C := ((True ∧ True) ∧ True)) rfl ⟨⟨trivial, trivial⟩, trivial⟩ ?_
          refine gv_if_ge (t := 180) hD rfl rfl ⟨by omega, by omega⟩ (fun c314 => ?_) (fun c314 => ?_)
          · refine gv_pick [0, 1] rfl ?_
            exact L180 (by omega)
          · refine gv_run 2 true hD (pc' := 176) (lv' := [(0, .inr (.inr (some 0))), (1, .inr (.inl v1_12)), (3, .inl v3_22)]) (st' := [.inl 3, .inr (.inr (some 0))]) (h' := gr_h I10 J11) (C := ((True ∧ True) ∧ True)) rfl ⟨⟨trivial, trivial⟩, trivial⟩ ?_
            obtain ⟨r315, h315, E315, P315⟩ := r_no_ (ws0 := ws0) (tb := tb) hws htb ext I10 J11 hI10 3 ⟨by omega, by omega⟩ 
            obtain ⟨I316, J317, rfl, hI316, g315, k315, ⟨z315, rfl, q315⟩⟩ := P315
            have FI316 := gr_frt FI10 g315 rfl rfl
            have FJ317 := gr_fjt FJ11 k315 rfl rfl
            have t318 := g315 0 71 rfl
            have t319 := g315 0 72 rfl
            have t320 := g315 0 73 rfl
            have t321 := g315 0 69 rfl
            have t322 := g315 0 64 rfl
            have t323 := g315 0 99 rfl
            have t324 := g315 0 59 rfl
            have t325 := g315 0 42 rfl
            have t326 := g315 0 6 rfl
            have f327 := (show 0 ≤ I316 0 71 ∧ I316 0 71 ≤ 5 from (hI316 0 71).1)
            have f328 := (show 0 ≤ I316 0 72 ∧ I316 0 72 ≤ 1000 from (hI316 0 72).1)
            have f329 := (show 0 ≤ I316 0 73 ∧ I316 0 73 ≤ 1001 from (hI316 0 73).1)
            have f330 := (show 0 ≤ I316 0 69 ∧ I316 0 69 ≤ 1000 from (hI316 0 69).1)
            have f331 := (show 0 ≤ I316 0 64 ∧ I316 0 64 ≤ 2000 from (hI316 0 64).1)
            have f332 := (show 0 ≤ I316 0 99 ∧ I316 0 99 ≤ 1000 from (hI316 0 99).1)
            have f333 := (show 0 ≤ I316 0 59 ∧ I316 0 59 ≤ 2000 from (hI316 0 59).1)
            have f334 := (show 0 ≤ I316 0 42 ∧ I316 0 42 ≤ 2000 from (hI316 0 42).1)
            have f335 := (show (-1) ≤ I316 0 6 ∧ I316 0 6 ≤ 7 from (hI316 0 6).1)
            have KTM_I316 := gr_TM_fr KTM_I10 (fun k => g315 52 k rfl) (fun k => g315 53 k rfl) (fun k => g315 54 k rfl) (g315 0 64 rfl)
            have KVF_I316 := gr_VF_fr KVF_I10 (fun k => g315 14 k rfl) (fun k => g315 13 k rfl)
            have KLN_I316 := gr_LN_fr KLN_I10 (fun k => g315 19 k rfl) (by omega) (by omega)
            refine gv_callV hD rfl (As := [.inl 3]) (st := []) rfl (by decide) rfl rfl (gr_lV hws rfl) (Nat.le_of_ble_eq_true rfl) (gz_Ev_mono (d := 2) (by decide) E315) ?_
            show gv_X _ _ (179, [(0, .inr (.inr (some 0))), (1, .inr (.inl v1_12)), (3, .inl v3_22)], [.inl z315], gr_sh ++ ext, gr_h I316 J317)
            exact gv_zret hD rfl (by omega) ⟨I316, J317, rfl, hI316, FI316, FJ317, KTM_I316, KVF_I316, KLN_I316, ⟨_, rfl, by omega⟩⟩
      refine gv_run 2 true hD (pc' := 149) (lv' := [(4, .inl s0_22), (0, .inr (.inr (some 0))), (1, .inr (.inl v1_12)), (3, .inl v3_22)]) (st' := [.inl v3_22]) (h' := gr_h I10 J11) (C := ((True ∧ True) ∧ True)) rfl ⟨⟨trivial, trivial⟩, trivial⟩ ?_
      refine gv_if_ne (t := 163) hD rfl rfl ⟨by omega, by omega⟩ (fun c336 => ?_) (fun c336 => ?_)
      · refine gv_pick [1, 2, 3] rfl ?_
        exact L163 (by omega)
      · refine gv_run 1 true hD (pc' := 154) (lv' := [(4, .inl s0_22), (0, .inr (.inr (some 0))), (1, .inr (.inl v1_12)), (3, .inl v3_22)]) (st' := [.inl s0_22]) (h' := gr_h I10 J11) (C := (True ∧ True)) rfl ⟨trivial, trivial⟩ ?_
        refine gv_if_ne (t := 163) hD rfl rfl ⟨by omega, by omega⟩ (fun c337 => ?_) (fun c337 => ?_)
        · refine gv_pick [1, 2, 3] rfl ?_
          exact L163 (by omega)
        · refine gv_run 2 true hD (pc' := 159) (lv' := [(4, .inl s0_22), (0, .inr (.inr (some 0))), (1, .inr (.inl v1_12)), (3, .inl v3_22)]) (st' := [.inl 1, .inr (.inr (some 0))]) (h' := gr_h I10 J11) (C := ((True ∧ True) ∧ True)) rfl ⟨⟨trivial, trivial⟩, trivial⟩ ?_
          obtain ⟨r338, h338, E338, P338⟩ := r_no_ (ws0 := ws0) (tb := tb) hws htb ext I10 J11 hI10 1 ⟨by omega, by omega⟩ 
          obtain ⟨I339, J340, rfl, hI339, g338, k338, ⟨z338, rfl, q338⟩⟩ := P338
          have FI339 := gr_frt FI10 g338 rfl rfl
          have FJ340 := gr_fjt FJ11 k338 rfl rfl
          have t341 := g338 0 71 rfl
          have t342 := g338 0 72 rfl
          have t343 := g338 0 73 rfl
          have t344 := g338 0 69 rfl
          have t345 := g338 0 64 rfl
          have t346 := g338 0 99 rfl
          have t347 := g338 0 59 rfl
          have t348 := g338 0 42 rfl
          have t349 := g338 0 6 rfl
          have f350 := (show 0 ≤ I339 0 71 ∧ I339 0 71 ≤ 5 from (hI339 0 71).1)
          have f351 := (show 0 ≤ I339 0 72 ∧ I339 0 72 ≤ 1000 from (hI339 0 72).1)
          have f352 := (show 0 ≤ I339 0 73 ∧ I339 0 73 ≤ 1001 from (hI339 0 73).1)
          have f353 := (show 0 ≤ I339 0 69 ∧ I339 0 69 ≤ 1000 from (hI339 0 69).1)
          have f354 := (show 0 ≤ I339 0 64 ∧ I339 0 64 ≤ 2000 from (hI339 0 64).1)
          have f355 := (show 0 ≤ I339 0 99 ∧ I339 0 99 ≤ 1000 from (hI339 0 99).1)
          have f356 := (show 0 ≤ I339 0 59 ∧ I339 0 59 ≤ 2000 from (hI339 0 59).1)
          have f357 := (show 0 ≤ I339 0 42 ∧ I339 0 42 ≤ 2000 from (hI339 0 42).1)
          have f358 := (show (-1) ≤ I339 0 6 ∧ I339 0 6 ≤ 7 from (hI339 0 6).1)
          have KTM_I339 := gr_TM_fr KTM_I10 (fun k => g338 52 k rfl) (fun k => g338 53 k rfl) (fun k => g338 54 k rfl) (g338 0 64 rfl)
          have KVF_I339 := gr_VF_fr KVF_I10 (fun k => g338 14 k rfl) (fun k => g338 13 k rfl)
          have KLN_I339 := gr_LN_fr KLN_I10 (fun k => g338 19 k rfl) (by omega) (by omega)
          refine gv_callV hD rfl (As := [.inl 1]) (st := []) rfl (by decide) rfl rfl (gr_lV hws rfl) (Nat.le_of_ble_eq_true rfl) (gz_Ev_mono (d := 2) (by decide) E338) ?_
          show gv_X _ _ (162, [(4, .inl s0_22), (0, .inr (.inr (some 0))), (1, .inr (.inl v1_12)), (3, .inl v3_22)], [.inl z338], gr_sh ++ ext, gr_h I339 J340)
          exact gv_zret hD rfl (by omega) ⟨I339, J340, rfl, hI339, FI339, FJ340, KTM_I339, KVF_I339, KLN_I339, ⟨_, rfl, by omega⟩⟩
    have L141 : ∀ (v3_359 : Int), ((0 ≤ v3_359 ∧ v3_359 ≤ 1) ∧ (v3_359 = 1 ∨ (¬ ((lg_cmp v1_12 (J 0 83)).toInt) = 0 ∧ ¬ ((lg_cmp v1_12 (J 0 84)).toInt) = 0 ∧ ¬ ((lg_cmp v1_12 (J 0 85)).toInt) = 0 ∧ ¬ ((lg_cmp v1_12 (J 0 86)).toInt) = 0 ∧ ¬ ((lg_cmp v1_12 (J 0 87)).toInt) = 0 ∧ ¬ ((lg_cmp v1_12 (J 0 88)).toInt) = 0)) ∧ (I10 0 71 = 5 ∨ I10 0 73 ≤ I10 0 69) ∧ (I10 0 72 ≤ I10 0 69) ∧ (I10 0 71 = 0 ∨ (I10 0 72 < I10 0 73 ∧ I10 0 72 < I10 0 69)) ∧ (I10 0 71 = 3 → 2 ≤ I10 0 73 - I10 0 72 ∧ I10 0 73 - I10 0 72 ≤ 14) ∧ (I10 0 72 ≤ I10 0 73) ∧ (I10 0 69 = I 0 69) ∧ (I 0 73 ≤ I10 0 73) ∧ (I 0 72 ≤ I10 0 72)) → gv_X (gr_E ws0 tb 99 (yX13_statement, cX13_statement, 5, (some .boolean)) kX13_statement) (gv_Q cX13_statement (some .boolean) (gr_sh ++ ext) (fun r h' => (∃ (I' : gr_I) (J' : gr_J), h' = gr_h I' J' ∧ gr_Inv I' ∧ gr_fr [1, 2, 3, 4, 5, 6, 42, 59, 64, 71, 72, 73, 74, 75, 76, 77, 78, 99, 101, 104, 106, 118, 119, 120, 122, 123] [1, 2, 3, 4, 5, 6, 7, 8, 9, 10, 11, 12, 13, 14, 15, 16, 17, 18, 19, 20, 21, 22, 23, 24, 25, 26, 27, 28, 29, 30, 31, 32, 33, 34, 35, 36, 37, 38, 39, 40, 41, 42, 43, 44, 45, 46, 47, 48, 49, 50, 51, 52, 53, 54, 55, 57, 60, 61, 62, 63, 64, 65, 66, 67, 68, 69, 70, 71, 72, 73, 74, 75] I I' ∧ gr_fj [1, 2, 3, 4, 5, 6, 42, 59, 64, 71, 72, 73, 74, 75, 76, 77, 78, 99, 101, 104, 106, 118, 119, 120, 122, 123] [1, 2, 3, 4, 5, 6, 7, 8, 9, 10, 11, 12, 13, 14, 15, 16, 17, 18, 19, 20, 21, 22, 23, 24, 25, 26, 27, 28, 29, 30, 31, 32, 33, 34, 35, 36, 37, 38, 39, 40, 41, 42, 43, 44, 45, 46, 47, 48, 49, 50, 51, 52, 53, 54, 55, 57, 60, 61, 62, 63, 64, 65, 66, 67, 68, 69, 70, 71, 72, 73, 74, 75] J J' ∧ gr_TM I' ∧ gr_VF I' ∧ gr_LN B I' ∧ (∃ z : Int, r = some (.inl z) ∧ 0 ≤ z ∧ z ≤ 1 ∧ (I' 0 71 = 5 ∨ I' 0 73 ≤ I' 0 69) ∧ (I' 0 72 ≤ I' 0 69) ∧ (I' 0 71 = 0 ∨ (I' 0 72 < I' 0 73 ∧ I' 0 72 < I' 0 69)) ∧ (I' 0 71 = 3 → 2 ≤ I' 0 73 - I' 0 72 ∧ I' 0 73 - I' 0 72 ≤ 14) ∧ (I' 0 72 ≤ I' 0 73) ∧ (I' 0 69 = I 0 69) ∧ (I 0 73 ≤ I' 0 73) ∧ (I 0 72 ≤ I' 0 72) ∧ (I' 0 59 - I' 0 72 ≤ I 0 59 - I 0 72) ∧ (I' 0 42 - I' 0 72 ≤ I 0 42 - I 0 72) ∧ (I' 0 64 - I' 0 72 ≤ I 0 64 - I 0 72) ∧ (I' 0 99 ≤ I' 0 72) ∧ (I 0 64 ≤ I' 0 64) ∧ (z = 0 ∨ I 0 72 < I' 0 72))))) (141, [(0, .inr (.inr (some 0))), (1, .inr (.inl v1_12)), (3, .inl v3_359)], [], gr_sh ++ ext, gr_h I10 J11) := by
      intro v3_359 m_359
      obtain ⟨hv3_359, e0_359, e1_359, e2_359, e3_359, e4_359, e5_359, e6_359, e7_359, e8_359⟩ := m_359
      have f360 := (show 0 ≤ I10 0 71 ∧ I10 0 71 ≤ 5 from (hI10 0 71).1)
      have f361 := (show 0 ≤ I10 0 72 ∧ I10 0 72 ≤ 1000 from (hI10 0 72).1)
      have f362 := (show 0 ≤ I10 0 73 ∧ I10 0 73 ≤ 1001 from (hI10 0 73).1)
      have f363 := (show 0 ≤ I10 0 69 ∧ I10 0 69 ≤ 1000 from (hI10 0 69).1)
      have f364 := (show 0 ≤ I10 0 64 ∧ I10 0 64 ≤ 2000 from (hI10 0 64).1)
      have f365 := (show 0 ≤ I10 0 99 ∧ I10 0 99 ≤ 1000 from (hI10 0 99).1)
      have f366 := (show 0 ≤ I10 0 59 ∧ I10 0 59 ≤ 2000 from (hI10 0 59).1)
      have f367 := (show 0 ≤ I10 0 42 ∧ I10 0 42 ≤ 2000 from (hI10 0 42).1)
      have f368 := (show (-1) ≤ I10 0 6 ∧ I10 0 6 ≤ 7 from (hI10 0 6).1)
      refine gv_run 2 true hD (pc' := 146) (lv' := [(0, .inr (.inr (some 0))), (1, .inr (.inl v1_12)), (3, .inl v3_359)]) (st' := [.inl 1]) (h' := gr_h I10 J11) (C := ((True ∧ True) ∧ True)) rfl ⟨⟨trivial, trivial⟩, trivial⟩ ?_
      exact L146 v3_359 1 (by omega)
    refine gv_run 4 true hD (pc' := 92) (lv' := [(3, .inl s0_12), (0, .inr (.inr (some 0))), (1, .inr (.inl v1_12))]) (st' := [.inr (.inl (J11 0 80)), .inr (.inl v1_12)]) (h' := gr_h I10 J11) (C := ((((True ∧ True) ∧ True) ∧ True) ∧ True)) rfl ⟨⟨⟨⟨trivial, trivial⟩, trivial⟩, trivial⟩, trivial⟩ ?_
    rw [FJ11 0 80 rfl]
    have f369 := gw_cmp (v1_12) ((J 0 80))
    refine gv_run 1 true hD (pc' := 93) (lv' := [(3, .inl s0_12), (0, .inr (.inr (some 0))), (1, .inr (.inl v1_12))]) (st' := [.inl ((lg_cmp (v1_12) ((J 0 80))).toInt)]) (h' := gr_h I10 J11) (C := (True ∧ True)) rfl ⟨trivial, trivial⟩ ?_
    refine gv_if_eq (t := 141) hD rfl rfl ⟨by omega, by omega⟩ (fun c370 => ?_) (fun c370 => ?_)
    · refine gv_pick [1, 2, 0] rfl ?_
      exact L141 s0_12 (by omega)
    · refine gv_run 3 true hD (pc' := 101) (lv' := [(3, .inl s0_12), (0, .inr (.inr (some 0))), (1, .inr (.inl v1_12))]) (st' := [.inr (.inl (J11 0 81)), .inr (.inl v1_12)]) (h' := gr_h I10 J11) (C := (((True ∧ True) ∧ True) ∧ True)) rfl ⟨⟨⟨trivial, trivial⟩, trivial⟩, trivial⟩ ?_
      rw [FJ11 0 81 rfl]
      have f371 := gw_cmp (v1_12) ((J 0 81))
      refine gv_run 1 true hD (pc' := 102) (lv' := [(3, .inl s0_12), (0, .inr (.inr (some 0))), (1, .inr (.inl v1_12))]) (st' := [.inl ((lg_cmp (v1_12) ((J 0 81))).toInt)]) (h' := gr_h I10 J11) (C := (True ∧ True)) rfl ⟨trivial, trivial⟩ ?_
      refine gv_if_eq (t := 141) hD rfl rfl ⟨by omega, by omega⟩ (fun c372 => ?_) (fun c372 => ?_)
      · refine gv_pick [1, 2, 0] rfl ?_
        exact L141 s0_12 (by omega)
      · refine gv_run 3 true hD (pc' := 110) (lv' := [(3, .inl s0_12), (0, .inr (.inr (some 0))), (1, .inr (.inl v1_12))]) (st' := [.inr (.inl (J11 0 82)), .inr (.inl v1_12)]) (h' := gr_h I10 J11) (C := (((True ∧ True) ∧ True) ∧ True)) rfl ⟨⟨⟨trivial, trivial⟩, trivial⟩, trivial⟩ ?_
        rw [FJ11 0 82 rfl]
        have f373 := gw_cmp (v1_12) ((J 0 82))
        refine gv_run 1 true hD (pc' := 111) (lv' := [(3, .inl s0_12), (0, .inr (.inr (some 0))), (1, .inr (.inl v1_12))]) (st' := [.inl ((lg_cmp (v1_12) ((J 0 82))).toInt)]) (h' := gr_h I10 J11) (C := (True ∧ True)) rfl ⟨trivial, trivial⟩ ?_
        refine gv_if_eq (t := 141) hD rfl rfl ⟨by omega, by omega⟩ (fun c374 => ?_) (fun c374 => ?_)
        · refine gv_pick [1, 2, 0] rfl ?_
          exact L141 s0_12 (by omega)
        · refine gv_run 3 true hD (pc' := 119) (lv' := [(3, .inl s0_12), (0, .inr (.inr (some 0))), (1, .inr (.inl v1_12))]) (st' := [.inr (.inl (J11 0 89)), .inr (.inl v1_12)]) (h' := gr_h I10 J11) (C := (((True ∧ True) ∧ True) ∧ True)) rfl ⟨⟨⟨trivial, trivial⟩, trivial⟩, trivial⟩ ?_
          rw [FJ11 0 89 rfl]
          have f375 := gw_cmp (v1_12) ((J 0 89))
          refine gv_run 1 true hD (pc' := 120) (lv' := [(3, .inl s0_12), (0, .inr (.inr (some 0))), (1, .inr (.inl v1_12))]) (st' := [.inl ((lg_cmp (v1_12) ((J 0 89))).toInt)]) (h' := gr_h I10 J11) (C := (True ∧ True)) rfl ⟨trivial, trivial⟩ ?_
          refine gv_if_eq (t := 141) hD rfl rfl ⟨by omega, by omega⟩ (fun c376 => ?_) (fun c376 => ?_)
          · refine gv_pick [1, 2, 0] rfl ?_
            exact L141 s0_12 (by omega)
          · refine gv_run 3 true hD (pc' := 128) (lv' := [(3, .inl s0_12), (0, .inr (.inr (some 0))), (1, .inr (.inl v1_12))]) (st' := [.inr (.inl (J11 0 90)), .inr (.inl v1_12)]) (h' := gr_h I10 J11) (C := (((True ∧ True) ∧ True) ∧ True)) rfl ⟨⟨⟨trivial, trivial⟩, trivial⟩, trivial⟩ ?_
            rw [FJ11 0 90 rfl]
            have f377 := gw_cmp (v1_12) ((J 0 90))
            refine gv_run 1 true hD (pc' := 129) (lv' := [(3, .inl s0_12), (0, .inr (.inr (some 0))), (1, .inr (.inl v1_12))]) (st' := [.inl ((lg_cmp (v1_12) ((J 0 90))).toInt)]) (h' := gr_h I10 J11) (C := (True ∧ True)) rfl ⟨trivial, trivial⟩ ?_
            refine gv_if_eq (t := 141) hD rfl rfl ⟨by omega, by omega⟩ (fun c378 => ?_) (fun c378 => ?_)
            · refine gv_pick [1, 2, 0] rfl ?_
              exact L141 s0_12 (by omega)
            · refine gv_run 3 true hD (pc' := 137) (lv' := [(3, .inl s0_12), (0, .inr (.inr (some 0))), (1, .inr (.inl v1_12))]) (st' := [.inr (.inl (J11 0 91)), .inr (.inl v1_12)]) (h' := gr_h I10 J11) (C := (((True ∧ True) ∧ True) ∧ True)) rfl ⟨⟨⟨trivial, trivial⟩, trivial⟩, trivial⟩ ?_
              rw [FJ11 0 91 rfl]
              have f379 := gw_cmp (v1_12) ((J 0 91))
              refine gv_run 1 true hD (pc' := 138) (lv' := [(3, .inl s0_12), (0, .inr (.inr (some 0))), (1, .inr (.inl v1_12))]) (st' := [.inl ((lg_cmp (v1_12) ((J 0 91))).toInt)]) (h' := gr_h I10 J11) (C := (True ∧ True)) rfl ⟨trivial, trivial⟩ ?_
              refine gv_if_ne (t := 145) hD rfl rfl ⟨by omega, by omega⟩ (fun c380 => ?_) (fun c380 => ?_)
              · refine gv_run 1 true hD (pc' := 146) (lv' := [(3, .inl s0_12), (0, .inr (.inr (some 0))), (1, .inr (.inl v1_12))]) (st' := [.inl 0]) (h' := gr_h I10 J11) (C := (True ∧ True)) rfl ⟨trivial, trivial⟩ ?_
                refine gv_pick [1, 2, 0] rfl ?_
                exact L146 s0_12 0 (by omega)
              · refine gv_pick [1, 2, 0] rfl ?_
                exact L141 s0_12 (by omega)
  have L81 : ∀ (I381 : gr_I) (J382 : gr_J) (v1_383 : Int64), gr_Inv I381 → gr_fr [1, 2, 3, 4, 5, 6, 42, 59, 64, 71, 72, 73, 74, 75, 76, 77, 78, 99, 101, 104, 106, 118, 119, 120, 122, 123] [1, 2, 3, 4, 5, 6, 7, 8, 9, 10, 11, 12, 13, 14, 15, 16, 17, 18, 19, 20, 21, 22, 23, 24, 25, 26, 27, 28, 29, 30, 31, 32, 33, 34, 35, 36, 37, 38, 39, 40, 41, 42, 43, 44, 45, 46, 47, 48, 49, 50, 51, 52, 53, 54, 55, 57, 60, 61, 62, 63, 64, 65, 66, 67, 68, 69, 70, 71, 72, 73, 74, 75] I I381 → gr_fj [1, 2, 3, 4, 5, 6, 42, 59, 64, 71, 72, 73, 74, 75, 76, 77, 78, 99, 101, 104, 106, 118, 119, 120, 122, 123] [1, 2, 3, 4, 5, 6, 7, 8, 9, 10, 11, 12, 13, 14, 15, 16, 17, 18, 19, 20, 21, 22, 23, 24, 25, 26, 27, 28, 29, 30, 31, 32, 33, 34, 35, 36, 37, 38, 39, 40, 41, 42, 43, 44, 45, 46, 47, 48, 49, 50, 51, 52, 53, 54, 55, 57, 60, 61, 62, 63, 64, 65, 66, 67, 68, 69, 70, 71, 72, 73, 74, 75] J J382 → gr_TM I381 → gr_VF I381 → gr_LN B I381 → ((I381 0 71 = 5 ∨ I381 0 73 ≤ I381 0 69) ∧ (I381 0 72 ≤ I381 0 69) ∧ (I381 0 71 = 0 ∨ (I381 0 72 < I381 0 73 ∧ I381 0 72 < I381 0 69)) ∧ (I381 0 71 = 3 → 2 ≤ I381 0 73 - I381 0 72 ∧ I381 0 73 - I381 0 72 ≤ 14) ∧ (I381 0 72 ≤ I381 0 73) ∧ (I381 0 69 = I 0 69) ∧ (I 0 73 ≤ I381 0 73) ∧ (I 0 72 ≤ I381 0 72)) → gv_X (gr_E ws0 tb 99 (yX13_statement, cX13_statement, 5, (some .boolean)) kX13_statement) (gv_Q cX13_statement (some .boolean) (gr_sh ++ ext) (fun r h' => (∃ (I' : gr_I) (J' : gr_J), h' = gr_h I' J' ∧ gr_Inv I' ∧ gr_fr [1, 2, 3, 4, 5, 6, 42, 59, 64, 71, 72, 73, 74, 75, 76, 77, 78, 99, 101, 104, 106, 118, 119, 120, 122, 123] [1, 2, 3, 4, 5, 6, 7, 8, 9, 10, 11, 12, 13, 14, 15, 16, 17, 18, 19, 20, 21, 22, 23, 24, 25, 26, 27, 28, 29, 30, 31, 32, 33, 34, 35, 36, 37, 38, 39, 40, 41, 42, 43, 44, 45, 46, 47, 48, 49, 50, 51, 52, 53, 54, 55, 57, 60, 61, 62, 63, 64, 65, 66, 67, 68, 69, 70, 71, 72, 73, 74, 75] I I' ∧ gr_fj [1, 2, 3, 4, 5, 6, 42, 59, 64, 71, 72, 73, 74, 75, 76, 77, 78, 99, 101, 104, 106, 118, 119, 120, 122, 123] [1, 2, 3, 4, 5, 6, 7, 8, 9, 10, 11, 12, 13, 14, 15, 16, 17, 18, 19, 20, 21, 22, 23, 24, 25, 26, 27, 28, 29, 30, 31, 32, 33, 34, 35, 36, 37, 38, 39, 40, 41, 42, 43, 44, 45, 46, 47, 48, 49, 50, 51, 52, 53, 54, 55, 57, 60, 61, 62, 63, 64, 65, 66, 67, 68, 69, 70, 71, 72, 73, 74, 75] J J' ∧ gr_TM I' ∧ gr_VF I' ∧ gr_LN B I' ∧ (∃ z : Int, r = some (.inl z) ∧ 0 ≤ z ∧ z ≤ 1 ∧ (I' 0 71 = 5 ∨ I' 0 73 ≤ I' 0 69) ∧ (I' 0 72 ≤ I' 0 69) ∧ (I' 0 71 = 0 ∨ (I' 0 72 < I' 0 73 ∧ I' 0 72 < I' 0 69)) ∧ (I' 0 71 = 3 → 2 ≤ I' 0 73 - I' 0 72 ∧ I' 0 73 - I' 0 72 ≤ 14) ∧ (I' 0 72 ≤ I' 0 73) ∧ (I' 0 69 = I 0 69) ∧ (I 0 73 ≤ I' 0 73) ∧ (I 0 72 ≤ I' 0 72) ∧ (I' 0 59 - I' 0 72 ≤ I 0 59 - I 0 72) ∧ (I' 0 42 - I' 0 72 ≤ I 0 42 - I 0 72) ∧ (I' 0 64 - I' 0 72 ≤ I 0 64 - I 0 72) ∧ (I' 0 99 ≤ I' 0 72) ∧ (I 0 64 ≤ I' 0 64) ∧ (z = 0 ∨ I 0 72 < I' 0 72))))) (81, [(0, .inr (.inr (some 0))), (1, .inr (.inl v1_383))], [], gr_sh ++ ext, gr_h I381 J382) := by
    intro I381 J382 v1_383 hI381 FI381 FJ382 KTM_I381 KVF_I381 KLN_I381 m_383
    obtain ⟨e0_383, e1_383, e2_383, e3_383, e4_383, e5_383, e6_383, e7_383⟩ := m_383
    have f384 := (show 0 ≤ I381 0 71 ∧ I381 0 71 ≤ 5 from (hI381 0 71).1)
    have f385 := (show 0 ≤ I381 0 72 ∧ I381 0 72 ≤ 1000 from (hI381 0 72).1)
    have f386 := (show 0 ≤ I381 0 73 ∧ I381 0 73 ≤ 1001 from (hI381 0 73).1)
    have f387 := (show 0 ≤ I381 0 69 ∧ I381 0 69 ≤ 1000 from (hI381 0 69).1)
    have f388 := (show 0 ≤ I381 0 64 ∧ I381 0 64 ≤ 2000 from (hI381 0 64).1)
    have f389 := (show 0 ≤ I381 0 99 ∧ I381 0 99 ≤ 1000 from (hI381 0 99).1)
    have f390 := (show 0 ≤ I381 0 59 ∧ I381 0 59 ≤ 2000 from (hI381 0 59).1)
    have f391 := (show 0 ≤ I381 0 42 ∧ I381 0 42 ≤ 2000 from (hI381 0 42).1)
    have f392 := (show (-1) ≤ I381 0 6 ∧ I381 0 6 ≤ 7 from (hI381 0 6).1)
    refine gv_run 2 true hD (pc' := 86) (lv' := [(0, .inr (.inr (some 0))), (1, .inr (.inl v1_383))]) (st' := [.inl 1]) (h' := gr_h I381 J382) (C := ((True ∧ True) ∧ True)) rfl ⟨⟨trivial, trivial⟩, trivial⟩ ?_
    exact L86 I381 J382 v1_383 1 hI381 FI381 FJ382 KTM_I381 KVF_I381 KLN_I381 (by omega)
  have f393 := (show 0 ≤ I 0 72 ∧ I 0 72 ≤ 1000 from (hI 0 72).1)
  refine gv_run 3 true hD (pc' := 5) (lv' := [(0, .inr (.inr (some 0)))]) (st' := [.inl (I 0 72), .inr (.inr (some 0))]) (h' := gr_h I J) (C := (((True ∧ True) ∧ True) ∧ True)) rfl ⟨⟨⟨trivial, trivial⟩, trivial⟩, trivial⟩ ?_
  refine gv_run 1 true hD (pc' := 8) (lv' := [(0, .inr (.inr (some 0)))]) (st' := []) (h' := gz_up (gr_h I J) 0 78 (.inl (I 0 72))) (C := (True ∧ True)) rfl ⟨trivial, trivial⟩ ?_
  refine gr_st hI FI rfl rfl ⟨⟨by show 0 ≤ _; omega, by show _ ≤ 1000; omega⟩, trivial⟩ (fun I394 hI394 FI394 q395 p395 => ?_)
  have t396 := p395 0 71 (by decide)
  have t397 := p395 0 72 (by decide)
  have t398 := p395 0 73 (by decide)
  have t399 := p395 0 69 (by decide)
  have t400 := p395 0 64 (by decide)
  have t401 := p395 0 99 (by decide)
  have t402 := p395 0 59 (by decide)
  have t403 := p395 0 42 (by decide)
  have t404 := p395 0 6 (by decide)
  have f405 := (show 0 ≤ I394 0 71 ∧ I394 0 71 ≤ 5 from (hI394 0 71).1)
  have f406 := (show 0 ≤ I394 0 72 ∧ I394 0 72 ≤ 1000 from (hI394 0 72).1)
  have f407 := (show 0 ≤ I394 0 73 ∧ I394 0 73 ≤ 1001 from (hI394 0 73).1)
  have f408 := (show 0 ≤ I394 0 69 ∧ I394 0 69 ≤ 1000 from (hI394 0 69).1)
  have f409 := (show 0 ≤ I394 0 64 ∧ I394 0 64 ≤ 2000 from (hI394 0 64).1)
  have f410 := (show 0 ≤ I394 0 99 ∧ I394 0 99 ≤ 1000 from (hI394 0 99).1)
  have f411 := (show 0 ≤ I394 0 59 ∧ I394 0 59 ≤ 2000 from (hI394 0 59).1)
  have f412 := (show 0 ≤ I394 0 42 ∧ I394 0 42 ≤ 2000 from (hI394 0 42).1)
  have f413 := (show (-1) ≤ I394 0 6 ∧ I394 0 6 ≤ 7 from (hI394 0 6).1)
  have KTM_I394 := gr_TM_fr KTM_I (fun k => p395 52 k (fun q => absurd q.1 (by decide))) (fun k => p395 53 k (fun q => absurd q.1 (by decide))) (fun k => p395 54 k (fun q => absurd q.1 (by decide))) (p395 0 64 (by decide))
  have KVF_I394 := gr_VF_fr KVF_I (fun k => p395 14 k (fun q => absurd q.1 (by decide))) (fun k => p395 13 k (fun q => absurd q.1 (by decide)))
  have KLN_I394 := gr_LN_fr KLN_I (fun k => p395 19 k (fun q => absurd q.1 (by decide))) (by omega) (by omega)
  have f414 := (show 0 ≤ I394 0 71 ∧ I394 0 71 ≤ 5 from (hI394 0 71).1)
  refine gv_run 3 true hD (pc' := 13) (lv' := [(0, .inr (.inr (some 0)))]) (st' := [.inl 1, .inl (I394 0 71)]) (h' := gr_h I394 J) (C := (((True ∧ True) ∧ True) ∧ True)) rfl ⟨⟨⟨trivial, trivial⟩, trivial⟩, trivial⟩ ?_
  refine gv_icmp_eq (t := 22) hD rfl rfl ⟨⟨by omega, by omega⟩, ⟨by omega, by omega⟩⟩ (fun c415 => ?_) (fun c415 => ?_)
  · have f416 := gw_cmp ((J 0 75)) ((J 0 83))
    refine gv_run 7 true hD (pc' := 33) (lv' := [(1, .inr (.inl (J 0 75))), (0, .inr (.inr (some 0)))]) (st' := [.inl ((lg_cmp ((J 0 75)) ((J 0 83))).toInt)]) (h' := gr_h I394 J) (C := (((((((True ∧ True) ∧ True) ∧ True) ∧ True) ∧ True) ∧ True) ∧ True)) rfl ⟨⟨⟨⟨⟨⟨⟨trivial, trivial⟩, trivial⟩, trivial⟩, trivial⟩, trivial⟩, trivial⟩, trivial⟩ ?_
    refine gv_if_eq (t := 81) hD rfl rfl ⟨by omega, by omega⟩ (fun c417 => ?_) (fun c417 => ?_)
    · refine gv_pick [1, 0] rfl ?_
      exact L81 I394 J (J 0 75) hI394 FI394 FJ KTM_I394 KVF_I394 KLN_I394 (by omega)
    · have f418 := gw_cmp ((J 0 75)) ((J 0 84))
      refine gv_run 4 true hD (pc' := 42) (lv' := [(1, .inr (.inl (J 0 75))), (0, .inr (.inr (some 0)))]) (st' := [.inl ((lg_cmp ((J 0 75)) ((J 0 84))).toInt)]) (h' := gr_h I394 J) (C := ((((True ∧ True) ∧ True) ∧ True) ∧ True)) rfl ⟨⟨⟨⟨trivial, trivial⟩, trivial⟩, trivial⟩, trivial⟩ ?_
      refine gv_if_eq (t := 81) hD rfl rfl ⟨by omega, by omega⟩ (fun c419 => ?_) (fun c419 => ?_)
      · refine gv_pick [1, 0] rfl ?_
        exact L81 I394 J (J 0 75) hI394 FI394 FJ KTM_I394 KVF_I394 KLN_I394 (by omega)
      · have f420 := gw_cmp ((J 0 75)) ((J 0 85))
        refine gv_run 4 true hD (pc' := 51) (lv' := [(1, .inr (.inl (J 0 75))), (0, .inr (.inr (some 0)))]) (st' := [.inl ((lg_cmp ((J 0 75)) ((J 0 85))).toInt)]) (h' := gr_h I394 J) (C := ((((True ∧ True) ∧ True) ∧ True) ∧ True)) rfl ⟨⟨⟨⟨trivial, trivial⟩, trivial⟩, trivial⟩, trivial⟩ ?_
        refine gv_if_eq (t := 81) hD rfl rfl ⟨by omega, by omega⟩ (fun c421 => ?_) (fun c421 => ?_)
        · refine gv_pick [1, 0] rfl ?_
          exact L81 I394 J (J 0 75) hI394 FI394 FJ KTM_I394 KVF_I394 KLN_I394 (by omega)
        · have f422 := gw_cmp ((J 0 75)) ((J 0 86))
          refine gv_run 4 true hD (pc' := 60) (lv' := [(1, .inr (.inl (J 0 75))), (0, .inr (.inr (some 0)))]) (st' := [.inl ((lg_cmp ((J 0 75)) ((J 0 86))).toInt)]) (h' := gr_h I394 J) (C := ((((True ∧ True) ∧ True) ∧ True) ∧ True)) rfl ⟨⟨⟨⟨trivial, trivial⟩, trivial⟩, trivial⟩, trivial⟩ ?_
          refine gv_if_eq (t := 81) hD rfl rfl ⟨by omega, by omega⟩ (fun c423 => ?_) (fun c423 => ?_)
          · refine gv_pick [1, 0] rfl ?_
            exact L81 I394 J (J 0 75) hI394 FI394 FJ KTM_I394 KVF_I394 KLN_I394 (by omega)
          · have f424 := gw_cmp ((J 0 75)) ((J 0 87))
            refine gv_run 4 true hD (pc' := 69) (lv' := [(1, .inr (.inl (J 0 75))), (0, .inr (.inr (some 0)))]) (st' := [.inl ((lg_cmp ((J 0 75)) ((J 0 87))).toInt)]) (h' := gr_h I394 J) (C := ((((True ∧ True) ∧ True) ∧ True) ∧ True)) rfl ⟨⟨⟨⟨trivial, trivial⟩, trivial⟩, trivial⟩, trivial⟩ ?_
            refine gv_if_eq (t := 81) hD rfl rfl ⟨by omega, by omega⟩ (fun c425 => ?_) (fun c425 => ?_)
            · refine gv_pick [1, 0] rfl ?_
              exact L81 I394 J (J 0 75) hI394 FI394 FJ KTM_I394 KVF_I394 KLN_I394 (by omega)
            · have f426 := gw_cmp ((J 0 75)) ((J 0 88))
              refine gv_run 4 true hD (pc' := 78) (lv' := [(1, .inr (.inl (J 0 75))), (0, .inr (.inr (some 0)))]) (st' := [.inl ((lg_cmp ((J 0 75)) ((J 0 88))).toInt)]) (h' := gr_h I394 J) (C := ((((True ∧ True) ∧ True) ∧ True) ∧ True)) rfl ⟨⟨⟨⟨trivial, trivial⟩, trivial⟩, trivial⟩, trivial⟩ ?_
              refine gv_if_ne (t := 85) hD rfl rfl ⟨by omega, by omega⟩ (fun c427 => ?_) (fun c427 => ?_)
              · refine gv_run 1 true hD (pc' := 86) (lv' := [(1, .inr (.inl (J 0 75))), (0, .inr (.inr (some 0)))]) (st' := [.inl 0]) (h' := gr_h I394 J) (C := (True ∧ True)) rfl ⟨trivial, trivial⟩ ?_
                refine gv_pick [1, 0] rfl ?_
                exact L86 I394 J (J 0 75) 0 hI394 FI394 FJ KTM_I394 KVF_I394 KLN_I394 (by omega)
              · refine gv_pick [1, 0] rfl ?_
                exact L81 I394 J (J 0 75) hI394 FI394 FJ KTM_I394 KVF_I394 KLN_I394 (by omega)
  · refine gv_run 2 true hD (pc' := 18) (lv' := [(0, .inr (.inr (some 0)))]) (st' := [.inl 1, .inr (.inr (some 0))]) (h' := gr_h I394 J) (C := ((True ∧ True) ∧ True)) rfl ⟨⟨trivial, trivial⟩, trivial⟩ ?_
    obtain ⟨r428, h428, E428, P428⟩ := r_no_ (ws0 := ws0) (tb := tb) hws htb ext I394 J hI394 1 ⟨by omega, by omega⟩ 
    obtain ⟨I429, J430, rfl, hI429, g428, k428, ⟨z428, rfl, q428⟩⟩ := P428
    have FI429 := gr_frt FI394 g428 rfl rfl
    have FJ430 := gr_fjt FJ k428 rfl rfl
    have t431 := g428 0 71 rfl
    have t432 := g428 0 72 rfl
    have t433 := g428 0 73 rfl
    have t434 := g428 0 69 rfl
    have t435 := g428 0 64 rfl
    have t436 := g428 0 99 rfl
    have t437 := g428 0 59 rfl
    have t438 := g428 0 42 rfl
    have t439 := g428 0 6 rfl
    have f440 := (show 0 ≤ I429 0 71 ∧ I429 0 71 ≤ 5 from (hI429 0 71).1)
    have f441 := (show 0 ≤ I429 0 72 ∧ I429 0 72 ≤ 1000 from (hI429 0 72).1)
    have f442 := (show 0 ≤ I429 0 73 ∧ I429 0 73 ≤ 1001 from (hI429 0 73).1)
    have f443 := (show 0 ≤ I429 0 69 ∧ I429 0 69 ≤ 1000 from (hI429 0 69).1)
    have f444 := (show 0 ≤ I429 0 64 ∧ I429 0 64 ≤ 2000 from (hI429 0 64).1)
    have f445 := (show 0 ≤ I429 0 99 ∧ I429 0 99 ≤ 1000 from (hI429 0 99).1)
    have f446 := (show 0 ≤ I429 0 59 ∧ I429 0 59 ≤ 2000 from (hI429 0 59).1)
    have f447 := (show 0 ≤ I429 0 42 ∧ I429 0 42 ≤ 2000 from (hI429 0 42).1)
    have f448 := (show (-1) ≤ I429 0 6 ∧ I429 0 6 ≤ 7 from (hI429 0 6).1)
    have KTM_I429 := gr_TM_fr KTM_I394 (fun k => g428 52 k rfl) (fun k => g428 53 k rfl) (fun k => g428 54 k rfl) (g428 0 64 rfl)
    have KVF_I429 := gr_VF_fr KVF_I394 (fun k => g428 14 k rfl) (fun k => g428 13 k rfl)
    have KLN_I429 := gr_LN_fr KLN_I394 (fun k => g428 19 k rfl) (by omega) (by omega)
    refine gv_callV hD rfl (As := [.inl 1]) (st := []) rfl (by decide) rfl rfl (gr_lV hws rfl) (Nat.le_of_ble_eq_true rfl) (gz_Ev_mono (d := 2) (by decide) E428) ?_
    show gv_X _ _ (21, [(0, .inr (.inr (some 0)))], [.inl z428], gr_sh ++ ext, gr_h I429 J430)
    exact gv_zret hD rfl (by omega) ⟨I429, J430, rfl, hI429, FI429, FJ430, KTM_I429, KVF_I429, KLN_I429, ⟨_, rfl, by omega⟩⟩
