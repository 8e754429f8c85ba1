set_option maxHeartbeats 4000000 in
set_option maxRecDepth 100000 in
theorem r_said {ws0 : List Cond} {tb : String → gz_T} (hws : ∀ w ∈ gr_ws, w ∈ ws0) (htb : tb RX13 = gr_T) (ext : gz_Sh) (I : gr_I) (J : gr_J) (hI : gr_Inv I) (a1 : Int) (ha1 : 0 ≤ a1 ∧ a1 ≤ 95) (x0 : I 0 71 = 5 ∨ I 0 73 ≤ I 0 69) (x1 : I 0 72 ≤ I 0 69) (x2 : I 0 71 = 0 ∨ (I 0 72 < I 0 73 ∧ I 0 72 < I 0 69)) (x3 : I 0 71 = 3 → 2 ≤ I 0 73 - I 0 72 ∧ I 0 73 - I 0 72 ≤ 14) (x4 : I 0 72 ≤ I 0 73) (x5 : 0 ≤ I 0 6) : ∃ r h', gz_Ev ws0 tb 12 (yX13_said, cX13_said, 3, (some .boolean)) [.inr (.inr (some 0)), .inl a1] (gr_sh ++ ext) (gr_h I J) r (gr_sh ++ ext) h' 0 0 ∧ (∃ (I' : gr_I) (J' : gr_J), h' = gr_h I' J' ∧ gr_Inv I' ∧ gr_fr [71, 72, 73, 74, 75, 76, 77, 119, 120] [70, 71, 72, 73] I I' ∧ gr_fj [71, 72, 73, 74, 75, 76, 77, 119, 120] [70, 71, 72, 73] J J' ∧ (∃ z : Int, r = some (.inl z) ∧ 0 ≤ z ∧ z ≤ 1 ∧ (I' 0 71 = 5 ∨ I' 0 73 ≤ I' 0 69) ∧ (I' 0 72 ≤ I' 0 69) ∧ (I' 0 71 = 0 ∨ (I' 0 72 < I' 0 73 ∧ I' 0 72 < I' 0 69)) ∧ (I' 0 71 = 3 → 2 ≤ I' 0 73 - I' 0 72 ∧ I' 0 73 - I' 0 72 ≤ 14) ∧ (I' 0 72 ≤ I' 0 73) ∧ (I' 0 69 = I 0 69) ∧ (I 0 73 ≤ I' 0 73) ∧ (I 0 72 ≤ I' 0 72))) := by
  have FI : gr_fr [71, 72, 73, 74, 75, 76, 77, 119, 120] [70, 71, 72, 73] I I := fun _ _ _ => rfl
  have FJ : gr_fj [71, 72, 73, 74, 75, 76, 77, 119, 120] [70, 71, 72, 73] J J := fun _ _ _ => rfl
  have hD : gv_D (gr_E ws0 tb 11 (yX13_said, cX13_said, 3, (some .boolean)) kX13_said) := gq_ok oX13_said
  refine gr_ev (d := 11) (l := kX13_said) (Po := fun r h' => (∃ (I' : gr_I) (J' : gr_J), h' = gr_h I' J' ∧ gr_Inv I' ∧ gr_fr [71, 72, 73, 74, 75, 76, 77, 119, 120] [70, 71, 72, 73] I I' ∧ gr_fj [71, 72, 73, 74, 75, 76, 77, 119, 120] [70, 71, 72, 73] J J' ∧ (∃ z : Int, r = some (.inl z) ∧ 0 ≤ z ∧ z ≤ 1 ∧ (I' 0 71 = 5 ∨ I' 0 73 ≤ I' 0 69) ∧ (I' 0 72 ≤ I' 0 69) ∧ (I' 0 71 = 0 ∨ (I' 0 72 < I' 0 73 ∧ I' 0 72 < I' 0 69)) ∧ (I' 0 71 = 3 → 2 ≤ I' 0 73 - I' 0 72 ∧ I' 0 73 - I' 0 72 ≤ 14) ∧ (I' 0 72 ≤ I' 0 73) ∧ (I' 0 69 = I 0 69) ∧ (I 0 73 ≤ I' 0 73) ∧ (I 0 72 ≤ I' 0 72)))) htb rfl (Nat.le_of_ble_eq_true rfl) ?_
  have f1 := (show 0 ≤ I 0 71 ∧ I 0 71 ≤ 5 from (hI 0 71).1)
  have f2 := (show 0 ≤ I 0 72 ∧ I 0 72 ≤ 1000 from (hI 0 72).1)
  have f3 := (show 0 ≤ I 0 73 ∧ I 0 73 ≤ 1001 from (hI 0 73).1)
  have f4 := (show 0 ≤ I 0 69 ∧ I 0 69 ≤ 1000 from (hI 0 69).1)
  have f5 := (show (-1) ≤ I 0 6 ∧ I 0 6 ≤ 7 from (hI 0 6).1)
  have f6 := (show 0 ≤ I 0 119 ∧ I 0 119 ≤ 6 from (hI 0 119).1)
  have L28 : ((0 ≤ a1 ∧ a1 ≤ 95) ∧ (I 0 119 = I 0 119) ∧ (I 0 71 = 1) ∧ (I 0 71 = 5 ∨ I 0 73 ≤ I 0 69) ∧ (I 0 72 ≤ I 0 69) ∧ (I 0 71 = 0 ∨ (I 0 72 < I 0 73 ∧ I 0 72 < I 0 69)) ∧ (I 0 71 = 3 → 2 ≤ I 0 73 - I 0 72 ∧ I 0 73 - I 0 72 ≤ 14) ∧ (I 0 72 ≤ I 0 73) ∧ (I 0 69 = I 0 69) ∧ (I 0 73 ≤ I 0 73) ∧ (I 0 72 ≤ I 0 72) ∧ (I 0 6 = I 0 6)) → gv_X (gr_E ws0 tb 11 (yX13_said, cX13_said, 3, (some .boolean)) kX13_said) (gv_Q cX13_said (some .boolean) (gr_sh ++ ext) (fun r h' => (∃ (I' : gr_I) (J' : gr_J), h' = gr_h I' J' ∧ gr_Inv I' ∧ gr_fr [71, 72, 73, 74, 75, 76, 77, 119, 120] [70, 71, 72, 73] I I' ∧ gr_fj [71, 72, 73, 74, 75, 76, 77, 119, 120] [70, 71, 72, 73] J J' ∧ (∃ z : Int, r = some (.inl z) ∧ 0 ≤ z ∧ z ≤ 1 ∧ (I' 0 71 = 5 ∨ I' 0 73 ≤ I' 0 69) ∧ (I' 0 72 ≤ I' 0 69) ∧ (I' 0 71 = 0 ∨ (I' 0 72 < I' 0 73 ∧ I' 0 72 < I' 0 69)) ∧ (I' 0 71 = 3 → 2 ≤ I' 0 73 - I' 0 72 ∧ I' 0 73 - I' 0 72 ≤ 14) ∧ (I' 0 72 ≤ I' 0 73) ∧ (I' 0 69 = I 0 69) ∧ (I 0 73 ≤ I' 0 73) ∧ (I 0 72 ≤ I' 0 72))))) (28, [(0, .inr (.inr (some 0))), (1, .inl a1)], [], gr_sh ++ ext, gr_h I J) := by
    intro m_7
    obtain ⟨ha1_7, e0_7, e1_7, e2_7, e3_7, e4_7, e5_7, e6_7, e7_7, e8_7, e9_7, e10_7⟩ := m_7
    have f8 := (show 0 ≤ I 0 71 ∧ I 0 71 ≤ 5 from (hI 0 71).1)
    have f9 := (show 0 ≤ I 0 72 ∧ I 0 72 ≤ 1000 from (hI 0 72).1)
    have f10 := (show 0 ≤ I 0 73 ∧ I 0 73 ≤ 1001 from (hI 0 73).1)
    have f11 := (show 0 ≤ I 0 69 ∧ I 0 69 ≤ 1000 from (hI 0 69).1)
    have f12 := (show (-1) ≤ I 0 6 ∧ I 0 6 ≤ 7 from (hI 0 6).1)
    have f13 := (show 0 ≤ I 0 119 ∧ I 0 119 ≤ 6 from (hI 0 119).1)
    have L43 : ((0 ≤ a1 ∧ a1 ≤ 95) ∧ (I 0 119 ≤ 5) ∧ (I 0 71 = 1) ∧ (I 0 71 = 5 ∨ I 0 73 ≤ I 0 69) ∧ (I 0 72 ≤ I 0 69) ∧ (I 0 71 = 0 ∨ (I 0 72 < I 0 73 ∧ I 0 72 < I 0 69)) ∧ (I 0 71 = 3 → 2 ≤ I 0 73 - I 0 72 ∧ I 0 73 - I 0 72 ≤ 14) ∧ (I 0 72 ≤ I 0 73) ∧ (I 0 69 = I 0 69) ∧ (I 0 73 ≤ I 0 73) ∧ (I 0 72 ≤ I 0 72) ∧ (I 0 6 = I 0 6)) → gv_X (gr_E ws0 tb 11 (yX13_said, cX13_said, 3, (some .boolean)) kX13_said) (gv_Q cX13_said (some .boolean) (gr_sh ++ ext) (fun r h' => (∃ (I' : gr_I) (J' : gr_J), h' = gr_h I' J' ∧ gr_Inv I' ∧ gr_fr [71, 72, 73, 74, 75, 76, 77, 119, 120] [70, 71, 72, 73] I I' ∧ gr_fj [71, 72, 73, 74, 75, 76, 77, 119, 120] [70, 71, 72, 73] J J' ∧ (∃ z : Int, r = some (.inl z) ∧ 0 ≤ z ∧ z ≤ 1 ∧ (I' 0 71 = 5 ∨ I' 0 73 ≤ I' 0 69) ∧ (I' 0 72 ≤ I' 0 69) ∧ (I' 0 71 = 0 ∨ (I' 0 72 < I' 0 73 ∧ I' 0 72 < I' 0 69)) ∧ (I' 0 71 = 3 → 2 ≤ I' 0 73 - I' 0 72 ∧ I' 0 73 - I' 0 72 ≤ 14) ∧ (I' 0 72 ≤ I' 0 73) ∧ (I' 0 69 = I 0 69) ∧ (I 0 73 ≤ I' 0 73) ∧ (I 0 72 ≤ I' 0 72))))) (43, [(0, .inr (.inr (some 0))), (1, .inl a1)], [], gr_sh ++ ext, gr_h I J) := by
      intro m_14
      obtain ⟨ha1_14, e0_14, e1_14, e2_14, e3_14, e4_14, e5_14, e6_14, e7_14, e8_14, e9_14, e10_14⟩ := m_14
      have f15 := (show 0 ≤ I 0 71 ∧ I 0 71 ≤ 5 from (hI 0 71).1)
      have f16 := (show 0 ≤ I 0 72 ∧ I 0 72 ≤ 1000 from (hI 0 72).1)
      have f17 := (show 0 ≤ I 0 73 ∧ I 0 73 ≤ 1001 from (hI 0 73).1)
      have f18 := (show 0 ≤ I 0 69 ∧ I 0 69 ≤ 1000 from (hI 0 69).1)
      have f19 := (show (-1) ≤ I 0 6 ∧ I 0 6 ≤ 7 from (hI 0 6).1)
      have f20 := (show 0 ≤ I 0 119 ∧ I 0 119 ≤ 6 from (hI 0 119).1)
      have L284 : ∀ (I21 : gr_I) (J22 : gr_J) , gr_Inv I21 → gr_fr [71, 72, 73, 74, 75, 76, 77, 119, 120] [70, 71, 72, 73] I I21 → gr_fj [71, 72, 73, 74, 75, 76, 77, 119, 120] [70, 71, 72, 73] J J22 → ((I21 0 119 ≤ 5) ∧ (I21 0 71 = 5 ∨ I21 0 73 ≤ I21 0 69) ∧ (I21 0 72 ≤ I21 0 69) ∧ (I21 0 71 = 0 ∨ (I21 0 72 < I21 0 73 ∧ I21 0 72 < I21 0 69)) ∧ (I21 0 71 = 3 → 2 ≤ I21 0 73 - I21 0 72 ∧ I21 0 73 - I21 0 72 ≤ 14) ∧ (I21 0 72 ≤ I21 0 73) ∧ (I21 0 69 = I 0 69) ∧ (I 0 73 ≤ I21 0 73) ∧ (I 0 72 ≤ I21 0 72) ∧ (I21 0 6 = I 0 6)) → gv_X (gr_E ws0 tb 11 (yX13_said, cX13_said, 3, (some .boolean)) kX13_said) (gv_Q cX13_said (some .boolean) (gr_sh ++ ext) (fun r h' => (∃ (I' : gr_I) (J' : gr_J), h' = gr_h I' J' ∧ gr_Inv I' ∧ gr_fr [71, 72, 73, 74, 75, 76, 77, 119, 120] [70, 71, 72, 73] I I' ∧ gr_fj [71, 72, 73, 74, 75, 76, 77, 119, 120] [70, 71, 72, 73] J J' ∧ (∃ z : Int, r = some (.inl z) ∧ 0 ≤ z ∧ z ≤ 1 ∧ (I' 0 71 = 5 ∨ I' 0 73 ≤ I' 0 69) ∧ (I' 0 72 ≤ I' 0 69) ∧ (I' 0 71 = 0 ∨ (I' 0 72 < I' 0 73 ∧ I' 0 72 < I' 0 69)) ∧ (I' 0 71 = 3 → 2 ≤ I' 0 73 - I' 0 72 ∧ I' 0 73 - I' 0 72 ≤ 14) ∧ (I' 0 72 ≤ I' 0 73) ∧ (I' 0 69 = I 0 69) ∧ (I 0 73 ≤ I' 0 73) ∧ (I 0 72 ≤ I' 0 72))))) (284, [(0, .inr (.inr (some 0)))], [], gr_sh ++ ext, gr_h I21 J22) := by
        intro I21 J22 hI21 FI21 FJ22 m_23
        obtain ⟨e0_23, e1_23, e2_23, e3_23, e4_23, e5_23, e6_23, e7_23, e8_23, e9_23⟩ := m_23
        have f24 := (show 0 ≤ I21 0 71 ∧ I21 0 71 ≤ 5 from (hI21 0 71).1)
        have f25 := (show 0 ≤ I21 0 72 ∧ I21 0 72 ≤ 1000 from (hI21 0 72).1)
        have f26 := (show 0 ≤ I21 0 73 ∧ I21 0 73 ≤ 1001 from (hI21 0 73).1)
        have f27 := (show 0 ≤ I21 0 69 ∧ I21 0 69 ≤ 1000 from (hI21 0 69).1)
        have f28 := (show (-1) ≤ I21 0 6 ∧ I21 0 6 ≤ 7 from (hI21 0 6).1)
        have f29 := (show 0 ≤ I21 0 119 ∧ I21 0 119 ≤ 6 from (hI21 0 119).1)
        have f30 := (show 0 ≤ I21 0 119 ∧ I21 0 119 ≤ 6 from (hI21 0 119).1)
        refine gv_run 5 true hD (pc' := 291) (lv' := [(0, .inr (.inr (some 0)))]) (st' := [.inl ((I21 0 119) + 1), .inr (.inr (some 0))]) (h' := gr_h I21 J22) (C := (((((True ∧ True) ∧ True) ∧ True) ∧ True) ∧ True)) rfl ⟨⟨⟨⟨⟨trivial, trivial⟩, trivial⟩, trivial⟩, trivial⟩, trivial⟩ ?_
        refine gv_run 1 true hD (pc' := 294) (lv' := [(0, .inr (.inr (some 0)))]) (st' := []) (h' := gz_up (gr_h I21 J22) 0 119 (.inl (((I21 0 119) + 1)))) (C := (True ∧ True)) rfl ⟨trivial, trivial⟩ ?_
        refine gr_st hI21 FI21 rfl rfl ⟨⟨by show 0 ≤ _; omega, by show _ ≤ 6; omega⟩, trivial⟩ (fun I31 hI31 FI31 q32 p32 => ?_)
        have t33 := p32 0 71 (by decide)
        have t34 := p32 0 72 (by decide)
        have t35 := p32 0 73 (by decide)
        have t36 := p32 0 69 (by decide)
        have t37 := p32 0 6 (by decide)
        have f38 := (show 0 ≤ I31 0 71 ∧ I31 0 71 ≤ 5 from (hI31 0 71).1)
        have f39 := (show 0 ≤ I31 0 72 ∧ I31 0 72 ≤ 1000 from (hI31 0 72).1)
        have f40 := (show 0 ≤ I31 0 73 ∧ I31 0 73 ≤ 1001 from (hI31 0 73).1)
        have f41 := (show 0 ≤ I31 0 69 ∧ I31 0 69 ≤ 1000 from (hI31 0 69).1)
        have f42 := (show (-1) ≤ I31 0 6 ∧ I31 0 6 ≤ 7 from (hI31 0 6).1)
        have f43 := (show 0 ≤ I31 0 119 ∧ I31 0 119 ≤ 6 from (hI31 0 119).1)
        refine gv_run 1 true hD (pc' := 295) (lv' := [(0, .inr (.inr (some 0)))]) (st' := [.inl 1]) (h' := gr_h I31 J22) (C := (True ∧ True)) rfl ⟨trivial, trivial⟩ ?_
        exact gv_zret hD rfl (by omega) ⟨I31, J22, rfl, hI31, FI31, FJ22, ⟨_, rfl, by omega⟩⟩
      have L78 : ∀ (I44 : gr_I) (J45 : gr_J) , gr_Inv I44 → gr_fr [71, 72, 73, 74, 75, 76, 77, 119, 120] [70, 71, 72, 73] I I44 → gr_fj [71, 72, 73, 74, 75, 76, 77, 119, 120] [70, 71, 72, 73] J J45 → ((0 ≤ a1 ∧ a1 ≤ 95) ∧ (I44 0 119 ≤ 5) ∧ (I44 0 71 = 5 ∨ I44 0 73 ≤ I44 0 69) ∧ (I44 0 72 ≤ I44 0 69) ∧ (I44 0 71 = 0 ∨ (I44 0 72 < I44 0 73 ∧ I44 0 72 < I44 0 69)) ∧ (I44 0 71 = 3 → 2 ≤ I44 0 73 - I44 0 72 ∧ I44 0 73 - I44 0 72 ≤ 14) ∧ (I44 0 72 ≤ I44 0 73) ∧ (I44 0 69 = I 0 69) ∧ (I 0 73 ≤ I44 0 73) ∧ (I 0 72 ≤ I44 0 72) ∧ (I44 0 6 = I 0 6)) → gv_X (gr_E ws0 tb 11 (yX13_said, cX13_said, 3, (some .boolean)) kX13_said) (gv_Q cX13_said (some .boolean) (gr_sh ++ ext) (fun r h' => (∃ (I' : gr_I) (J' : gr_J), h' = gr_h I' J' ∧ gr_Inv I' ∧ gr_fr [71, 72, 73, 74, 75, 76, 77, 119, 120] [70, 71, 72, 73] I I' ∧ gr_fj [71, 72, 73, 74, 75, 76, 77, 119, 120] [70, 71, 72, 73] J J' ∧ (∃ z : Int, r = some (.inl z) ∧ 0 ≤ z ∧ z ≤ 1 ∧ (I' 0 71 = 5 ∨ I' 0 73 ≤ I' 0 69) ∧ (I' 0 72 ≤ I' 0 69) ∧ (I' 0 71 = 0 ∨ (I' 0 72 < I' 0 73 ∧ I' 0 72 < I' 0 69)) ∧ (I' 0 71 = 3 → 2 ≤ I' 0 73 - I' 0 72 ∧ I' 0 73 - I' 0 72 ≤ 14) ∧ (I' 0 72 ≤ I' 0 73) ∧ (I' 0 69 = I 0 69) ∧ (I 0 73 ≤ I' 0 73) ∧ (I 0 72 ≤ I' 0 72))))) (78, [(0, .inr (.inr (some 0))), (1, .inl a1)], [], gr_sh ++ ext, gr_h I44 J45) := by
        intro I44 J45 hI44 FI44 FJ45 m_46
        obtain ⟨ha1_46, e0_46, e1_46, e2_46, e3_46, e4_46, e5_46, e6_46, e7_46, e8_46, e9_46⟩ := m_46
        have f47 := (show 0 ≤ I44 0 71 ∧ I44 0 71 ≤ 5 from (hI44 0 71).1)
        have f48 := (show 0 ≤ I44 0 72 ∧ I44 0 72 ≤ 1000 from (hI44 0 72).1)
        have f49 := (show 0 ≤ I44 0 73 ∧ I44 0 73 ≤ 1001 from (hI44 0 73).1)
        have f50 := (show 0 ≤ I44 0 69 ∧ I44 0 69 ≤ 1000 from (hI44 0 69).1)
        have f51 := (show (-1) ≤ I44 0 6 ∧ I44 0 6 ≤ 7 from (hI44 0 6).1)
        have f52 := (show 0 ≤ I44 0 119 ∧ I44 0 119 ≤ 6 from (hI44 0 119).1)
        have L101 : ∀ (I53 : gr_I) (J54 : gr_J) , gr_Inv I53 → gr_fr [71, 72, 73, 74, 75, 76, 77, 119, 120] [70, 71, 72, 73] I I53 → gr_fj [71, 72, 73, 74, 75, 76, 77, 119, 120] [70, 71, 72, 73] J J54 → ((I53 0 119 ≤ 5) ∧ (I53 0 71 = 5 ∨ I53 0 73 ≤ I53 0 69) ∧ (I53 0 72 ≤ I53 0 69) ∧ (I53 0 71 = 0 ∨ (I53 0 72 < I53 0 73 ∧ I53 0 72 < I53 0 69)) ∧ (I53 0 71 = 3 → 2 ≤ I53 0 73 - I53 0 72 ∧ I53 0 73 - I53 0 72 ≤ 14) ∧ (I53 0 72 ≤ I53 0 73) ∧ (I53 0 69 = I 0 69) ∧ (I 0 73 ≤ I53 0 73) ∧ (I 0 72 ≤ I53 0 72) ∧ (I53 0 6 = I 0 6)) → gv_X (gr_E ws0 tb 11 (yX13_said, cX13_said, 3, (some .boolean)) kX13_said) (gv_Q cX13_said (some .boolean) (gr_sh ++ ext) (fun r h' => (∃ (I' : gr_I) (J' : gr_J), h' = gr_h I' J' ∧ gr_Inv I' ∧ gr_fr [71, 72, 73, 74, 75, 76, 77, 119, 120] [70, 71, 72, 73] I I' ∧ gr_fj [71, 72, 73, 74, 75, 76, 77, 119, 120] [70, 71, 72, 73] J J' ∧ (∃ z : Int, r = some (.inl z) ∧ 0 ≤ z ∧ z ≤ 1 ∧ (I' 0 71 = 5 ∨ I' 0 73 ≤ I' 0 69) ∧ (I' 0 72 ≤ I' 0 69) ∧ (I' 0 71 = 0 ∨ (I' 0 72 < I' 0 73 ∧ I' 0 72 < I' 0 69)) ∧ (I' 0 71 = 3 → 2 ≤ I' 0 73 - I' 0 72 ∧ I' 0 73 - I' 0 72 ≤ 14) ∧ (I' 0 72 ≤ I' 0 73) ∧ (I' 0 69 = I 0 69) ∧ (I 0 73 ≤ I' 0 73) ∧ (I 0 72 ≤ I' 0 72))))) (101, [(0, .inr (.inr (some 0)))], [], gr_sh ++ ext, gr_h I53 J54) := by
          intro I53 J54 hI53 FI53 FJ54 m_55
          obtain ⟨e0_55, e1_55, e2_55, e3_55, e4_55, e5_55, e6_55, e7_55, e8_55, e9_55⟩ := m_55
          have f56 := (show 0 ≤ I53 0 71 ∧ I53 0 71 ≤ 5 from (hI53 0 71).1)
          have f57 := (show 0 ≤ I53 0 72 ∧ I53 0 72 ≤ 1000 from (hI53 0 72).1)
          have f58 := (show 0 ≤ I53 0 73 ∧ I53 0 73 ≤ 1001 from (hI53 0 73).1)
          have f59 := (show 0 ≤ I53 0 69 ∧ I53 0 69 ≤ 1000 from (hI53 0 69).1)
          have f60 := (show (-1) ≤ I53 0 6 ∧ I53 0 6 ≤ 7 from (hI53 0 6).1)
          have f61 := (show 0 ≤ I53 0 119 ∧ I53 0 119 ≤ 6 from (hI53 0 119).1)
          have f62 := (show 0 ≤ I53 0 119 ∧ I53 0 119 ≤ 6 from (hI53 0 119).1)
          have f63 := (show 0 ≤ I53 0 120 ∧ I53 0 120 ≤ 3 from (hI53 0 120).1)
          refine gv_run 6 true hD (pc' := 113) (lv' := [(0, .inr (.inr (some 0)))]) (st' := [.inl (I53 0 120), .inl (I53 0 119), .inr (.inr (some 72))]) (h' := gr_h I53 J54) (C := ((((((True ∧ True) ∧ True) ∧ True) ∧ True) ∧ True) ∧ True)) rfl ⟨⟨⟨⟨⟨⟨trivial, trivial⟩, trivial⟩, trivial⟩, trivial⟩, trivial⟩, trivial⟩ ?_
          refine gv_run 1 true hD (pc' := 114) (lv' := [(0, .inr (.inr (some 0)))]) (st' := []) (h' := gz_up (gr_h I53 J54) 72 (Int.toNat ((I53 0 119))) (.inl (I53 0 120))) (C := (True ∧ (0 ≤ (I53 0 119) ∧ (I53 0 119) < ((6 : Nat) : Int)))) rfl ⟨trivial, ⟨by omega, by omega⟩⟩ ?_
          refine gr_st hI53 FI53 rfl rfl ⟨⟨by show 0 ≤ _; omega, by show _ ≤ 3; omega⟩, trivial⟩ (fun I64 hI64 FI64 q65 p65 => ?_)
          have t66 := p65 0 71 (fun q => absurd q.1 (by decide))
          have t67 := p65 0 72 (fun q => absurd q.1 (by decide))
          have t68 := p65 0 73 (fun q => absurd q.1 (by decide))
          have t69 := p65 0 69 (fun q => absurd q.1 (by decide))
          have t70 := p65 0 6 (fun q => absurd q.1 (by decide))
          have t71 := p65 0 119 (fun q => absurd q.1 (by decide))
          have f72 := (show 0 ≤ I64 0 71 ∧ I64 0 71 ≤ 5 from (hI64 0 71).1)
          have f73 := (show 0 ≤ I64 0 72 ∧ I64 0 72 ≤ 1000 from (hI64 0 72).1)
          have f74 := (show 0 ≤ I64 0 73 ∧ I64 0 73 ≤ 1001 from (hI64 0 73).1)
          have f75 := (show 0 ≤ I64 0 69 ∧ I64 0 69 ≤ 1000 from (hI64 0 69).1)
          have f76 := (show (-1) ≤ I64 0 6 ∧ I64 0 6 ≤ 7 from (hI64 0 6).1)
          have f77 := (show 0 ≤ I64 0 119 ∧ I64 0 119 ≤ 6 from (hI64 0 119).1)
          refine gv_run 1 true hD (pc' := 115) (lv' := [(0, .inr (.inr (some 0)))]) (st' := [.inr (.inr (some 0))]) (h' := gr_h I64 J54) (C := (True ∧ True)) rfl ⟨trivial, trivial⟩ ?_
          obtain ⟨r78, h78, E78, P78⟩ := r_featureOf (ws0 := ws0) (tb := tb) hws htb ext I64 J54 hI64   (by omega) (by omega) (by omega) (by omega) (by omega) (by omega) (by omega)
          obtain ⟨I79, J80, rfl, hI79, g78, k78, ⟨z78, rfl, q78⟩⟩ := P78
          have FI79 := gr_frt FI64 g78 rfl rfl
          have FJ80 := gr_fjt FJ54 k78 rfl rfl
          have t81 := g78 0 69 rfl
          have t82 := g78 0 6 rfl
          have t83 := g78 0 119 rfl
          have f84 := (show 0 ≤ I79 0 71 ∧ I79 0 71 ≤ 5 from (hI79 0 71).1)
          have f85 := (show 0 ≤ I79 0 72 ∧ I79 0 72 ≤ 1000 from (hI79 0 72).1)
          have f86 := (show 0 ≤ I79 0 73 ∧ I79 0 73 ≤ 1001 from (hI79 0 73).1)
          have f87 := (show 0 ≤ I79 0 69 ∧ I79 0 69 ≤ 1000 from (hI79 0 69).1)
          have f88 := (show (-1) ≤ I79 0 6 ∧ I79 0 6 ≤ 7 from (hI79 0 6).1)
          have f89 := (show 0 ≤ I79 0 119 ∧ I79 0 119 ≤ 6 from (hI79 0 119).1)
          refine gv_callV hD rfl (As := []) (st := []) rfl (by decide) rfl rfl (gr_lV hws rfl) (Nat.le_of_ble_eq_true rfl) (gz_Ev_mono (d := 11) (by decide) E78) ?_
          show gv_X _ _ (118, [(0, .inr (.inr (some 0)))], [.inl z78], gr_sh ++ ext, gr_h I79 J80)
          refine gv_if_ne (t := 284) hD rfl rfl ⟨by omega, by omega⟩ (fun c90 => ?_) (fun c90 => ?_)
          · exact L284 I79 J80 hI79 FI79 FJ80 (by omega)
          · refine gv_run 1 true hD (pc' := 122) (lv' := [(0, .inr (.inr (some 0)))]) (st' := [.inl 0]) (h' := gr_h I79 J80) (C := (True ∧ True)) rfl ⟨trivial, trivial⟩ ?_
            exact gv_zret hD rfl (by omega) ⟨I79, J80, rfl, hI79, FI79, FJ80, ⟨_, rfl, by omega⟩⟩
        have f91 := (show 0 ≤ I44 0 119 ∧ I44 0 119 ≤ 6 from (hI44 0 119).1)
        have f92 := (show 0 ≤ I44 0 120 ∧ I44 0 120 ≤ 3 from (hI44 0 120).1)
        refine gv_run 6 true hD (pc' := 90) (lv' := [(0, .inr (.inr (some 0))), (1, .inl a1)]) (st' := [.inl (I44 0 120), .inl (I44 0 119), .inr (.inr (some 71))]) (h' := gr_h I44 J45) (C := ((((((True ∧ True) ∧ True) ∧ True) ∧ True) ∧ True) ∧ True)) rfl ⟨⟨⟨⟨⟨⟨trivial, trivial⟩, trivial⟩, trivial⟩, trivial⟩, trivial⟩, trivial⟩ ?_
        refine gv_run 1 true hD (pc' := 91) (lv' := [(0, .inr (.inr (some 0))), (1, .inl a1)]) (st' := []) (h' := gz_up (gr_h I44 J45) 71 (Int.toNat ((I44 0 119))) (.inl (I44 0 120))) (C := (True ∧ (0 ≤ (I44 0 119) ∧ (I44 0 119) < ((6 : Nat) : Int)))) rfl ⟨trivial, ⟨by omega, by omega⟩⟩ ?_
        refine gr_st hI44 FI44 rfl rfl ⟨⟨by show 0 ≤ _; omega, by show _ ≤ 6; omega⟩, trivial⟩ (fun I93 hI93 FI93 q94 p94 => ?_)
        have t95 := p94 0 71 (fun q => absurd q.1 (by decide))
        have t96 := p94 0 72 (fun q => absurd q.1 (by decide))
        have t97 := p94 0 73 (fun q => absurd q.1 (by decide))
        have t98 := p94 0 69 (fun q => absurd q.1 (by decide))
        have t99 := p94 0 6 (fun q => absurd q.1 (by decide))
        have t100 := p94 0 119 (fun q => absurd q.1 (by decide))
        have f101 := (show 0 ≤ I93 0 71 ∧ I93 0 71 ≤ 5 from (hI93 0 71).1)
        have f102 := (show 0 ≤ I93 0 72 ∧ I93 0 72 ≤ 1000 from (hI93 0 72).1)
        have f103 := (show 0 ≤ I93 0 73 ∧ I93 0 73 ≤ 1001 from (hI93 0 73).1)
        have f104 := (show 0 ≤ I93 0 69 ∧ I93 0 69 ≤ 1000 from (hI93 0 69).1)
        have f105 := (show (-1) ≤ I93 0 6 ∧ I93 0 6 ≤ 7 from (hI93 0 6).1)
        have f106 := (show 0 ≤ I93 0 119 ∧ I93 0 119 ≤ 6 from (hI93 0 119).1)
        refine gv_run 2 true hD (pc' := 93) (lv' := [(0, .inr (.inr (some 0))), (1, .inl a1)]) (st' := [.inl a1, .inr (.inr (some 0))]) (h' := gr_h I93 J45) (C := ((True ∧ True) ∧ True)) rfl ⟨⟨trivial, trivial⟩, trivial⟩ ?_
        obtain ⟨r107, h107, E107, P107⟩ := r_argumentOf (ws0 := ws0) (tb := tb) hws htb ext I93 J45 hI93 a1 ⟨by omega, by omega⟩ (by omega) (by omega) (by omega) (by omega) (by omega)
        obtain ⟨I108, J109, rfl, hI108, g107, k107, ⟨z107, rfl, q107⟩⟩ := P107
        have FI108 := gr_frt FI93 g107 rfl rfl
        have FJ109 := gr_fjt FJ45 k107 rfl rfl
        have t110 := g107 0 69 rfl
        have t111 := g107 0 6 rfl
        have t112 := g107 0 119 rfl
        have f113 := (show 0 ≤ I108 0 71 ∧ I108 0 71 ≤ 5 from (hI108 0 71).1)
        have f114 := (show 0 ≤ I108 0 72 ∧ I108 0 72 ≤ 1000 from (hI108 0 72).1)
        have f115 := (show 0 ≤ I108 0 73 ∧ I108 0 73 ≤ 1001 from (hI108 0 73).1)
        have f116 := (show 0 ≤ I108 0 69 ∧ I108 0 69 ≤ 1000 from (hI108 0 69).1)
        have f117 := (show (-1) ≤ I108 0 6 ∧ I108 0 6 ≤ 7 from (hI108 0 6).1)
        have f118 := (show 0 ≤ I108 0 119 ∧ I108 0 119 ≤ 6 from (hI108 0 119).1)
        refine gv_callV hD rfl (As := [.inl a1]) (st := []) rfl (by decide) rfl rfl (gr_lV hws rfl) (Nat.le_of_ble_eq_true rfl) (gz_Ev_mono (d := 11) (by decide) E107) ?_
        show gv_X _ _ (96, [(0, .inr (.inr (some 0))), (1, .inl a1)], [.inl z107], gr_sh ++ ext, gr_h I108 J109)
        refine gv_if_ne (t := 101) hD rfl rfl ⟨by omega, by omega⟩ (fun c119 => ?_) (fun c119 => ?_)
        · refine gv_pick [0] rfl ?_
          exact L101 I108 J109 hI108 FI108 FJ109 (by omega)
        · refine gv_run 1 true hD (pc' := 100) (lv' := [(0, .inr (.inr (some 0))), (1, .inl a1)]) (st' := [.inl 0]) (h' := gr_h I108 J109) (C := (True ∧ True)) rfl ⟨trivial, trivial⟩ ?_
          exact gv_zret hD rfl (by omega) ⟨I108, J109, rfl, hI108, FI108, FJ109, ⟨_, rfl, by omega⟩⟩
      have L155 : ∀ (I120 : gr_I) (J121 : gr_J) , gr_Inv I120 → gr_fr [71, 72, 73, 74, 75, 76, 77, 119, 120] [70, 71, 72, 73] I I120 → gr_fj [71, 72, 73, 74, 75, 76, 77, 119, 120] [70, 71, 72, 73] J J121 → ((I120 0 119 ≤ 5) ∧ (I120 0 71 = 5 ∨ I120 0 73 ≤ I120 0 69) ∧ (I120 0 72 ≤ I120 0 69) ∧ (I120 0 71 = 0 ∨ (I120 0 72 < I120 0 73 ∧ I120 0 72 < I120 0 69)) ∧ (I120 0 71 = 3 → 2 ≤ I120 0 73 - I120 0 72 ∧ I120 0 73 - I120 0 72 ≤ 14) ∧ (I120 0 72 ≤ I120 0 73) ∧ (I120 0 69 = I 0 69) ∧ (I 0 73 ≤ I120 0 73) ∧ (I 0 72 ≤ I120 0 72) ∧ (I120 0 6 = I 0 6)) → gv_X (gr_E ws0 tb 11 (yX13_said, cX13_said, 3, (some .boolean)) kX13_said) (gv_Q cX13_said (some .boolean) (gr_sh ++ ext) (fun r h' => (∃ (I' : gr_I) (J' : gr_J), h' = gr_h I' J' ∧ gr_Inv I' ∧ gr_fr [71, 72, 73, 74, 75, 76, 77, 119, 120] [70, 71, 72, 73] I I' ∧ gr_fj [71, 72, 73, 74, 75, 76, 77, 119, 120] [70, 71, 72, 73] J J' ∧ (∃ z : Int, r = some (.inl z) ∧ 0 ≤ z ∧ z ≤ 1 ∧ (I' 0 71 = 5 ∨ I' 0 73 ≤ I' 0 69) ∧ (I' 0 72 ≤ I' 0 69) ∧ (I' 0 71 = 0 ∨ (I' 0 72 < I' 0 73 ∧ I' 0 72 < I' 0 69)) ∧ (I' 0 71 = 3 → 2 ≤ I' 0 73 - I' 0 72 ∧ I' 0 73 - I' 0 72 ≤ 14) ∧ (I' 0 72 ≤ I' 0 73) ∧ (I' 0 69 = I 0 69) ∧ (I 0 73 ≤ I' 0 73) ∧ (I 0 72 ≤ I' 0 72))))) (155, [(0, .inr (.inr (some 0)))], [], gr_sh ++ ext, gr_h I120 J121) := by
        intro I120 J121 hI120 FI120 FJ121 m_122
        obtain ⟨e0_122, e1_122, e2_122, e3_122, e4_122, e5_122, e6_122, e7_122, e8_122, e9_122⟩ := m_122
        have f123 := (show 0 ≤ I120 0 71 ∧ I120 0 71 ≤ 5 from (hI120 0 71).1)
        have f124 := (show 0 ≤ I120 0 72 ∧ I120 0 72 ≤ 1000 from (hI120 0 72).1)
        have f125 := (show 0 ≤ I120 0 73 ∧ I120 0 73 ≤ 1001 from (hI120 0 73).1)
        have f126 := (show 0 ≤ I120 0 69 ∧ I120 0 69 ≤ 1000 from (hI120 0 69).1)
        have f127 := (show (-1) ≤ I120 0 6 ∧ I120 0 6 ≤ 7 from (hI120 0 6).1)
        have f128 := (show 0 ≤ I120 0 119 ∧ I120 0 119 ≤ 6 from (hI120 0 119).1)
        have f129 := (show 0 ≤ I120 0 119 ∧ I120 0 119 ≤ 6 from (hI120 0 119).1)
        have f130 := (show 0 ≤ I120 0 120 ∧ I120 0 120 ≤ 3 from (hI120 0 120).1)
        refine gv_run 6 true hD (pc' := 167) (lv' := [(0, .inr (.inr (some 0)))]) (st' := [.inl (I120 0 120), .inl (I120 0 119), .inr (.inr (some 71))]) (h' := gr_h I120 J121) (C := ((((((True ∧ True) ∧ True) ∧ True) ∧ True) ∧ True) ∧ True)) rfl ⟨⟨⟨⟨⟨⟨trivial, trivial⟩, trivial⟩, trivial⟩, trivial⟩, trivial⟩, trivial⟩ ?_
        refine gv_run 1 true hD (pc' := 168) (lv' := [(0, .inr (.inr (some 0)))]) (st' := []) (h' := gz_up (gr_h I120 J121) 71 (Int.toNat ((I120 0 119))) (.inl (I120 0 120))) (C := (True ∧ (0 ≤ (I120 0 119) ∧ (I120 0 119) < ((6 : Nat) : Int)))) rfl ⟨trivial, ⟨by omega, by omega⟩⟩ ?_
        refine gr_st hI120 FI120 rfl rfl ⟨⟨by show 0 ≤ _; omega, by show _ ≤ 6; omega⟩, trivial⟩ (fun I131 hI131 FI131 q132 p132 => ?_)
        have t133 := p132 0 71 (fun q => absurd q.1 (by decide))
        have t134 := p132 0 72 (fun q => absurd q.1 (by decide))
        have t135 := p132 0 73 (fun q => absurd q.1 (by decide))
        have t136 := p132 0 69 (fun q => absurd q.1 (by decide))
        have t137 := p132 0 6 (fun q => absurd q.1 (by decide))
        have t138 := p132 0 119 (fun q => absurd q.1 (by decide))
        have f139 := (show 0 ≤ I131 0 71 ∧ I131 0 71 ≤ 5 from (hI131 0 71).1)
        have f140 := (show 0 ≤ I131 0 72 ∧ I131 0 72 ≤ 1000 from (hI131 0 72).1)
        have f141 := (show 0 ≤ I131 0 73 ∧ I131 0 73 ≤ 1001 from (hI131 0 73).1)
        have f142 := (show 0 ≤ I131 0 69 ∧ I131 0 69 ≤ 1000 from (hI131 0 69).1)
        have f143 := (show (-1) ≤ I131 0 6 ∧ I131 0 6 ≤ 7 from (hI131 0 6).1)
        have f144 := (show 0 ≤ I131 0 119 ∧ I131 0 119 ≤ 6 from (hI131 0 119).1)
        refine gv_run 1 true hD (pc' := 169) (lv' := [(0, .inr (.inr (some 0)))]) (st' := [.inr (.inr (some 0))]) (h' := gr_h I131 J121) (C := (True ∧ True)) rfl ⟨trivial, trivial⟩ ?_
        obtain ⟨r145, h145, E145, P145⟩ := r_featureOf (ws0 := ws0) (tb := tb) hws htb ext I131 J121 hI131   (by omega) (by omega) (by omega) (by omega) (by omega) (by omega) (by omega)
        obtain ⟨I146, J147, rfl, hI146, g145, k145, ⟨z145, rfl, q145⟩⟩ := P145
        have FI146 := gr_frt FI131 g145 rfl rfl
        have FJ147 := gr_fjt FJ121 k145 rfl rfl
        have t148 := g145 0 69 rfl
        have t149 := g145 0 6 rfl
        have t150 := g145 0 119 rfl
        have f151 := (show 0 ≤ I146 0 71 ∧ I146 0 71 ≤ 5 from (hI146 0 71).1)
        have f152 := (show 0 ≤ I146 0 72 ∧ I146 0 72 ≤ 1000 from (hI146 0 72).1)
        have f153 := (show 0 ≤ I146 0 73 ∧ I146 0 73 ≤ 1001 from (hI146 0 73).1)
        have f154 := (show 0 ≤ I146 0 69 ∧ I146 0 69 ≤ 1000 from (hI146 0 69).1)
        have f155 := (show (-1) ≤ I146 0 6 ∧ I146 0 6 ≤ 7 from (hI146 0 6).1)
        have f156 := (show 0 ≤ I146 0 119 ∧ I146 0 119 ≤ 6 from (hI146 0 119).1)
        refine gv_callV hD rfl (As := []) (st := []) rfl (by decide) rfl rfl (gr_lV hws rfl) (Nat.le_of_ble_eq_true rfl) (gz_Ev_mono (d := 11) (by decide) E145) ?_
        show gv_X _ _ (172, [(0, .inr (.inr (some 0)))], [.inl z145], gr_sh ++ ext, gr_h I146 J147)
        refine gv_if_ne (t := 284) hD rfl rfl ⟨by omega, by omega⟩ (fun c157 => ?_) (fun c157 => ?_)
        · exact L284 I146 J147 hI146 FI146 FJ147 (by omega)
        · refine gv_run 1 true hD (pc' := 176) (lv' := [(0, .inr (.inr (some 0)))]) (st' := [.inl 0]) (h' := gr_h I146 J147) (C := (True ∧ True)) rfl ⟨trivial, trivial⟩ ?_
          exact gv_zret hD rfl (by omega) ⟨I146, J147, rfl, hI146, FI146, FJ147, ⟨_, rfl, by omega⟩⟩
      have L186 : ∀ (I158 : gr_I) (J159 : gr_J) , gr_Inv I158 → gr_fr [71, 72, 73, 74, 75, 76, 77, 119, 120] [70, 71, 72, 73] I I158 → gr_fj [71, 72, 73, 74, 75, 76, 77, 119, 120] [70, 71, 72, 73] J J159 → ((I158 0 119 ≤ 5) ∧ (I158 0 71 = 1) ∧ (I158 0 71 = 5 ∨ I158 0 73 ≤ I158 0 69) ∧ (I158 0 72 ≤ I158 0 69) ∧ (I158 0 71 = 0 ∨ (I158 0 72 < I158 0 73 ∧ I158 0 72 < I158 0 69)) ∧ (I158 0 71 = 3 → 2 ≤ I158 0 73 - I158 0 72 ∧ I158 0 73 - I158 0 72 ≤ 14) ∧ (I158 0 72 ≤ I158 0 73) ∧ (I158 0 69 = I 0 69) ∧ (I 0 73 ≤ I158 0 73) ∧ (I 0 72 ≤ I158 0 72) ∧ (I158 0 6 = I 0 6)) → gv_X (gr_E ws0 tb 11 (yX13_said, cX13_said, 3, (some .boolean)) kX13_said) (gv_Q cX13_said (some .boolean) (gr_sh ++ ext) (fun r h' => (∃ (I' : gr_I) (J' : gr_J), h' = gr_h I' J' ∧ gr_Inv I' ∧ gr_fr [71, 72, 73, 74, 75, 76, 77, 119, 120] [70, 71, 72, 73] I I' ∧ gr_fj [71, 72, 73, 74, 75, 76, 77, 119, 120] [70, 71, 72, 73] J J' ∧ (∃ z : Int, r = some (.inl z) ∧ 0 ≤ z ∧ z ≤ 1 ∧ (I' 0 71 = 5 ∨ I' 0 73 ≤ I' 0 69) ∧ (I' 0 72 ≤ I' 0 69) ∧ (I' 0 71 = 0 ∨ (I' 0 72 < I' 0 73 ∧ I' 0 72 < I' 0 69)) ∧ (I' 0 71 = 3 → 2 ≤ I' 0 73 - I' 0 72 ∧ I' 0 73 - I' 0 72 ≤ 14) ∧ (I' 0 72 ≤ I' 0 73) ∧ (I' 0 69 = I 0 69) ∧ (I 0 73 ≤ I' 0 73) ∧ (I 0 72 ≤ I' 0 72))))) (186, [(0, .inr (.inr (some 0)))], [], gr_sh ++ ext, gr_h I158 J159) := by
        intro I158 J159 hI158 FI158 FJ159 m_160
        obtain ⟨e0_160, e1_160, e2_160, e3_160, e4_160, e5_160, e6_160, e7_160, e8_160, e9_160, e10_160⟩ := m_160
        have f161 := (show 0 ≤ I158 0 71 ∧ I158 0 71 ≤ 5 from (hI158 0 71).1)
        have f162 := (show 0 ≤ I158 0 72 ∧ I158 0 72 ≤ 1000 from (hI158 0 72).1)
        have f163 := (show 0 ≤ I158 0 73 ∧ I158 0 73 ≤ 1001 from (hI158 0 73).1)
        have f164 := (show 0 ≤ I158 0 69 ∧ I158 0 69 ≤ 1000 from (hI158 0 69).1)
        have f165 := (show (-1) ≤ I158 0 6 ∧ I158 0 6 ≤ 7 from (hI158 0 6).1)
        have f166 := (show 0 ≤ I158 0 119 ∧ I158 0 119 ≤ 6 from (hI158 0 119).1)
        have f167 := (show (-1) ≤ I158 0 6 ∧ I158 0 6 ≤ 7 from (hI158 0 6).1)
        refine gv_run 7 true hD (pc' := 198) (lv' := [(0, .inr (.inr (some 0)))]) (st' := [.inr (.inr (some 0)), .inl (48 * (I158 0 6)), .inr (.inr (some 21))]) (h' := gr_h I158 J159) (C := (((((((True ∧ True) ∧ True) ∧ True) ∧ True) ∧ True) ∧ True) ∧ True)) rfl ⟨⟨⟨⟨⟨⟨⟨trivial, trivial⟩, trivial⟩, trivial⟩, trivial⟩, trivial⟩, trivial⟩, trivial⟩ ?_
        have f168 := (show (-1) ≤ I158 0 6 ∧ I158 0 6 ≤ 7 from (hI158 0 6).1)
        have f169 := (show 0 ≤ I158 14 (Int.toNat ((I158 0 6))) ∧ I158 14 (Int.toNat ((I158 0 6))) ≤ 48 from (hI158 14 (Int.toNat ((I158 0 6)))).1)
        refine gv_run 4 true hD (pc' := 206) (lv' := [(0, .inr (.inr (some 0)))]) (st' := [.inl (I158 14 (Int.toNat ((I158 0 6)))), .inl (48 * (I158 0 6)), .inr (.inr (some 21))]) (h' := gr_h I158 J159) (C := ((((True ∧ True) ∧ True) ∧ True) ∧ (0 ≤ (I158 0 6) ∧ (I158 0 6) < ((8 : Nat) : Int)))) rfl ⟨⟨⟨⟨trivial, trivial⟩, trivial⟩, trivial⟩, ⟨by omega, by omega⟩⟩ ?_
        refine gv_run 2 true hD (pc' := 210) (lv' := [(0, .inr (.inr (some 0)))]) (st' := [.inr (.inl (J159 0 75)), .inl (I158 14 (Int.toNat ((I158 0 6)))), .inl (48 * (I158 0 6)), .inr (.inr (some 21))]) (h' := gr_h I158 J159) (C := ((True ∧ True) ∧ True)) rfl ⟨⟨trivial, trivial⟩, trivial⟩ ?_
        obtain ⟨r170, h170, E170, P170⟩ := r_find_21 (ws0 := ws0) (tb := tb) hws htb ext I158 J159 hI158 ((48 * (I158 0 6))) ((I158 14 (Int.toNat ((I158 0 6))))) (J159 0 75) ⟨by omega, by omega⟩ ⟨by omega, by omega⟩ (by omega)
        obtain ⟨rfl, ⟨z170, rfl, q170⟩⟩ := P170
        refine gv_callS hD rfl (As := [.inr (.inr (some 21)), .inl (48 * (I158 0 6)), .inl (I158 14 (Int.toNat ((I158 0 6)))), .inr (.inl (J159 0 75))]) (st := []) rfl (gr_lS hws rfl) (Nat.le_of_ble_eq_true rfl) (gz_Ev_mono (d := 1) (by decide) E170) ?_
        show gv_X _ _ (213, [(0, .inr (.inr (some 0)))], [.inl z170], gr_sh ++ ext, gr_h I158 J159)
        refine gv_run 2 true hD (pc' := 215) (lv' := [(2, .inl z170), (0, .inr (.inr (some 0)))]) (st' := [.inl z170]) (h' := gr_h I158 J159) (C := ((True ∧ True) ∧ True)) rfl ⟨⟨trivial, trivial⟩, trivial⟩ ?_
        refine gv_if_ge (t := 224) hD rfl rfl ⟨by omega, by omega⟩ (fun c171 => ?_) (fun c171 => ?_)
        · have f172 := (show 0 ≤ I158 0 119 ∧ I158 0 119 ≤ 6 from (hI158 0 119).1)
          refine gv_run 5 true hD (pc' := 233) (lv' := [(2, .inl z170), (0, .inr (.inr (some 0)))]) (st' := [.inl 2, .inl (I158 0 119), .inr (.inr (some 70))]) (h' := gr_h I158 J159) (C := (((((True ∧ True) ∧ True) ∧ True) ∧ True) ∧ True)) rfl ⟨⟨⟨⟨⟨trivial, trivial⟩, trivial⟩, trivial⟩, trivial⟩, trivial⟩ ?_
          refine gv_run 1 true hD (pc' := 234) (lv' := [(2, .inl z170), (0, .inr (.inr (some 0)))]) (st' := []) (h' := gz_up (gr_h I158 J159) 70 (Int.toNat ((I158 0 119))) (.inl 2)) (C := (True ∧ (0 ≤ (I158 0 119) ∧ (I158 0 119) < ((6 : Nat) : Int)))) rfl ⟨trivial, ⟨by omega, by omega⟩⟩ ?_
          refine gr_st hI158 FI158 rfl rfl ⟨⟨by show 0 ≤ _; omega, by show _ ≤ 2; omega⟩, trivial⟩ (fun I173 hI173 FI173 q174 p174 => ?_)
          have t175 := p174 0 71 (fun q => absurd q.1 (by decide))
          have t176 := p174 0 72 (fun q => absurd q.1 (by decide))
          have t177 := p174 0 73 (fun q => absurd q.1 (by decide))
          have t178 := p174 0 69 (fun q => absurd q.1 (by decide))
          have t179 := p174 0 6 (fun q => absurd q.1 (by decide))
          have t180 := p174 0 119 (fun q => absurd q.1 (by decide))
          have f181 := (show 0 ≤ I173 0 71 ∧ I173 0 71 ≤ 5 from (hI173 0 71).1)
          have f182 := (show 0 ≤ I173 0 72 ∧ I173 0 72 ≤ 1000 from (hI173 0 72).1)
          have f183 := (show 0 ≤ I173 0 73 ∧ I173 0 73 ≤ 1001 from (hI173 0 73).1)
          have f184 := (show 0 ≤ I173 0 69 ∧ I173 0 69 ≤ 1000 from (hI173 0 69).1)
          have f185 := (show (-1) ≤ I173 0 6 ∧ I173 0 6 ≤ 7 from (hI173 0 6).1)
          have f186 := (show 0 ≤ I173 0 119 ∧ I173 0 119 ≤ 6 from (hI173 0 119).1)
          have f187 := (show 0 ≤ I173 0 119 ∧ I173 0 119 ≤ 6 from (hI173 0 119).1)
          refine gv_run 7 true hD (pc' := 248) (lv' := [(2, .inl z170), (0, .inr (.inr (some 0)))]) (st' := [.inl 48, .inr (.inr (some 24)), .inl (I173 0 119), .inr (.inr (some 73))]) (h' := gr_h I173 J159) (C := (((((((True ∧ True) ∧ True) ∧ True) ∧ True) ∧ True) ∧ True) ∧ True)) rfl ⟨⟨⟨⟨⟨⟨⟨trivial, trivial⟩, trivial⟩, trivial⟩, trivial⟩, trivial⟩, trivial⟩, trivial⟩ ?_
          have f188 := (show (-1) ≤ I173 0 6 ∧ I173 0 6 ≤ 7 from (hI173 0 6).1)
          have f189 := (show 0 ≤ I173 24 (Int.toNat (((48 * (I173 0 6)) + z170))) ∧ I173 24 (Int.toNat (((48 * (I173 0 6)) + z170))) ≤ 7 from (hI173 24 (Int.toNat (((48 * (I173 0 6)) + z170)))).1)
          refine gv_run 6 true hD (pc' := 256) (lv' := [(2, .inl z170), (0, .inr (.inr (some 0)))]) (st' := [.inl (I173 24 (Int.toNat (((48 * (I173 0 6)) + z170)))), .inl (I173 0 119), .inr (.inr (some 73))]) (h' := gr_h I173 J159) (C := ((((((True ∧ True) ∧ True) ∧ True) ∧ True) ∧ True) ∧ (0 ≤ (((48 * (I173 0 6)) + z170)) ∧ (((48 * (I173 0 6)) + z170)) < ((384 : Nat) : Int)))) rfl ⟨⟨⟨⟨⟨⟨trivial, trivial⟩, trivial⟩, trivial⟩, trivial⟩, trivial⟩, ⟨by omega, by omega⟩⟩ ?_
          refine gv_run 1 true hD (pc' := 257) (lv' := [(2, .inl z170), (0, .inr (.inr (some 0)))]) (st' := []) (h' := gz_up (gr_h I173 J159) 73 (Int.toNat ((I173 0 119))) (.inl ((I173 24 (Int.toNat (((48 * (I173 0 6)) + z170))))))) (C := (True ∧ (0 ≤ (I173 0 119) ∧ (I173 0 119) < ((6 : Nat) : Int)))) rfl ⟨trivial, ⟨by omega, by omega⟩⟩ ?_
          refine gr_st hI173 FI173 rfl rfl ⟨⟨by show 0 ≤ _; omega, by show _ ≤ 7; omega⟩, trivial⟩ (fun I190 hI190 FI190 q191 p191 => ?_)
          have t192 := p191 0 71 (fun q => absurd q.1 (by decide))
          have t193 := p191 0 72 (fun q => absurd q.1 (by decide))
          have t194 := p191 0 73 (fun q => absurd q.1 (by decide))
          have t195 := p191 0 69 (fun q => absurd q.1 (by decide))
          have t196 := p191 0 6 (fun q => absurd q.1 (by decide))
          have t197 := p191 0 119 (fun q => absurd q.1 (by decide))
          have f198 := (show 0 ≤ I190 0 71 ∧ I190 0 71 ≤ 5 from (hI190 0 71).1)
          have f199 := (show 0 ≤ I190 0 72 ∧ I190 0 72 ≤ 1000 from (hI190 0 72).1)
          have f200 := (show 0 ≤ I190 0 73 ∧ I190 0 73 ≤ 1001 from (hI190 0 73).1)
          have f201 := (show 0 ≤ I190 0 69 ∧ I190 0 69 ≤ 1000 from (hI190 0 69).1)
          have f202 := (show (-1) ≤ I190 0 6 ∧ I190 0 6 ≤ 7 from (hI190 0 6).1)
          have f203 := (show 0 ≤ I190 0 119 ∧ I190 0 119 ≤ 6 from (hI190 0 119).1)
          have f204 := (show 0 ≤ I190 0 119 ∧ I190 0 119 ≤ 6 from (hI190 0 119).1)
          refine gv_run 7 true hD (pc' := 271) (lv' := [(2, .inl z170), (0, .inr (.inr (some 0)))]) (st' := [.inl 48, .inr (.inr (some 25)), .inl (I190 0 119), .inr (.inr (some 71))]) (h' := gr_h I190 J159) (C := (((((((True ∧ True) ∧ True) ∧ True) ∧ True) ∧ True) ∧ True) ∧ True)) rfl ⟨⟨⟨⟨⟨⟨⟨trivial, trivial⟩, trivial⟩, trivial⟩, trivial⟩, trivial⟩, trivial⟩, trivial⟩ ?_
          have f205 := (show (-1) ≤ I190 0 6 ∧ I190 0 6 ≤ 7 from (hI190 0 6).1)
          have f206 := (show 0 ≤ I190 25 (Int.toNat (((48 * (I190 0 6)) + z170))) ∧ I190 25 (Int.toNat (((48 * (I190 0 6)) + z170))) ≤ 6 from (hI190 25 (Int.toNat (((48 * (I190 0 6)) + z170)))).1)
          refine gv_run 6 true hD (pc' := 279) (lv' := [(2, .inl z170), (0, .inr (.inr (some 0)))]) (st' := [.inl (I190 25 (Int.toNat (((48 * (I190 0 6)) + z170)))), .inl (I190 0 119), .inr (.inr (some 71))]) (h' := gr_h I190 J159) (C := ((((((True ∧ True) ∧ True) ∧ True) ∧ True) ∧ True) ∧ (0 ≤ (((48 * (I190 0 6)) + z170)) ∧ (((48 * (I190 0 6)) + z170)) < ((384 : Nat) : Int)))) rfl ⟨⟨⟨⟨⟨⟨trivial, trivial⟩, trivial⟩, trivial⟩, trivial⟩, trivial⟩, ⟨by omega, by omega⟩⟩ ?_
          refine gv_run 1 true hD (pc' := 280) (lv' := [(2, .inl z170), (0, .inr (.inr (some 0)))]) (st' := []) (h' := gz_up (gr_h I190 J159) 71 (Int.toNat ((I190 0 119))) (.inl ((I190 25 (Int.toNat (((48 * (I190 0 6)) + z170))))))) (C := (True ∧ (0 ≤ (I190 0 119) ∧ (I190 0 119) < ((6 : Nat) : Int)))) rfl ⟨trivial, ⟨by omega, by omega⟩⟩ ?_
          refine gr_st hI190 FI190 rfl rfl ⟨⟨by show 0 ≤ _; omega, by show _ ≤ 6; omega⟩, trivial⟩ (fun I207 hI207 FI207 q208 p208 => ?_)
          have t209 := p208 0 71 (fun q => absurd q.1 (by decide))
          have t210 := p208 0 72 (fun q => absurd q.1 (by decide))
          have t211 := p208 0 73 (fun q => absurd q.1 (by decide))
          have t212 := p208 0 69 (fun q => absurd q.1 (by decide))
          have t213 := p208 0 6 (fun q => absurd q.1 (by decide))
          have t214 := p208 0 119 (fun q => absurd q.1 (by decide))
          have f215 := (show 0 ≤ I207 0 71 ∧ I207 0 71 ≤ 5 from (hI207 0 71).1)
          have f216 := (show 0 ≤ I207 0 72 ∧ I207 0 72 ≤ 1000 from (hI207 0 72).1)
          have f217 := (show 0 ≤ I207 0 73 ∧ I207 0 73 ≤ 1001 from (hI207 0 73).1)
          have f218 := (show 0 ≤ I207 0 69 ∧ I207 0 69 ≤ 1000 from (hI207 0 69).1)
          have f219 := (show (-1) ≤ I207 0 6 ∧ I207 0 6 ≤ 7 from (hI207 0 6).1)
          have f220 := (show 0 ≤ I207 0 119 ∧ I207 0 119 ≤ 6 from (hI207 0 119).1)
          refine gv_run 1 true hD (pc' := 281) (lv' := [(2, .inl z170), (0, .inr (.inr (some 0)))]) (st' := [.inr (.inr (some 0))]) (h' := gr_h I207 J159) (C := (True ∧ True)) rfl ⟨trivial, trivial⟩ ?_
          obtain ⟨r221, h221, E221, P221⟩ := r_next (ws0 := ws0) (tb := tb) hws htb ext I207 J159 hI207   (by omega)
          obtain ⟨I222, J223, rfl, hI222, g221, k221, ⟨rfl, q221⟩⟩ := P221
          have FI222 := gr_frt FI207 g221 rfl rfl
          have FJ223 := gr_fjt FJ159 k221 rfl rfl
          have t224 := g221 0 69 rfl
          have t225 := g221 0 6 rfl
          have t226 := g221 0 119 rfl
          have f227 := (show 0 ≤ I222 0 71 ∧ I222 0 71 ≤ 5 from (hI222 0 71).1)
          have f228 := (show 0 ≤ I222 0 72 ∧ I222 0 72 ≤ 1000 from (hI222 0 72).1)
          have f229 := (show 0 ≤ I222 0 73 ∧ I222 0 73 ≤ 1001 from (hI222 0 73).1)
          have f230 := (show 0 ≤ I222 0 69 ∧ I222 0 69 ≤ 1000 from (hI222 0 69).1)
          have f231 := (show (-1) ≤ I222 0 6 ∧ I222 0 6 ≤ 7 from (hI222 0 6).1)
          have f232 := (show 0 ≤ I222 0 119 ∧ I222 0 119 ≤ 6 from (hI222 0 119).1)
          refine gv_callV hD rfl (As := []) (st := []) rfl (by decide) rfl rfl (gr_lV hws rfl) (Nat.le_of_ble_eq_true rfl) (gz_Ev_mono (d := 10) (by decide) E221) ?_
          show gv_X _ _ (284, [(2, .inl z170), (0, .inr (.inr (some 0)))], [], gr_sh ++ ext, gr_h I222 J223)
          refine gv_pick [1] rfl ?_
          exact L284 I222 J223 hI222 FI222 FJ223 (by omega)
        · refine gv_run 2 true hD (pc' := 220) (lv' := [(2, .inl z170), (0, .inr (.inr (some 0)))]) (st' := [.inl 5, .inr (.inr (some 0))]) (h' := gr_h I158 J159) (C := ((True ∧ True) ∧ True)) rfl ⟨⟨trivial, trivial⟩, trivial⟩ ?_
          obtain ⟨r233, h233, E233, P233⟩ := r_no_ (ws0 := ws0) (tb := tb) hws htb ext I158 J159 hI158 5 ⟨by omega, by omega⟩ 
          obtain ⟨I234, J235, rfl, hI234, g233, k233, ⟨z233, rfl, q233⟩⟩ := P233
          have FI234 := gr_frt FI158 g233 rfl rfl
          have FJ235 := gr_fjt FJ159 k233 rfl rfl
          have t236 := g233 0 71 rfl
          have t237 := g233 0 72 rfl
          have t238 := g233 0 73 rfl
          have t239 := g233 0 69 rfl
          have t240 := g233 0 6 rfl
          have t241 := g233 0 119 rfl
          have f242 := (show 0 ≤ I234 0 71 ∧ I234 0 71 ≤ 5 from (hI234 0 71).1)
          have f243 := (show 0 ≤ I234 0 72 ∧ I234 0 72 ≤ 1000 from (hI234 0 72).1)
          have f244 := (show 0 ≤ I234 0 73 ∧ I234 0 73 ≤ 1001 from (hI234 0 73).1)
          have f245 := (show 0 ≤ I234 0 69 ∧ I234 0 69 ≤ 1000 from (hI234 0 69).1)
          have f246 := (show (-1) ≤ I234 0 6 ∧ I234 0 6 ≤ 7 from (hI234 0 6).1)
          have f247 := (show 0 ≤ I234 0 119 ∧ I234 0 119 ≤ 6 from (hI234 0 119).1)
          refine gv_callV hD rfl (As := [.inl 5]) (st := []) rfl (by decide) rfl rfl (gr_lV hws rfl) (Nat.le_of_ble_eq_true rfl) (gz_Ev_mono (d := 2) (by decide) E233) ?_
          show gv_X _ _ (223, [(2, .inl z170), (0, .inr (.inr (some 0)))], [.inl z233], gr_sh ++ ext, gr_h I234 J235)
          exact gv_zret hD rfl (by omega) ⟨I234, J235, rfl, hI234, FI234, FJ235, ⟨_, rfl, by omega⟩⟩
      refine gv_run 3 true hD (pc' := 48) (lv' := [(0, .inr (.inr (some 0))), (1, .inl a1)]) (st' := [.inr (.inl (J 0 95)), .inr (.inr (some 0))]) (h' := gr_h I J) (C := (((True ∧ True) ∧ True) ∧ True)) rfl ⟨⟨⟨trivial, trivial⟩, trivial⟩, trivial⟩ ?_
      obtain ⟨r248, h248, E248, P248⟩ := r_is (ws0 := ws0) (tb := tb) hws htb ext I J hI (J 0 95)  
      obtain ⟨rfl, ⟨z248, rfl, q248⟩⟩ := P248
      refine gv_callV hD rfl (As := [.inr (.inl (J 0 95))]) (st := []) rfl (by decide) rfl rfl (gr_lV hws rfl) (Nat.le_of_ble_eq_true rfl) (gz_Ev_mono (d := 1) (by decide) E248) ?_
      show gv_X _ _ (51, [(0, .inr (.inr (some 0))), (1, .inl a1)], [.inl z248], gr_sh ++ ext, gr_h I J)
      refine gv_if_eq (t := 123) hD rfl rfl ⟨by omega, by omega⟩ (fun c249 => ?_) (fun c249 => ?_)
      · refine gv_run 1 true hD (pc' := 124) (lv' := [(0, .inr (.inr (some 0))), (1, .inl a1)]) (st' := [.inr (.inr (some 0))]) (h' := gr_h I J) (C := (True ∧ True)) rfl ⟨trivial, trivial⟩ ?_
        obtain ⟨r250, h250, E250, P250⟩ := r_next (ws0 := ws0) (tb := tb) hws htb ext I J hI   (by omega)
        obtain ⟨I251, J252, rfl, hI251, g250, k250, ⟨rfl, q250⟩⟩ := P250
        have FI251 := gr_frt FI g250 rfl rfl
        have FJ252 := gr_fjt FJ k250 rfl rfl
        have t253 := g250 0 69 rfl
        have t254 := g250 0 6 rfl
        have t255 := g250 0 119 rfl
        have f256 := (show 0 ≤ I251 0 71 ∧ I251 0 71 ≤ 5 from (hI251 0 71).1)
        have f257 := (show 0 ≤ I251 0 72 ∧ I251 0 72 ≤ 1000 from (hI251 0 72).1)
        have f258 := (show 0 ≤ I251 0 73 ∧ I251 0 73 ≤ 1001 from (hI251 0 73).1)
        have f259 := (show 0 ≤ I251 0 69 ∧ I251 0 69 ≤ 1000 from (hI251 0 69).1)
        have f260 := (show (-1) ≤ I251 0 6 ∧ I251 0 6 ≤ 7 from (hI251 0 6).1)
        have f261 := (show 0 ≤ I251 0 119 ∧ I251 0 119 ≤ 6 from (hI251 0 119).1)
        refine gv_callV hD rfl (As := []) (st := []) rfl (by decide) rfl rfl (gr_lV hws rfl) (Nat.le_of_ble_eq_true rfl) (gz_Ev_mono (d := 10) (by decide) E250) ?_
        show gv_X _ _ (127, [(0, .inr (.inr (some 0))), (1, .inl a1)], [], gr_sh ++ ext, gr_h I251 J252)
        have f262 := (show 0 ≤ I251 0 71 ∧ I251 0 71 ≤ 5 from (hI251 0 71).1)
        refine gv_run 3 true hD (pc' := 132) (lv' := [(0, .inr (.inr (some 0))), (1, .inl a1)]) (st' := [.inl 2, .inl (I251 0 71)]) (h' := gr_h I251 J252) (C := (((True ∧ True) ∧ True) ∧ True)) rfl ⟨⟨⟨trivial, trivial⟩, trivial⟩, trivial⟩ ?_
        refine gv_icmp_ne (t := 177) hD rfl rfl ⟨⟨by omega, by omega⟩, ⟨by omega, by omega⟩⟩ (fun c263 => ?_) (fun c263 => ?_)
        · refine gv_run 1 true hD (pc' := 178) (lv' := [(0, .inr (.inr (some 0))), (1, .inl a1)]) (st' := [.inr (.inr (some 0))]) (h' := gr_h I251 J252) (C := (True ∧ True)) rfl ⟨trivial, trivial⟩ ?_
          obtain ⟨r264, h264, E264, P264⟩ := r_name (ws0 := ws0) (tb := tb) hws htb ext I251 J252 hI251   
          obtain ⟨I265, J266, rfl, hI265, g264, k264, ⟨z264, rfl, q264⟩⟩ := P264
          have FI265 := gr_frt FI251 g264 rfl rfl
          have FJ266 := gr_fjt FJ252 k264 rfl rfl
          have t267 := g264 0 71 rfl
          have t268 := g264 0 72 rfl
          have t269 := g264 0 73 rfl
          have t270 := g264 0 69 rfl
          have t271 := g264 0 6 rfl
          have t272 := g264 0 119 rfl
          have f273 := (show 0 ≤ I265 0 71 ∧ I265 0 71 ≤ 5 from (hI265 0 71).1)
          have f274 := (show 0 ≤ I265 0 72 ∧ I265 0 72 ≤ 1000 from (hI265 0 72).1)
          have f275 := (show 0 ≤ I265 0 73 ∧ I265 0 73 ≤ 1001 from (hI265 0 73).1)
          have f276 := (show 0 ≤ I265 0 69 ∧ I265 0 69 ≤ 1000 from (hI265 0 69).1)
          have f277 := (show (-1) ≤ I265 0 6 ∧ I265 0 6 ≤ 7 from (hI265 0 6).1)
          have f278 := (show 0 ≤ I265 0 119 ∧ I265 0 119 ≤ 6 from (hI265 0 119).1)
          refine gv_callV hD rfl (As := []) (st := []) rfl (by decide) rfl rfl (gr_lV hws rfl) (Nat.le_of_ble_eq_true rfl) (gz_Ev_mono (d := 3) (by decide) E264) ?_
          show gv_X _ _ (181, [(0, .inr (.inr (some 0))), (1, .inl a1)], [.inl z264], gr_sh ++ ext, gr_h I265 J266)
          refine gv_if_ne (t := 186) hD rfl rfl ⟨by omega, by omega⟩ (fun c279 => ?_) (fun c279 => ?_)
          · refine gv_pick [0] rfl ?_
            exact L186 I265 J266 hI265 FI265 FJ266 (by omega)
          · refine gv_run 1 true hD (pc' := 185) (lv' := [(0, .inr (.inr (some 0))), (1, .inl a1)]) (st' := [.inl 0]) (h' := gr_h I265 J266) (C := (True ∧ True)) rfl ⟨trivial, trivial⟩ ?_
            exact gv_zret hD rfl (by omega) ⟨I265, J266, rfl, hI265, FI265, FJ266, ⟨_, rfl, by omega⟩⟩
        · have f280 := (show 0 ≤ I251 0 119 ∧ I251 0 119 ≤ 6 from (hI251 0 119).1)
          refine gv_run 5 true hD (pc' := 144) (lv' := [(0, .inr (.inr (some 0))), (1, .inl a1)]) (st' := [.inl 1, .inl (I251 0 119), .inr (.inr (some 70))]) (h' := gr_h I251 J252) (C := (((((True ∧ True) ∧ True) ∧ True) ∧ True) ∧ True)) rfl ⟨⟨⟨⟨⟨trivial, trivial⟩, trivial⟩, trivial⟩, trivial⟩, trivial⟩ ?_
          refine gv_run 1 true hD (pc' := 145) (lv' := [(0, .inr (.inr (some 0))), (1, .inl a1)]) (st' := []) (h' := gz_up (gr_h I251 J252) 70 (Int.toNat ((I251 0 119))) (.inl 1)) (C := (True ∧ (0 ≤ (I251 0 119) ∧ (I251 0 119) < ((6 : Nat) : Int)))) rfl ⟨trivial, ⟨by omega, by omega⟩⟩ ?_
          refine gr_st hI251 FI251 rfl rfl ⟨⟨by show 0 ≤ _; omega, by show _ ≤ 2; omega⟩, trivial⟩ (fun I281 hI281 FI281 q282 p282 => ?_)
          have t283 := p282 0 71 (fun q => absurd q.1 (by decide))
          have t284 := p282 0 72 (fun q => absurd q.1 (by decide))
          have t285 := p282 0 73 (fun q => absurd q.1 (by decide))
          have t286 := p282 0 69 (fun q => absurd q.1 (by decide))
          have t287 := p282 0 6 (fun q => absurd q.1 (by decide))
          have t288 := p282 0 119 (fun q => absurd q.1 (by decide))
          have f289 := (show 0 ≤ I281 0 71 ∧ I281 0 71 ≤ 5 from (hI281 0 71).1)
          have f290 := (show 0 ≤ I281 0 72 ∧ I281 0 72 ≤ 1000 from (hI281 0 72).1)
          have f291 := (show 0 ≤ I281 0 73 ∧ I281 0 73 ≤ 1001 from (hI281 0 73).1)
          have f292 := (show 0 ≤ I281 0 69 ∧ I281 0 69 ≤ 1000 from (hI281 0 69).1)
          have f293 := (show (-1) ≤ I281 0 6 ∧ I281 0 6 ≤ 7 from (hI281 0 6).1)
          have f294 := (show 0 ≤ I281 0 119 ∧ I281 0 119 ≤ 6 from (hI281 0 119).1)
          refine gv_run 2 true hD (pc' := 147) (lv' := [(0, .inr (.inr (some 0))), (1, .inl a1)]) (st' := [.inl a1, .inr (.inr (some 0))]) (h' := gr_h I281 J252) (C := ((True ∧ True) ∧ True)) rfl ⟨⟨trivial, trivial⟩, trivial⟩ ?_
          obtain ⟨r295, h295, E295, P295⟩ := r_argumentOf (ws0 := ws0) (tb := tb) hws htb ext I281 J252 hI281 a1 ⟨by omega, by omega⟩ (by omega) (by omega) (by omega) (by omega) (by omega)
          obtain ⟨I296, J297, rfl, hI296, g295, k295, ⟨z295, rfl, q295⟩⟩ := P295
          have FI296 := gr_frt FI281 g295 rfl rfl
          have FJ297 := gr_fjt FJ252 k295 rfl rfl
          have t298 := g295 0 69 rfl
          have t299 := g295 0 6 rfl
          have t300 := g295 0 119 rfl
          have f301 := (show 0 ≤ I296 0 71 ∧ I296 0 71 ≤ 5 from (hI296 0 71).1)
          have f302 := (show 0 ≤ I296 0 72 ∧ I296 0 72 ≤ 1000 from (hI296 0 72).1)
          have f303 := (show 0 ≤ I296 0 73 ∧ I296 0 73 ≤ 1001 from (hI296 0 73).1)
          have f304 := (show 0 ≤ I296 0 69 ∧ I296 0 69 ≤ 1000 from (hI296 0 69).1)
          have f305 := (show (-1) ≤ I296 0 6 ∧ I296 0 6 ≤ 7 from (hI296 0 6).1)
          have f306 := (show 0 ≤ I296 0 119 ∧ I296 0 119 ≤ 6 from (hI296 0 119).1)
          refine gv_callV hD rfl (As := [.inl a1]) (st := []) rfl (by decide) rfl rfl (gr_lV hws rfl) (Nat.le_of_ble_eq_true rfl) (gz_Ev_mono (d := 11) (by decide) E295) ?_
          show gv_X _ _ (150, [(0, .inr (.inr (some 0))), (1, .inl a1)], [.inl z295], gr_sh ++ ext, gr_h I296 J297)
          refine gv_if_ne (t := 155) hD rfl rfl ⟨by omega, by omega⟩ (fun c307 => ?_) (fun c307 => ?_)
          · refine gv_pick [0] rfl ?_
            exact L155 I296 J297 hI296 FI296 FJ297 (by omega)
          · refine gv_run 1 true hD (pc' := 154) (lv' := [(0, .inr (.inr (some 0))), (1, .inl a1)]) (st' := [.inl 0]) (h' := gr_h I296 J297) (C := (True ∧ True)) rfl ⟨trivial, trivial⟩ ?_
            exact gv_zret hD rfl (by omega) ⟨I296, J297, rfl, hI296, FI296, FJ297, ⟨_, rfl, by omega⟩⟩
      · refine gv_run 1 true hD (pc' := 55) (lv' := [(0, .inr (.inr (some 0))), (1, .inl a1)]) (st' := [.inr (.inr (some 0))]) (h' := gr_h I J) (C := (True ∧ True)) rfl ⟨trivial, trivial⟩ ?_
        obtain ⟨r308, h308, E308, P308⟩ := r_next (ws0 := ws0) (tb := tb) hws htb ext I J hI   (by omega)
        obtain ⟨I309, J310, rfl, hI309, g308, k308, ⟨rfl, q308⟩⟩ := P308
        have FI309 := gr_frt FI g308 rfl rfl
        have FJ310 := gr_fjt FJ k308 rfl rfl
        have t311 := g308 0 69 rfl
        have t312 := g308 0 6 rfl
        have t313 := g308 0 119 rfl
        have f314 := (show 0 ≤ I309 0 71 ∧ I309 0 71 ≤ 5 from (hI309 0 71).1)
        have f315 := (show 0 ≤ I309 0 72 ∧ I309 0 72 ≤ 1000 from (hI309 0 72).1)
        have f316 := (show 0 ≤ I309 0 73 ∧ I309 0 73 ≤ 1001 from (hI309 0 73).1)
        have f317 := (show 0 ≤ I309 0 69 ∧ I309 0 69 ≤ 1000 from (hI309 0 69).1)
        have f318 := (show (-1) ≤ I309 0 6 ∧ I309 0 6 ≤ 7 from (hI309 0 6).1)
        have f319 := (show 0 ≤ I309 0 119 ∧ I309 0 119 ≤ 6 from (hI309 0 119).1)
        refine gv_callV hD rfl (As := []) (st := []) rfl (by decide) rfl rfl (gr_lV hws rfl) (Nat.le_of_ble_eq_true rfl) (gz_Ev_mono (d := 10) (by decide) E308) ?_
        show gv_X _ _ (58, [(0, .inr (.inr (some 0))), (1, .inl a1)], [], gr_sh ++ ext, gr_h I309 J310)
        have f320 := (show 0 ≤ I309 0 119 ∧ I309 0 119 ≤ 6 from (hI309 0 119).1)
        refine gv_run 5 true hD (pc' := 67) (lv' := [(0, .inr (.inr (some 0))), (1, .inl a1)]) (st' := [.inl 0, .inl (I309 0 119), .inr (.inr (some 70))]) (h' := gr_h I309 J310) (C := (((((True ∧ True) ∧ True) ∧ True) ∧ True) ∧ True)) rfl ⟨⟨⟨⟨⟨trivial, trivial⟩, trivial⟩, trivial⟩, trivial⟩, trivial⟩ ?_
        refine gv_run 1 true hD (pc' := 68) (lv' := [(0, .inr (.inr (some 0))), (1, .inl a1)]) (st' := []) (h' := gz_up (gr_h I309 J310) 70 (Int.toNat ((I309 0 119))) (.inl 0)) (C := (True ∧ (0 ≤ (I309 0 119) ∧ (I309 0 119) < ((6 : Nat) : Int)))) rfl ⟨trivial, ⟨by omega, by omega⟩⟩ ?_
        refine gr_st hI309 FI309 rfl rfl ⟨⟨by show 0 ≤ _; omega, by show _ ≤ 2; omega⟩, trivial⟩ (fun I321 hI321 FI321 q322 p322 => ?_)
        have t323 := p322 0 71 (fun q => absurd q.1 (by decide))
        have t324 := p322 0 72 (fun q => absurd q.1 (by decide))
        have t325 := p322 0 73 (fun q => absurd q.1 (by decide))
        have t326 := p322 0 69 (fun q => absurd q.1 (by decide))
        have t327 := p322 0 6 (fun q => absurd q.1 (by decide))
        have t328 := p322 0 119 (fun q => absurd q.1 (by decide))
        have f329 := (show 0 ≤ I321 0 71 ∧ I321 0 71 ≤ 5 from (hI321 0 71).1)
        have f330 := (show 0 ≤ I321 0 72 ∧ I321 0 72 ≤ 1000 from (hI321 0 72).1)
        have f331 := (show 0 ≤ I321 0 73 ∧ I321 0 73 ≤ 1001 from (hI321 0 73).1)
        have f332 := (show 0 ≤ I321 0 69 ∧ I321 0 69 ≤ 1000 from (hI321 0 69).1)
        have f333 := (show (-1) ≤ I321 0 6 ∧ I321 0 6 ≤ 7 from (hI321 0 6).1)
        have f334 := (show 0 ≤ I321 0 119 ∧ I321 0 119 ≤ 6 from (hI321 0 119).1)
        refine gv_run 2 true hD (pc' := 70) (lv' := [(0, .inr (.inr (some 0))), (1, .inl a1)]) (st' := [.inl a1, .inr (.inr (some 0))]) (h' := gr_h I321 J310) (C := ((True ∧ True) ∧ True)) rfl ⟨⟨trivial, trivial⟩, trivial⟩ ?_
        obtain ⟨r335, h335, E335, P335⟩ := r_argumentOf (ws0 := ws0) (tb := tb) hws htb ext I321 J310 hI321 a1 ⟨by omega, by omega⟩ (by omega) (by omega) (by omega) (by omega) (by omega)
        obtain ⟨I336, J337, rfl, hI336, g335, k335, ⟨z335, rfl, q335⟩⟩ := P335
        have FI336 := gr_frt FI321 g335 rfl rfl
        have FJ337 := gr_fjt FJ310 k335 rfl rfl
        have t338 := g335 0 69 rfl
        have t339 := g335 0 6 rfl
        have t340 := g335 0 119 rfl
        have f341 := (show 0 ≤ I336 0 71 ∧ I336 0 71 ≤ 5 from (hI336 0 71).1)
        have f342 := (show 0 ≤ I336 0 72 ∧ I336 0 72 ≤ 1000 from (hI336 0 72).1)
        have f343 := (show 0 ≤ I336 0 73 ∧ I336 0 73 ≤ 1001 from (hI336 0 73).1)
        have f344 := (show 0 ≤ I336 0 69 ∧ I336 0 69 ≤ 1000 from (hI336 0 69).1)
        have f345 := (show (-1) ≤ I336 0 6 ∧ I336 0 6 ≤ 7 from (hI336 0 6).1)
        have f346 := (show 0 ≤ I336 0 119 ∧ I336 0 119 ≤ 6 from (hI336 0 119).1)
        refine gv_callV hD rfl (As := [.inl a1]) (st := []) rfl (by decide) rfl rfl (gr_lV hws rfl) (Nat.le_of_ble_eq_true rfl) (gz_Ev_mono (d := 11) (by decide) E335) ?_
        show gv_X _ _ (73, [(0, .inr (.inr (some 0))), (1, .inl a1)], [.inl z335], gr_sh ++ ext, gr_h I336 J337)
        refine gv_if_ne (t := 78) hD rfl rfl ⟨by omega, by omega⟩ (fun c347 => ?_) (fun c347 => ?_)
        · exact L78 I336 J337 hI336 FI336 FJ337 (by omega)
        · refine gv_run 1 true hD (pc' := 77) (lv' := [(0, .inr (.inr (some 0))), (1, .inl a1)]) (st' := [.inl 0]) (h' := gr_h I336 J337) (C := (True ∧ True)) rfl ⟨trivial, trivial⟩ ?_
          exact gv_zret hD rfl (by omega) ⟨I336, J337, rfl, hI336, FI336, FJ337, ⟨_, rfl, by omega⟩⟩
    have f348 := (show 0 ≤ I 0 119 ∧ I 0 119 ≤ 6 from (hI 0 119).1)
    refine gv_run 3 true hD (pc' := 34) (lv' := [(0, .inr (.inr (some 0))), (1, .inl a1)]) (st' := [.inl 6, .inl (I 0 119)]) (h' := gr_h I J) (C := (((True ∧ True) ∧ True) ∧ True)) rfl ⟨⟨⟨trivial, trivial⟩, trivial⟩, trivial⟩ ?_
    refine gv_icmp_ne (t := 43) hD rfl rfl ⟨⟨by omega, by omega⟩, ⟨by omega, by omega⟩⟩ (fun c349 => ?_) (fun c349 => ?_)
    · exact L43 (by omega)
    · refine gv_run 2 true hD (pc' := 39) (lv' := [(0, .inr (.inr (some 0))), (1, .inl a1)]) (st' := [.inl 5, .inr (.inr (some 0))]) (h' := gr_h I J) (C := ((True ∧ True) ∧ True)) rfl ⟨⟨trivial, trivial⟩, trivial⟩ ?_
      obtain ⟨r350, h350, E350, P350⟩ := r_no_ (ws0 := ws0) (tb := tb) hws htb ext I J hI 5 ⟨by omega, by omega⟩ 
      obtain ⟨I351, J352, rfl, hI351, g350, k350, ⟨z350, rfl, q350⟩⟩ := P350
      have FI351 := gr_frt FI g350 rfl rfl
      have FJ352 := gr_fjt FJ k350 rfl rfl
      have t353 := g350 0 71 rfl
      have t354 := g350 0 72 rfl
      have t355 := g350 0 73 rfl
      have t356 := g350 0 69 rfl
      have t357 := g350 0 6 rfl
      have t358 := g350 0 119 rfl
      have f359 := (show 0 ≤ I351 0 71 ∧ I351 0 71 ≤ 5 from (hI351 0 71).1)
      have f360 := (show 0 ≤ I351 0 72 ∧ I351 0 72 ≤ 1000 from (hI351 0 72).1)
      have f361 := (show 0 ≤ I351 0 73 ∧ I351 0 73 ≤ 1001 from (hI351 0 73).1)
      have f362 := (show 0 ≤ I351 0 69 ∧ I351 0 69 ≤ 1000 from (hI351 0 69).1)
      have f363 := (show (-1) ≤ I351 0 6 ∧ I351 0 6 ≤ 7 from (hI351 0 6).1)
      have f364 := (show 0 ≤ I351 0 119 ∧ I351 0 119 ≤ 6 from (hI351 0 119).1)
      refine gv_callV hD rfl (As := [.inl 5]) (st := []) rfl (by decide) rfl rfl (gr_lV hws rfl) (Nat.le_of_ble_eq_true rfl) (gz_Ev_mono (d := 2) (by decide) E350) ?_
      show gv_X _ _ (42, [(0, .inr (.inr (some 0))), (1, .inl a1)], [.inl z350], gr_sh ++ ext, gr_h I351 J352)
      exact gv_zret hD rfl (by omega) ⟨I351, J352, rfl, hI351, FI351, FJ352, ⟨_, rfl, by omega⟩⟩
  refine gv_run 3 true hD (pc' := 5) (lv' := [(0, .inr (.inr (some 0))), (1, .inl a1)]) (st' := [.inr (.inl (J 0 95)), .inr (.inr (some 0))]) (h' := gr_h I J) (C := (((True ∧ True) ∧ True) ∧ True)) rfl ⟨⟨⟨trivial, trivial⟩, trivial⟩, trivial⟩ ?_
  obtain ⟨r365, h365, E365, P365⟩ := r_is (ws0 := ws0) (tb := tb) hws htb ext I J hI (J 0 95)  
  obtain ⟨rfl, ⟨z365, rfl, q365⟩⟩ := P365
  refine gv_callV hD rfl (As := [.inr (.inl (J 0 95))]) (st := []) rfl (by decide) rfl rfl (gr_lV hws rfl) (Nat.le_of_ble_eq_true rfl) (gz_Ev_mono (d := 1) (by decide) E365) ?_
  show gv_X _ _ (8, [(0, .inr (.inr (some 0))), (1, .inl a1)], [.inl z365], gr_sh ++ ext, gr_h I J)
  refine gv_if_ne (t := 28) hD rfl rfl ⟨by omega, by omega⟩ (fun c366 => ?_) (fun c366 => ?_)
  · exact L28 (by omega)
  · refine gv_run 3 true hD (pc' := 16) (lv' := [(0, .inr (.inr (some 0))), (1, .inl a1)]) (st' := [.inr (.inl (J 0 96)), .inr (.inr (some 0))]) (h' := gr_h I J) (C := (((True ∧ True) ∧ True) ∧ True)) rfl ⟨⟨⟨trivial, trivial⟩, trivial⟩, trivial⟩ ?_
    obtain ⟨r367, h367, E367, P367⟩ := r_is (ws0 := ws0) (tb := tb) hws htb ext I J hI (J 0 96)  
    obtain ⟨rfl, ⟨z367, rfl, q367⟩⟩ := P367
    refine gv_callV hD rfl (As := [.inr (.inl (J 0 96))]) (st := []) rfl (by decide) rfl rfl (gr_lV hws rfl) (Nat.le_of_ble_eq_true rfl) (gz_Ev_mono (d := 1) (by decide) E367) ?_
    show gv_X _ _ (19, [(0, .inr (.inr (some 0))), (1, .inl a1)], [.inl z367], gr_sh ++ ext, gr_h I J)
    refine gv_if_ne (t := 28) hD rfl rfl ⟨by omega, by omega⟩ (fun c368 => ?_) (fun c368 => ?_)
    · exact L28 (by omega)
    · refine gv_run 2 true hD (pc' := 24) (lv' := [(0, .inr (.inr (some 0))), (1, .inl a1)]) (st' := [.inl 1, .inr (.inr (some 0))]) (h' := gr_h I J) (C := ((True ∧ True) ∧ True)) rfl ⟨⟨trivial, trivial⟩, trivial⟩ ?_
      obtain ⟨r369, h369, E369, P369⟩ := r_no_ (ws0 := ws0) (tb := tb) hws htb ext I J hI 1 ⟨by omega, by omega⟩ 
      obtain ⟨I370, J371, rfl, hI370, g369, k369, ⟨z369, rfl, q369⟩⟩ := P369
      have FI370 := gr_frt FI g369 rfl rfl
      have FJ371 := gr_fjt FJ k369 rfl rfl
      have t372 := g369 0 71 rfl
      have t373 := g369 0 72 rfl
      have t374 := g369 0 73 rfl
      have t375 := g369 0 69 rfl
      have t376 := g369 0 6 rfl
      have t377 := g369 0 119 rfl
      have f378 := (show 0 ≤ I370 0 71 ∧ I370 0 71 ≤ 5 from (hI370 0 71).1)
      have f379 := (show 0 ≤ I370 0 72 ∧ I370 0 72 ≤ 1000 from (hI370 0 72).1)
      have f380 := (show 0 ≤ I370 0 73 ∧ I370 0 73 ≤ 1001 from (hI370 0 73).1)
      have f381 := (show 0 ≤ I370 0 69 ∧ I370 0 69 ≤ 1000 from (hI370 0 69).1)
      have f382 := (show (-1) ≤ I370 0 6 ∧ I370 0 6 ≤ 7 from (hI370 0 6).1)
      have f383 := (show 0 ≤ I370 0 119 ∧ I370 0 119 ≤ 6 from (hI370 0 119).1)
      refine gv_callV hD rfl (As := [.inl 1]) (st := []) rfl (by decide) rfl rfl (gr_lV hws rfl) (Nat.le_of_ble_eq_true rfl) (gz_Ev_mono (d := 2) (by decide) E369) ?_
      show gv_X _ _ (27, [(0, .inr (.inr (some 0))), (1, .inl a1)], [.inl z369], gr_sh ++ ext, gr_h I370 J371)
      exact gv_zret hD rfl (by omega) ⟨I370, J371, rfl, hI370, FI370, FJ371, ⟨_, rfl, by omega⟩⟩
