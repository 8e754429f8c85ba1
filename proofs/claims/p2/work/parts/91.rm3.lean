set_option maxHeartbeats 4000000 in
set_option maxRecDepth 100000 in
theorem r_sound {ws0 : List Cond} {tb : String → gz_T} (hws : ∀ w ∈ gr_ws, w ∈ ws0) (htb : tb RX13 = gr_T) (ext : gz_Sh) (I : gr_I) (J : gr_J) (hI : gr_Inv I)   (x0 : I 0 71 = 5 ∨ I 0 73 ≤ I 0 69) (x1 : I 0 72 ≤ I 0 69) (x2 : I 0 71 = 0 ∨ (I 0 72 < I 0 73 ∧ I 0 72 < I 0 69)) (x3 : I 0 71 = 3 → 2 ≤ I 0 73 - I 0 72 ∧ I 0 73 - I 0 72 ≤ 14) (x4 : I 0 72 ≤ I 0 73) (x5 : 0 ≤ I 0 6) (x6 : I 0 59 + I 0 69 - I 0 72 ≤ 1900) : ∃ r h', gz_Ev ws0 tb 13 (yX13_sound, cX13_sound, 6, (some .boolean)) [.inr (.inr (some 0))] (gr_sh ++ ext) (gr_h I J) r (gr_sh ++ ext) h' 0 0 ∧ (∃ (I' : gr_I) (J' : gr_J), h' = gr_h I' J' ∧ gr_Inv I' ∧ gr_fr [59, 71, 72, 73, 74, 75, 76, 77, 104] [16, 27, 28, 29, 30, 51, 57, 63] I I' ∧ gr_fj [59, 71, 72, 73, 74, 75, 76, 77, 104] [16, 27, 28, 29, 30, 51, 57, 63] J J' ∧ (∃ z : Int, r = some (.inl z) ∧ 0 ≤ z ∧ z ≤ 1 ∧ (I' 0 71 = 5 ∨ I' 0 73 ≤ I' 0 69) ∧ (I' 0 72 ≤ I' 0 69) ∧ (I' 0 71 = 0 ∨ (I' 0 72 < I' 0 73 ∧ I' 0 72 < I' 0 69)) ∧ (I' 0 71 = 3 → 2 ≤ I' 0 73 - I' 0 72 ∧ I' 0 73 - I' 0 72 ≤ 14) ∧ (I' 0 72 ≤ I' 0 73) ∧ (I' 0 69 = I 0 69) ∧ (I 0 73 ≤ I' 0 73) ∧ (I 0 72 ≤ I' 0 72) ∧ (I' 0 59 - I' 0 72 ≤ I 0 59 - I 0 72))) := by
  have FI : gr_fr [59, 71, 72, 73, 74, 75, 76, 77, 104] [16, 27, 28, 29, 30, 51, 57, 63] I I := fun _ _ _ => rfl
  have FJ : gr_fj [59, 71, 72, 73, 74, 75, 76, 77, 104] [16, 27, 28, 29, 30, 51, 57, 63] J J := fun _ _ _ => rfl
  have hD : gv_D (gr_E ws0 tb 12 (yX13_sound, cX13_sound, 6, (some .boolean)) kX13_sound) := gq_ok oX13_sound
  refine gr_ev (d := 12) (l := kX13_sound) (Po := fun r h' => (∃ (I' : gr_I) (J' : gr_J), h' = gr_h I' J' ∧ gr_Inv I' ∧ gr_fr [59, 71, 72, 73, 74, 75, 76, 77, 104] [16, 27, 28, 29, 30, 51, 57, 63] I I' ∧ gr_fj [59, 71, 72, 73, 74, 75, 76, 77, 104] [16, 27, 28, 29, 30, 51, 57, 63] J J' ∧ (∃ z : Int, r = some (.inl z) ∧ 0 ≤ z ∧ z ≤ 1 ∧ (I' 0 71 = 5 ∨ I' 0 73 ≤ I' 0 69) ∧ (I' 0 72 ≤ I' 0 69) ∧ (I' 0 71 = 0 ∨ (I' 0 72 < I' 0 73 ∧ I' 0 72 < I' 0 69)) ∧ (I' 0 71 = 3 → 2 ≤ I' 0 73 - I' 0 72 ∧ I' 0 73 - I' 0 72 ≤ 14) ∧ (I' 0 72 ≤ I' 0 73) ∧ (I' 0 69 = I 0 69) ∧ (I 0 73 ≤ I' 0 73) ∧ (I 0 72 ≤ I' 0 72) ∧ (I' 0 59 - I' 0 72 ≤ I 0 59 - I 0 72)))) htb rfl (Nat.le_of_ble_eq_true rfl) ?_
  have f1 := (show 0 ≤ I 0 71 ∧ I 0 71 ≤ 5 from (hI 0 71).1)
  have f2 := (show 0 ≤ I 0 72 ∧ I 0 72 ≤ 1000 from (hI 0 72).1)
  have f3 := (show 0 ≤ I 0 73 ∧ I 0 73 ≤ 1001 from (hI 0 73).1)
  have f4 := (show 0 ≤ I 0 69 ∧ I 0 69 ≤ 1000 from (hI 0 69).1)
  have f5 := (show (-1) ≤ I 0 6 ∧ I 0 6 ≤ 7 from (hI 0 6).1)
  have f6 := (show 0 ≤ I 0 59 ∧ I 0 59 ≤ 2000 from (hI 0 59).1)
  have f7 := (show (-2147483648) ≤ I 0 104 ∧ I 0 104 ≤ 2147483647 from (hI 0 104).1)
  have L29 : ((I 0 71 = 5 ∨ I 0 73 ≤ I 0 69) ∧ (I 0 72 ≤ I 0 69) ∧ (I 0 71 = 0 ∨ (I 0 72 < I 0 73 ∧ I 0 72 < I 0 69)) ∧ (I 0 71 = 3 → 2 ≤ I 0 73 - I 0 72 ∧ I 0 73 - I 0 72 ≤ 14) ∧ (I 0 72 ≤ I 0 73) ∧ (I 0 69 = I 0 69) ∧ (I 0 73 ≤ I 0 73) ∧ (I 0 72 ≤ I 0 72) ∧ (I 0 6 = I 0 6) ∧ (I 0 59 - I 0 72 ≤ I 0 59 - I 0 72)) → gv_X (gr_E ws0 tb 12 (yX13_sound, cX13_sound, 6, (some .boolean)) kX13_sound) (gv_Q cX13_sound (some .boolean) (gr_sh ++ ext) (fun r h' => (∃ (I' : gr_I) (J' : gr_J), h' = gr_h I' J' ∧ gr_Inv I' ∧ gr_fr [59, 71, 72, 73, 74, 75, 76, 77, 104] [16, 27, 28, 29, 30, 51, 57, 63] I I' ∧ gr_fj [59, 71, 72, 73, 74, 75, 76, 77, 104] [16, 27, 28, 29, 30, 51, 57, 63] J J' ∧ (∃ z : Int, r = some (.inl z) ∧ 0 ≤ z ∧ z ≤ 1 ∧ (I' 0 71 = 5 ∨ I' 0 73 ≤ I' 0 69) ∧ (I' 0 72 ≤ I' 0 69) ∧ (I' 0 71 = 0 ∨ (I' 0 72 < I' 0 73 ∧ I' 0 72 < I' 0 69)) ∧ (I' 0 71 = 3 → 2 ≤ I' 0 73 - I' 0 72 ∧ I' 0 73 - I' 0 72 ≤ 14) ∧ (I' 0 72 ≤ I' 0 73) ∧ (I' 0 69 = I 0 69) ∧ (I 0 73 ≤ I' 0 73) ∧ (I 0 72 ≤ I' 0 72) ∧ (I' 0 59 - I' 0 72 ≤ I 0 59 - I 0 72))))) (29, [(0, .inr (.inr (some 0)))], [], gr_sh ++ ext, gr_h I J) := by
    intro m_8
    obtain ⟨e0_8, e1_8, e2_8, e3_8, e4_8, e5_8, e6_8, e7_8, e8_8, e9_8⟩ := m_8
    have f9 := (show 0 ≤ I 0 71 ∧ I 0 71 ≤ 5 from (hI 0 71).1)
    have f10 := (show 0 ≤ I 0 72 ∧ I 0 72 ≤ 1000 from (hI 0 72).1)
    have f11 := (show 0 ≤ I 0 73 ∧ I 0 73 ≤ 1001 from (hI 0 73).1)
    have f12 := (show 0 ≤ I 0 69 ∧ I 0 69 ≤ 1000 from (hI 0 69).1)
    have f13 := (show (-1) ≤ I 0 6 ∧ I 0 6 ≤ 7 from (hI 0 6).1)
    have f14 := (show 0 ≤ I 0 59 ∧ I 0 59 ≤ 2000 from (hI 0 59).1)
    have f15 := (show (-2147483648) ≤ I 0 104 ∧ I 0 104 ≤ 2147483647 from (hI 0 104).1)
    refine gv_run 2 true hD (pc' := 31) (lv' := [(0, .inr (.inr (some 0)))]) (st' := [.inl 5, .inr (.inr (some 0))]) (h' := gr_h I J) (C := ((True ∧ True) ∧ True)) rfl ⟨⟨trivial, trivial⟩, trivial⟩ ?_
    obtain ⟨r16, h16, E16, P16⟩ := r_no_ (ws0 := ws0) (tb := tb) hws htb ext I J hI 5 ⟨by omega, by omega⟩ 
    obtain ⟨I17, J18, rfl, hI17, g16, k16, ⟨z16, rfl, q16⟩⟩ := P16
    have FI17 := gr_frt FI g16 rfl rfl
    have FJ18 := gr_fjt FJ k16 rfl rfl
    have t19 := g16 0 71 rfl
    have t20 := g16 0 72 rfl
    have t21 := g16 0 73 rfl
    have t22 := g16 0 69 rfl
    have t23 := g16 0 6 rfl
    have t24 := g16 0 59 rfl
    have t25 := g16 0 104 rfl
    have f26 := (show 0 ≤ I17 0 71 ∧ I17 0 71 ≤ 5 from (hI17 0 71).1)
    have f27 := (show 0 ≤ I17 0 72 ∧ I17 0 72 ≤ 1000 from (hI17 0 72).1)
    have f28 := (show 0 ≤ I17 0 73 ∧ I17 0 73 ≤ 1001 from (hI17 0 73).1)
    have f29 := (show 0 ≤ I17 0 69 ∧ I17 0 69 ≤ 1000 from (hI17 0 69).1)
    have f30 := (show (-1) ≤ I17 0 6 ∧ I17 0 6 ≤ 7 from (hI17 0 6).1)
    have f31 := (show 0 ≤ I17 0 59 ∧ I17 0 59 ≤ 2000 from (hI17 0 59).1)
    have f32 := (show (-2147483648) ≤ I17 0 104 ∧ I17 0 104 ≤ 2147483647 from (hI17 0 104).1)
    refine gv_callV hD rfl (As := [.inl 5]) (st := []) rfl (by decide) rfl rfl (gr_lV hws rfl) (Nat.le_of_ble_eq_true rfl) (gz_Ev_mono (d := 2) (by decide) E16) ?_
    show gv_X _ _ (34, [(0, .inr (.inr (some 0)))], [.inl z16], gr_sh ++ ext, gr_h I17 J18)
    exact gv_zret hD rfl (by omega) ⟨I17, J18, rfl, hI17, FI17, FJ18, ⟨_, rfl, by omega⟩⟩
  have L35 : ∀ (v1_33 : Int), ((0 ≤ v1_33 ∧ v1_33 ≤ 7) ∧ (I 0 71 = 5 ∨ I 0 73 ≤ I 0 69) ∧ (I 0 72 ≤ I 0 69) ∧ (I 0 71 = 0 ∨ (I 0 72 < I 0 73 ∧ I 0 72 < I 0 69)) ∧ (I 0 71 = 3 → 2 ≤ I 0 73 - I 0 72 ∧ I 0 73 - I 0 72 ≤ 14) ∧ (I 0 72 ≤ I 0 73) ∧ (I 0 69 = I 0 69) ∧ (I 0 73 ≤ I 0 73) ∧ (I 0 72 ≤ I 0 72) ∧ (I 0 6 = I 0 6) ∧ (I 0 59 - I 0 72 ≤ I 0 59 - I 0 72)) → gv_X (gr_E ws0 tb 12 (yX13_sound, cX13_sound, 6, (some .boolean)) kX13_sound) (gv_Q cX13_sound (some .boolean) (gr_sh ++ ext) (fun r h' => (∃ (I' : gr_I) (J' : gr_J), h' = gr_h I' J' ∧ gr_Inv I' ∧ gr_fr [59, 71, 72, 73, 74, 75, 76, 77, 104] [16, 27, 28, 29, 30, 51, 57, 63] I I' ∧ gr_fj [59, 71, 72, 73, 74, 75, 76, 77, 104] [16, 27, 28, 29, 30, 51, 57, 63] J J' ∧ (∃ z : Int, r = some (.inl z) ∧ 0 ≤ z ∧ z ≤ 1 ∧ (I' 0 71 = 5 ∨ I' 0 73 ≤ I' 0 69) ∧ (I' 0 72 ≤ I' 0 69) ∧ (I' 0 71 = 0 ∨ (I' 0 72 < I' 0 73 ∧ I' 0 72 < I' 0 69)) ∧ (I' 0 71 = 3 → 2 ≤ I' 0 73 - I' 0 72 ∧ I' 0 73 - I' 0 72 ≤ 14) ∧ (I' 0 72 ≤ I' 0 73) ∧ (I' 0 69 = I 0 69) ∧ (I 0 73 ≤ I' 0 73) ∧ (I 0 72 ≤ I' 0 72) ∧ (I' 0 59 - I' 0 72 ≤ I 0 59 - I 0 72))))) (35, [(0, .inr (.inr (some 0))), (1, .inl v1_33)], [], gr_sh ++ ext, gr_h I J) := by
    intro v1_33 m_33
    obtain ⟨hv1_33, e0_33, e1_33, e2_33, e3_33, e4_33, e5_33, e6_33, e7_33, e8_33, e9_33⟩ := m_33
    have f34 := (show 0 ≤ I 0 71 ∧ I 0 71 ≤ 5 from (hI 0 71).1)
    have f35 := (show 0 ≤ I 0 72 ∧ I 0 72 ≤ 1000 from (hI 0 72).1)
    have f36 := (show 0 ≤ I 0 73 ∧ I 0 73 ≤ 1001 from (hI 0 73).1)
    have f37 := (show 0 ≤ I 0 69 ∧ I 0 69 ≤ 1000 from (hI 0 69).1)
    have f38 := (show (-1) ≤ I 0 6 ∧ I 0 6 ≤ 7 from (hI 0 6).1)
    have f39 := (show 0 ≤ I 0 59 ∧ I 0 59 ≤ 2000 from (hI 0 59).1)
    have f40 := (show (-2147483648) ≤ I 0 104 ∧ I 0 104 ≤ 2147483647 from (hI 0 104).1)
    have L45 : ∀ (I41 : gr_I) (J42 : gr_J) , gr_Inv I41 → gr_fr [59, 71, 72, 73, 74, 75, 76, 77, 104] [16, 27, 28, 29, 30, 51, 57, 63] I I41 → gr_fj [59, 71, 72, 73, 74, 75, 76, 77, 104] [16, 27, 28, 29, 30, 51, 57, 63] J J42 → ((0 ≤ v1_33 ∧ v1_33 ≤ 7) ∧ (-16 ≤ I41 0 104 ∧ I41 0 104 ≤ 32015) ∧ (I41 0 71 = 5 ∨ I41 0 73 ≤ I41 0 69) ∧ (I41 0 72 ≤ I41 0 69) ∧ (I41 0 71 = 0 ∨ (I41 0 72 < I41 0 73 ∧ I41 0 72 < I41 0 69)) ∧ (I41 0 71 = 3 → 2 ≤ I41 0 73 - I41 0 72 ∧ I41 0 73 - I41 0 72 ≤ 14) ∧ (I41 0 72 ≤ I41 0 73) ∧ (I41 0 69 = I 0 69) ∧ (I 0 73 ≤ I41 0 73) ∧ (I 0 72 ≤ I41 0 72) ∧ (I41 0 6 = I 0 6) ∧ (I41 0 59 - I41 0 72 ≤ I 0 59 - I 0 72)) → gv_X (gr_E ws0 tb 12 (yX13_sound, cX13_sound, 6, (some .boolean)) kX13_sound) (gv_Q cX13_sound (some .boolean) (gr_sh ++ ext) (fun r h' => (∃ (I' : gr_I) (J' : gr_J), h' = gr_h I' J' ∧ gr_Inv I' ∧ gr_fr [59, 71, 72, 73, 74, 75, 76, 77, 104] [16, 27, 28, 29, 30, 51, 57, 63] I I' ∧ gr_fj [59, 71, 72, 73, 74, 75, 76, 77, 104] [16, 27, 28, 29, 30, 51, 57, 63] J J' ∧ (∃ z : Int, r = some (.inl z) ∧ 0 ≤ z ∧ z ≤ 1 ∧ (I' 0 71 = 5 ∨ I' 0 73 ≤ I' 0 69) ∧ (I' 0 72 ≤ I' 0 69) ∧ (I' 0 71 = 0 ∨ (I' 0 72 < I' 0 73 ∧ I' 0 72 < I' 0 69)) ∧ (I' 0 71 = 3 → 2 ≤ I' 0 73 - I' 0 72 ∧ I' 0 73 - I' 0 72 ≤ 14) ∧ (I' 0 72 ≤ I' 0 73) ∧ (I' 0 69 = I 0 69) ∧ (I 0 73 ≤ I' 0 73) ∧ (I 0 72 ≤ I' 0 72) ∧ (I' 0 59 - I' 0 72 ≤ I 0 59 - I 0 72))))) (45, [(0, .inr (.inr (some 0))), (1, .inl v1_33)], [], gr_sh ++ ext, gr_h I41 J42) := by
      intro I41 J42 hI41 FI41 FJ42 m_43
      obtain ⟨hv1_33_43, e0_43, e1_43, e2_43, e3_43, e4_43, e5_43, e6_43, e7_43, e8_43, e9_43, e10_43⟩ := m_43
      have f44 := (show 0 ≤ I41 0 71 ∧ I41 0 71 ≤ 5 from (hI41 0 71).1)
      have f45 := (show 0 ≤ I41 0 72 ∧ I41 0 72 ≤ 1000 from (hI41 0 72).1)
      have f46 := (show 0 ≤ I41 0 73 ∧ I41 0 73 ≤ 1001 from (hI41 0 73).1)
      have f47 := (show 0 ≤ I41 0 69 ∧ I41 0 69 ≤ 1000 from (hI41 0 69).1)
      have f48 := (show (-1) ≤ I41 0 6 ∧ I41 0 6 ≤ 7 from (hI41 0 6).1)
      have f49 := (show 0 ≤ I41 0 59 ∧ I41 0 59 ≤ 2000 from (hI41 0 59).1)
      have f50 := (show (-2147483648) ≤ I41 0 104 ∧ I41 0 104 ≤ 2147483647 from (hI41 0 104).1)
      have L61 : ∀ (I51 : gr_I) (J52 : gr_J) (v2_53 : Int), gr_Inv I51 → gr_fr [59, 71, 72, 73, 74, 75, 76, 77, 104] [16, 27, 28, 29, 30, 51, 57, 63] I I51 → gr_fj [59, 71, 72, 73, 74, 75, 76, 77, 104] [16, 27, 28, 29, 30, 51, 57, 63] J J52 → ((0 ≤ v1_33 ∧ v1_33 ≤ 7) ∧ ((-16) ≤ v2_53 ∧ v2_53 ≤ 32015) ∧ (I51 0 71 = 5 ∨ I51 0 73 ≤ I51 0 69) ∧ (I51 0 72 ≤ I51 0 69) ∧ (I51 0 71 = 0 ∨ (I51 0 72 < I51 0 73 ∧ I51 0 72 < I51 0 69)) ∧ (I51 0 71 = 3 → 2 ≤ I51 0 73 - I51 0 72 ∧ I51 0 73 - I51 0 72 ≤ 14) ∧ (I51 0 72 ≤ I51 0 73) ∧ (I51 0 69 = I 0 69) ∧ (I 0 73 ≤ I51 0 73) ∧ (I 0 72 ≤ I51 0 72) ∧ (I51 0 6 = I 0 6) ∧ (I51 0 59 - I51 0 72 ≤ I 0 59 - I 0 72)) → gv_X (gr_E ws0 tb 12 (yX13_sound, cX13_sound, 6, (some .boolean)) kX13_sound) (gv_Q cX13_sound (some .boolean) (gr_sh ++ ext) (fun r h' => (∃ (I' : gr_I) (J' : gr_J), h' = gr_h I' J' ∧ gr_Inv I' ∧ gr_fr [59, 71, 72, 73, 74, 75, 76, 77, 104] [16, 27, 28, 29, 30, 51, 57, 63] I I' ∧ gr_fj [59, 71, 72, 73, 74, 75, 76, 77, 104] [16, 27, 28, 29, 30, 51, 57, 63] J J' ∧ (∃ z : Int, r = some (.inl z) ∧ 0 ≤ z ∧ z ≤ 1 ∧ (I' 0 71 = 5 ∨ I' 0 73 ≤ I' 0 69) ∧ (I' 0 72 ≤ I' 0 69) ∧ (I' 0 71 = 0 ∨ (I' 0 72 < I' 0 73 ∧ I' 0 72 < I' 0 69)) ∧ (I' 0 71 = 3 → 2 ≤ I' 0 73 - I' 0 72 ∧ I' 0 73 - I' 0 72 ≤ 14) ∧ (I' 0 72 ≤ I' 0 73) ∧ (I' 0 69 = I 0 69) ∧ (I 0 73 ≤ I' 0 73) ∧ (I 0 72 ≤ I' 0 72) ∧ (I' 0 59 - I' 0 72 ≤ I 0 59 - I 0 72))))) (61, [(0, .inr (.inr (some 0))), (1, .inl v1_33), (2, .inl v2_53)], [], gr_sh ++ ext, gr_h I51 J52) := by
        intro I51 J52 v2_53 hI51 FI51 FJ52 m_53
        obtain ⟨hv1_33_53, hv2_53, e0_53, e1_53, e2_53, e3_53, e4_53, e5_53, e6_53, e7_53, e8_53, e9_53⟩ := m_53
        have f54 := (show 0 ≤ I51 0 71 ∧ I51 0 71 ≤ 5 from (hI51 0 71).1)
        have f55 := (show 0 ≤ I51 0 72 ∧ I51 0 72 ≤ 1000 from (hI51 0 72).1)
        have f56 := (show 0 ≤ I51 0 73 ∧ I51 0 73 ≤ 1001 from (hI51 0 73).1)
        have f57 := (show 0 ≤ I51 0 69 ∧ I51 0 69 ≤ 1000 from (hI51 0 69).1)
        have f58 := (show (-1) ≤ I51 0 6 ∧ I51 0 6 ≤ 7 from (hI51 0 6).1)
        have f59 := (show 0 ≤ I51 0 59 ∧ I51 0 59 ≤ 2000 from (hI51 0 59).1)
        have f60 := (show (-2147483648) ≤ I51 0 104 ∧ I51 0 104 ≤ 2147483647 from (hI51 0 104).1)
        have L87 : ∀ (n : Nat) (I61 : gr_I) (J62 : gr_J) (v3_63 : Int) (v4_63 : Int), (7 - v4_63).toNat < n → gr_Inv I61 → gr_fr [59, 71, 72, 73, 74, 75, 76, 77, 104] [16, 27, 28, 29, 30, 51, 57, 63] I I61 → gr_fj [59, 71, 72, 73, 74, 75, 76, 77, 104] [16, 27, 28, 29, 30, 51, 57, 63] J J62 → ((0 ≤ v1_33 ∧ v1_33 ≤ 7) ∧ ((-16) ≤ v2_53 ∧ v2_53 ≤ 32015) ∧ (0 ≤ v3_63 ∧ v3_63 ≤ 32015) ∧ (0 ≤ v4_63 ∧ v4_63 ≤ 6) ∧ (I61 0 71 = 5 ∨ I61 0 73 ≤ I61 0 69) ∧ (I61 0 72 ≤ I61 0 69) ∧ (I61 0 71 = 0 ∨ (I61 0 72 < I61 0 73 ∧ I61 0 72 < I61 0 69)) ∧ (I61 0 71 = 3 → 2 ≤ I61 0 73 - I61 0 72 ∧ I61 0 73 - I61 0 72 ≤ 14) ∧ (I61 0 72 ≤ I61 0 73) ∧ (I61 0 69 = I 0 69) ∧ (I 0 73 ≤ I61 0 73) ∧ (I 0 72 ≤ I61 0 72) ∧ (I61 0 6 = I 0 6) ∧ (I61 0 59 - I61 0 72 ≤ I 0 59 - I 0 72)) → gv_X (gr_E ws0 tb 12 (yX13_sound, cX13_sound, 6, (some .boolean)) kX13_sound) (gv_Q cX13_sound (some .boolean) (gr_sh ++ ext) (fun r h' => (∃ (I' : gr_I) (J' : gr_J), h' = gr_h I' J' ∧ gr_Inv I' ∧ gr_fr [59, 71, 72, 73, 74, 75, 76, 77, 104] [16, 27, 28, 29, 30, 51, 57, 63] I I' ∧ gr_fj [59, 71, 72, 73, 74, 75, 76, 77, 104] [16, 27, 28, 29, 30, 51, 57, 63] J J' ∧ (∃ z : Int, r = some (.inl z) ∧ 0 ≤ z ∧ z ≤ 1 ∧ (I' 0 71 = 5 ∨ I' 0 73 ≤ I' 0 69) ∧ (I' 0 72 ≤ I' 0 69) ∧ (I' 0 71 = 0 ∨ (I' 0 72 < I' 0 73 ∧ I' 0 72 < I' 0 69)) ∧ (I' 0 71 = 3 → 2 ≤ I' 0 73 - I' 0 72 ∧ I' 0 73 - I' 0 72 ≤ 14) ∧ (I' 0 72 ≤ I' 0 73) ∧ (I' 0 69 = I 0 69) ∧ (I 0 73 ≤ I' 0 73) ∧ (I 0 72 ≤ I' 0 72) ∧ (I' 0 59 - I' 0 72 ≤ I 0 59 - I 0 72))))) (87, [(0, .inr (.inr (some 0))), (1, .inl v1_33), (2, .inl v2_53), (3, .inl v3_63), (4, .inl v4_63)], [], gr_sh ++ ext, gr_h I61 J62) := by
          intro n
          induction n with
          | zero => intro I61 J62 v3_63 v4_63 hn; omega
          | succ n ih87 =>
            intro I61 J62 v3_63 v4_63 hn hI61 FI61 FJ62 m_63
            obtain ⟨hv1_33_63, hv2_53_63, hv3_63, hv4_63, e0_63, e1_63, e2_63, e3_63, e4_63, e5_63, e6_63, e7_63, e8_63, e9_63⟩ := m_63
            have f64 := (show 0 ≤ I61 0 71 ∧ I61 0 71 ≤ 5 from (hI61 0 71).1)
            have f65 := (show 0 ≤ I61 0 72 ∧ I61 0 72 ≤ 1000 from (hI61 0 72).1)
            have f66 := (show 0 ≤ I61 0 73 ∧ I61 0 73 ≤ 1001 from (hI61 0 73).1)
            have f67 := (show 0 ≤ I61 0 69 ∧ I61 0 69 ≤ 1000 from (hI61 0 69).1)
            have f68 := (show (-1) ≤ I61 0 6 ∧ I61 0 6 ≤ 7 from (hI61 0 6).1)
            have f69 := (show 0 ≤ I61 0 59 ∧ I61 0 59 ≤ 2000 from (hI61 0 59).1)
            have f70 := (show (-2147483648) ≤ I61 0 104 ∧ I61 0 104 ≤ 2147483647 from (hI61 0 104).1)
            have L148 : ∀ (I71 : gr_I) (J72 : gr_J) , gr_Inv I71 → gr_fr [59, 71, 72, 73, 74, 75, 76, 77, 104] [16, 27, 28, 29, 30, 51, 57, 63] I I71 → gr_fj [59, 71, 72, 73, 74, 75, 76, 77, 104] [16, 27, 28, 29, 30, 51, 57, 63] J J72 → ((I71 0 71 = 5 ∨ I71 0 73 ≤ I71 0 69) ∧ (I71 0 72 ≤ I71 0 69) ∧ (I71 0 71 = 0 ∨ (I71 0 72 < I71 0 73 ∧ I71 0 72 < I71 0 69)) ∧ (I71 0 71 = 3 → 2 ≤ I71 0 73 - I71 0 72 ∧ I71 0 73 - I71 0 72 ≤ 14) ∧ (I71 0 72 ≤ I71 0 73) ∧ (I71 0 69 = I 0 69) ∧ (I 0 73 ≤ I71 0 73) ∧ (I 0 72 ≤ I71 0 72) ∧ (I71 0 6 = I 0 6) ∧ (I71 0 59 - I71 0 72 ≤ I 0 59 - I 0 72)) → gv_X (gr_E ws0 tb 12 (yX13_sound, cX13_sound, 6, (some .boolean)) kX13_sound) (gv_Q cX13_sound (some .boolean) (gr_sh ++ ext) (fun r h' => (∃ (I' : gr_I) (J' : gr_J), h' = gr_h I' J' ∧ gr_Inv I' ∧ gr_fr [59, 71, 72, 73, 74, 75, 76, 77, 104] [16, 27, 28, 29, 30, 51, 57, 63] I I' ∧ gr_fj [59, 71, 72, 73, 74, 75, 76, 77, 104] [16, 27, 28, 29, 30, 51, 57, 63] J J' ∧ (∃ z : Int, r = some (.inl z) ∧ 0 ≤ z ∧ z ≤ 1 ∧ (I' 0 71 = 5 ∨ I' 0 73 ≤ I' 0 69) ∧ (I' 0 72 ≤ I' 0 69) ∧ (I' 0 71 = 0 ∨ (I' 0 72 < I' 0 73 ∧ I' 0 72 < I' 0 69)) ∧ (I' 0 71 = 3 → 2 ≤ I' 0 73 - I' 0 72 ∧ I' 0 73 - I' 0 72 ≤ 14) ∧ (I' 0 72 ≤ I' 0 73) ∧ (I' 0 69 = I 0 69) ∧ (I 0 73 ≤ I' 0 73) ∧ (I 0 72 ≤ I' 0 72) ∧ (I' 0 59 - I' 0 72 ≤ I 0 59 - I 0 72))))) (148, [], [], gr_sh ++ ext, gr_h I71 J72) := by
              intro I71 J72 hI71 FI71 FJ72 m_73
              obtain ⟨e0_73, e1_73, e2_73, e3_73, e4_73, e5_73, e6_73, e7_73, e8_73, e9_73⟩ := m_73
              have f74 := (show 0 ≤ I71 0 71 ∧ I71 0 71 ≤ 5 from (hI71 0 71).1)
              have f75 := (show 0 ≤ I71 0 72 ∧ I71 0 72 ≤ 1000 from (hI71 0 72).1)
              have f76 := (show 0 ≤ I71 0 73 ∧ I71 0 73 ≤ 1001 from (hI71 0 73).1)
              have f77 := (show 0 ≤ I71 0 69 ∧ I71 0 69 ≤ 1000 from (hI71 0 69).1)
              have f78 := (show (-1) ≤ I71 0 6 ∧ I71 0 6 ≤ 7 from (hI71 0 6).1)
              have f79 := (show 0 ≤ I71 0 59 ∧ I71 0 59 ≤ 2000 from (hI71 0 59).1)
              have f80 := (show (-2147483648) ≤ I71 0 104 ∧ I71 0 104 ≤ 2147483647 from (hI71 0 104).1)
              refine gv_run 1 true hD (pc' := 149) (lv' := []) (st' := [.inl 0]) (h' := gr_h I71 J72) (C := (True ∧ True)) rfl ⟨trivial, trivial⟩ ?_
              exact gv_zret hD rfl (by omega) ⟨I71, J72, rfl, hI71, FI71, FJ72, ⟨_, rfl, by omega⟩⟩
            have L150 : ∀ (I81 : gr_I) (J82 : gr_J) , gr_Inv I81 → gr_fr [59, 71, 72, 73, 74, 75, 76, 77, 104] [16, 27, 28, 29, 30, 51, 57, 63] I I81 → gr_fj [59, 71, 72, 73, 74, 75, 76, 77, 104] [16, 27, 28, 29, 30, 51, 57, 63] J J82 → ((0 ≤ v1_33 ∧ v1_33 ≤ 7) ∧ ((-16) ≤ v2_53 ∧ v2_53 ≤ 32015) ∧ (0 ≤ v3_63 ∧ v3_63 ≤ 32015) ∧ (I81 0 71 = 5 ∨ I81 0 73 ≤ I81 0 69) ∧ (I81 0 72 ≤ I81 0 69) ∧ (I81 0 71 = 0 ∨ (I81 0 72 < I81 0 73 ∧ I81 0 72 < I81 0 69)) ∧ (I81 0 71 = 3 → 2 ≤ I81 0 73 - I81 0 72 ∧ I81 0 73 - I81 0 72 ≤ 14) ∧ (I81 0 72 ≤ I81 0 73) ∧ (I81 0 69 = I 0 69) ∧ (I 0 73 ≤ I81 0 73) ∧ (I 0 72 ≤ I81 0 72) ∧ (I81 0 6 = I 0 6) ∧ (I81 0 59 - I81 0 72 ≤ I 0 59 - I 0 72)) → gv_X (gr_E ws0 tb 12 (yX13_sound, cX13_sound, 6, (some .boolean)) kX13_sound) (gv_Q cX13_sound (some .boolean) (gr_sh ++ ext) (fun r h' => (∃ (I' : gr_I) (J' : gr_J), h' = gr_h I' J' ∧ gr_Inv I' ∧ gr_fr [59, 71, 72, 73, 74, 75, 76, 77, 104] [16, 27, 28, 29, 30, 51, 57, 63] I I' ∧ gr_fj [59, 71, 72, 73, 74, 75, 76, 77, 104] [16, 27, 28, 29, 30, 51, 57, 63] J J' ∧ (∃ z : Int, r = some (.inl z) ∧ 0 ≤ z ∧ z ≤ 1 ∧ (I' 0 71 = 5 ∨ I' 0 73 ≤ I' 0 69) ∧ (I' 0 72 ≤ I' 0 69) ∧ (I' 0 71 = 0 ∨ (I' 0 72 < I' 0 73 ∧ I' 0 72 < I' 0 69)) ∧ (I' 0 71 = 3 → 2 ≤ I' 0 73 - I' 0 72 ∧ I' 0 73 - I' 0 72 ≤ 14) ∧ (I' 0 72 ≤ I' 0 73) ∧ (I' 0 69 = I 0 69) ∧ (I 0 73 ≤ I' 0 73) ∧ (I 0 72 ≤ I' 0 72) ∧ (I' 0 59 - I' 0 72 ≤ I 0 59 - I 0 72))))) (150, [(0, .inr (.inr (some 0))), (1, .inl v1_33), (2, .inl v2_53), (3, .inl v3_63)], [], gr_sh ++ ext, gr_h I81 J82) := by
              intro I81 J82 hI81 FI81 FJ82 m_83
              obtain ⟨hv1_33_83, hv2_53_83, hv3_63_83, e0_83, e1_83, e2_83, e3_83, e4_83, e5_83, e6_83, e7_83, e8_83, e9_83⟩ := m_83
              have f84 := (show 0 ≤ I81 0 71 ∧ I81 0 71 ≤ 5 from (hI81 0 71).1)
              have f85 := (show 0 ≤ I81 0 72 ∧ I81 0 72 ≤ 1000 from (hI81 0 72).1)
              have f86 := (show 0 ≤ I81 0 73 ∧ I81 0 73 ≤ 1001 from (hI81 0 73).1)
              have f87 := (show 0 ≤ I81 0 69 ∧ I81 0 69 ≤ 1000 from (hI81 0 69).1)
              have f88 := (show (-1) ≤ I81 0 6 ∧ I81 0 6 ≤ 7 from (hI81 0 6).1)
              have f89 := (show 0 ≤ I81 0 59 ∧ I81 0 59 ≤ 2000 from (hI81 0 59).1)
              have f90 := (show (-2147483648) ≤ I81 0 104 ∧ I81 0 104 ≤ 2147483647 from (hI81 0 104).1)
              have L167 : ∀ (s1_91 : Int), ((0 ≤ v1_33 ∧ v1_33 ≤ 7) ∧ ((-16) ≤ v2_53 ∧ v2_53 ≤ 32015) ∧ (0 ≤ v3_63 ∧ v3_63 ≤ 32015) ∧ (0 ≤ s1_91 ∧ s1_91 ≤ 1) ∧ (s1_91 = 0 ∨ I81 16 (Int.toNat v1_33) ≤ 23) ∧ (I81 0 71 = 5 ∨ I81 0 73 ≤ I81 0 69) ∧ (I81 0 72 ≤ I81 0 69) ∧ (I81 0 71 = 0 ∨ (I81 0 72 < I81 0 73 ∧ I81 0 72 < I81 0 69)) ∧ (I81 0 71 = 3 → 2 ≤ I81 0 73 - I81 0 72 ∧ I81 0 73 - I81 0 72 ≤ 14) ∧ (I81 0 72 ≤ I81 0 73) ∧ (I81 0 69 = I 0 69) ∧ (I 0 73 ≤ I81 0 73) ∧ (I 0 72 ≤ I81 0 72) ∧ (I81 0 6 = I 0 6) ∧ (I81 0 59 - I81 0 72 ≤ I 0 59 - I 0 72)) → gv_X (gr_E ws0 tb 12 (yX13_sound, cX13_sound, 6, (some .boolean)) kX13_sound) (gv_Q cX13_sound (some .boolean) (gr_sh ++ ext) (fun r h' => (∃ (I' : gr_I) (J' : gr_J), h' = gr_h I' J' ∧ gr_Inv I' ∧ gr_fr [59, 71, 72, 73, 74, 75, 76, 77, 104] [16, 27, 28, 29, 30, 51, 57, 63] I I' ∧ gr_fj [59, 71, 72, 73, 74, 75, 76, 77, 104] [16, 27, 28, 29, 30, 51, 57, 63] J J' ∧ (∃ z : Int, r = some (.inl z) ∧ 0 ≤ z ∧ z ≤ 1 ∧ (I' 0 71 = 5 ∨ I' 0 73 ≤ I' 0 69) ∧ (I' 0 72 ≤ I' 0 69) ∧ (I' 0 71 = 0 ∨ (I' 0 72 < I' 0 73 ∧ I' 0 72 < I' 0 69)) ∧ (I' 0 71 = 3 → 2 ≤ I' 0 73 - I' 0 72 ∧ I' 0 73 - I' 0 72 ≤ 14) ∧ (I' 0 72 ≤ I' 0 73) ∧ (I' 0 69 = I 0 69) ∧ (I 0 73 ≤ I' 0 73) ∧ (I 0 72 ≤ I' 0 72) ∧ (I' 0 59 - I' 0 72 ≤ I 0 59 - I 0 72))))) (167, [(0, .inr (.inr (some 0))), (1, .inl v1_33), (2, .inl v2_53), (3, .inl v3_63)], [.inl s1_91, .inr (.inr (some 0))], gr_sh ++ ext, gr_h I81 J82) := by
                intro s1_91 m_91
                obtain ⟨hv1_33_91, hv2_53_91, hv3_63_91, hs1_91, e0_91, e1_91, e2_91, e3_91, e4_91, e5_91, e6_91, e7_91, e8_91, e9_91, e10_91⟩ := m_91
                have f92 := (show 0 ≤ I81 0 71 ∧ I81 0 71 ≤ 5 from (hI81 0 71).1)
                have f93 := (show 0 ≤ I81 0 72 ∧ I81 0 72 ≤ 1000 from (hI81 0 72).1)
                have f94 := (show 0 ≤ I81 0 73 ∧ I81 0 73 ≤ 1001 from (hI81 0 73).1)
                have f95 := (show 0 ≤ I81 0 69 ∧ I81 0 69 ≤ 1000 from (hI81 0 69).1)
                have f96 := (show (-1) ≤ I81 0 6 ∧ I81 0 6 ≤ 7 from (hI81 0 6).1)
                have f97 := (show 0 ≤ I81 0 59 ∧ I81 0 59 ≤ 2000 from (hI81 0 59).1)
                have f98 := (show (-2147483648) ≤ I81 0 104 ∧ I81 0 104 ≤ 2147483647 from (hI81 0 104).1)
                have L212 : ∀ (n : Nat) (I99 : gr_I) (J100 : gr_J) (v4_101 : Int) (v5_101 : Int), (4 - v5_101).toNat < n → gr_Inv I99 → gr_fr [59, 71, 72, 73, 74, 75, 76, 77, 104] [16, 27, 28, 29, 30, 51, 57, 63] I I99 → gr_fj [59, 71, 72, 73, 74, 75, 76, 77, 104] [16, 27, 28, 29, 30, 51, 57, 63] J J100 → ((0 ≤ v4_101 ∧ v4_101 ≤ 191) ∧ (0 ≤ v5_101 ∧ v5_101 ≤ 3) ∧ (I99 0 71 = 5 ∨ I99 0 73 ≤ I99 0 69) ∧ (I99 0 72 ≤ I99 0 69) ∧ (I99 0 71 = 0 ∨ (I99 0 72 < I99 0 73 ∧ I99 0 72 < I99 0 69)) ∧ (I99 0 71 = 3 → 2 ≤ I99 0 73 - I99 0 72 ∧ I99 0 73 - I99 0 72 ≤ 14) ∧ (I99 0 72 ≤ I99 0 73) ∧ (I99 0 69 = I 0 69) ∧ (I 0 73 ≤ I99 0 73) ∧ (I 0 72 ≤ I99 0 72) ∧ (I99 0 6 = I 0 6) ∧ (I99 0 59 - I99 0 72 ≤ I 0 59 - I 0 72)) → gv_X (gr_E ws0 tb 12 (yX13_sound, cX13_sound, 6, (some .boolean)) kX13_sound) (gv_Q cX13_sound (some .boolean) (gr_sh ++ ext) (fun r h' => (∃ (I' : gr_I) (J' : gr_J), h' = gr_h I' J' ∧ gr_Inv I' ∧ gr_fr [59, 71, 72, 73, 74, 75, 76, 77, 104] [16, 27, 28, 29, 30, 51, 57, 63] I I' ∧ gr_fj [59, 71, 72, 73, 74, 75, 76, 77, 104] [16, 27, 28, 29, 30, 51, 57, 63] J J' ∧ (∃ z : Int, r = some (.inl z) ∧ 0 ≤ z ∧ z ≤ 1 ∧ (I' 0 71 = 5 ∨ I' 0 73 ≤ I' 0 69) ∧ (I' 0 72 ≤ I' 0 69) ∧ (I' 0 71 = 0 ∨ (I' 0 72 < I' 0 73 ∧ I' 0 72 < I' 0 69)) ∧ (I' 0 71 = 3 → 2 ≤ I' 0 73 - I' 0 72 ∧ I' 0 73 - I' 0 72 ≤ 14) ∧ (I' 0 72 ≤ I' 0 73) ∧ (I' 0 69 = I 0 69) ∧ (I 0 73 ≤ I' 0 73) ∧ (I 0 72 ≤ I' 0 72) ∧ (I' 0 59 - I' 0 72 ≤ I 0 59 - I 0 72))))) (212, [(0, .inr (.inr (some 0))), (4, .inl v4_101), (5, .inl v5_101)], [], gr_sh ++ ext, gr_h I99 J100) := by
                  intro n
                  induction n with
                  | zero => intro I99 J100 v4_101 v5_101 hn; omega
                  | succ n ih212 =>
                    intro I99 J100 v4_101 v5_101 hn hI99 FI99 FJ100 m_101
                    obtain ⟨hv4_101, hv5_101, e0_101, e1_101, e2_101, e3_101, e4_101, e5_101, e6_101, e7_101, e8_101, e9_101⟩ := m_101
                    have f102 := (show 0 ≤ I99 0 71 ∧ I99 0 71 ≤ 5 from (hI99 0 71).1)
                    have f103 := (show 0 ≤ I99 0 72 ∧ I99 0 72 ≤ 1000 from (hI99 0 72).1)
                    have f104 := (show 0 ≤ I99 0 73 ∧ I99 0 73 ≤ 1001 from (hI99 0 73).1)
                    have f105 := (show 0 ≤ I99 0 69 ∧ I99 0 69 ≤ 1000 from (hI99 0 69).1)
                    have f106 := (show (-1) ≤ I99 0 6 ∧ I99 0 6 ≤ 7 from (hI99 0 6).1)
                    have f107 := (show 0 ≤ I99 0 59 ∧ I99 0 59 ≤ 2000 from (hI99 0 59).1)
                    have f108 := (show (-2147483648) ≤ I99 0 104 ∧ I99 0 104 ≤ 2147483647 from (hI99 0 104).1)
                    refine gv_run 2 true hD (pc' := 215) (lv' := [(0, .inr (.inr (some 0))), (4, .inl v4_101), (5, .inl v5_101)]) (st' := [.inl 3, .inl v5_101]) (h' := gr_h I99 J100) (C := ((True ∧ True) ∧ True)) rfl ⟨⟨trivial, trivial⟩, trivial⟩ ?_
                    refine gv_icmp_ge (t := 264) hD rfl rfl ⟨⟨by omega, by omega⟩, ⟨by omega, by omega⟩⟩ (fun c109 => ?_) (fun c109 => ?_)
                    · refine gv_run 1 true hD (pc' := 265) (lv' := [(0, .inr (.inr (some 0))), (4, .inl v4_101), (5, .inl v5_101)]) (st' := [.inl 1]) (h' := gr_h I99 J100) (C := (True ∧ True)) rfl ⟨trivial, trivial⟩ ?_
                      exact gv_zret hD rfl (by omega) ⟨I99, J100, rfl, hI99, FI99, FJ100, ⟨_, rfl, by omega⟩⟩
                    · refine gv_run 7 true hD (pc' := 229) (lv' := [(0, .inr (.inr (some 0))), (4, .inl v4_101), (5, .inl v5_101)]) (st' := [.inl ((3 * v4_101) + v5_101), .inr (.inr (some 29))]) (h' := gr_h I99 J100) (C := (((((((True ∧ True) ∧ True) ∧ True) ∧ True) ∧ True) ∧ True) ∧ True)) rfl ⟨⟨⟨⟨⟨⟨⟨trivial, trivial⟩, trivial⟩, trivial⟩, trivial⟩, trivial⟩, trivial⟩, trivial⟩ ?_
                      have f110 := (show ((-2147483648) ≤ I99 63 (Int.toNat v5_101) ∧ I99 63 (Int.toNat v5_101) ≤ 2147483647) ∧ ((I99 63 (Int.toNat v5_101)) = -2147483648 ∨ (I99 63 (Int.toNat v5_101)) = 2147483647 ∨ -16 ≤ (I99 63 (Int.toNat v5_101)) ∧ (I99 63 (Int.toNat v5_101)) ≤ 32015) from hI99 63 (Int.toNat v5_101))
                      refine gv_run 4 true hD (pc' := 236) (lv' := [(0, .inr (.inr (some 0))), (4, .inl v4_101), (5, .inl v5_101)]) (st' := [.inl (I99 63 (Int.toNat v5_101)), .inl ((3 * v4_101) + v5_101), .inr (.inr (some 29))]) (h' := gr_h I99 J100) (C := ((((True ∧ True) ∧ True) ∧ True) ∧ (0 ≤ v5_101 ∧ v5_101 < ((6 : Nat) : Int)))) rfl ⟨⟨⟨⟨trivial, trivial⟩, trivial⟩, trivial⟩, ⟨by omega, by omega⟩⟩ ?_
                      refine gv_run 1 true hD (pc' := 237) (lv' := [(0, .inr (.inr (some 0))), (4, .inl v4_101), (5, .inl v5_101)]) (st' := []) (h' := gz_up (gr_h I99 J100) 29 (Int.toNat (((3 * v4_101) + v5_101))) (.inl ((I99 63 (Int.toNat v5_101))))) (C := (True ∧ (0 ≤ (((3 * v4_101) + v5_101)) ∧ (((3 * v4_101) + v5_101)) < ((576 : Nat) : Int)))) rfl ⟨trivial, ⟨by omega, by omega⟩⟩ ?_
                      refine gr_st hI99 FI99 rfl rfl ⟨⟨by show (-2147483648) ≤ _; omega, by show _ ≤ 2147483647; omega⟩, by show (((I99 63 (Int.toNat v5_101))) = -2147483648 ∨ ((I99 63 (Int.toNat v5_101))) = 2147483647 ∨ -16 ≤ ((I99 63 (Int.toNat v5_101))) ∧ ((I99 63 (Int.toNat v5_101))) ≤ 32015); omega⟩ (fun I111 hI111 FI111 q112 p112 => ?_)
                      have t113 := p112 0 71 (fun q => absurd q.1 (by decide))
                      have t114 := p112 0 72 (fun q => absurd q.1 (by decide))
                      have t115 := p112 0 73 (fun q => absurd q.1 (by decide))
                      have t116 := p112 0 69 (fun q => absurd q.1 (by decide))
                      have t117 := p112 0 6 (fun q => absurd q.1 (by decide))
                      have t118 := p112 0 59 (fun q => absurd q.1 (by decide))
                      have t119 := p112 0 104 (fun q => absurd q.1 (by decide))
                      have f120 := (show 0 ≤ I111 0 71 ∧ I111 0 71 ≤ 5 from (hI111 0 71).1)
                      have f121 := (show 0 ≤ I111 0 72 ∧ I111 0 72 ≤ 1000 from (hI111 0 72).1)
                      have f122 := (show 0 ≤ I111 0 73 ∧ I111 0 73 ≤ 1001 from (hI111 0 73).1)
                      have f123 := (show 0 ≤ I111 0 69 ∧ I111 0 69 ≤ 1000 from (hI111 0 69).1)
                      have f124 := (show (-1) ≤ I111 0 6 ∧ I111 0 6 ≤ 7 from (hI111 0 6).1)
                      have f125 := (show 0 ≤ I111 0 59 ∧ I111 0 59 ≤ 2000 from (hI111 0 59).1)
                      have f126 := (show (-2147483648) ≤ I111 0 104 ∧ I111 0 104 ≤ 2147483647 from (hI111 0 104).1)
                      refine gv_run 7 true hD (pc' := 248) (lv' := [(0, .inr (.inr (some 0))), (4, .inl v4_101), (5, .inl v5_101)]) (st' := [.inl ((3 * v4_101) + v5_101), .inr (.inr (some 30))]) (h' := gr_h I111 J100) (C := (((((((True ∧ True) ∧ True) ∧ True) ∧ True) ∧ True) ∧ True) ∧ True)) rfl ⟨⟨⟨⟨⟨⟨⟨trivial, trivial⟩, trivial⟩, trivial⟩, trivial⟩, trivial⟩, trivial⟩, trivial⟩ ?_
                      have f127 := (show ((-2147483648) ≤ I111 63 (Int.toNat ((3 + v5_101))) ∧ I111 63 (Int.toNat ((3 + v5_101))) ≤ 2147483647) ∧ ((I111 63 (Int.toNat ((3 + v5_101)))) = -2147483648 ∨ (I111 63 (Int.toNat ((3 + v5_101)))) = 2147483647 ∨ -16 ≤ (I111 63 (Int.toNat ((3 + v5_101)))) ∧ (I111 63 (Int.toNat ((3 + v5_101)))) ≤ 32015) from hI111 63 (Int.toNat ((3 + v5_101))))
                      refine gv_run 6 true hD (pc' := 257) (lv' := [(0, .inr (.inr (some 0))), (4, .inl v4_101), (5, .inl v5_101)]) (st' := [.inl (I111 63 (Int.toNat ((3 + v5_101)))), .inl ((3 * v4_101) + v5_101), .inr (.inr (some 30))]) (h' := gr_h I111 J100) (C := ((((((True ∧ True) ∧ True) ∧ True) ∧ True) ∧ True) ∧ (0 ≤ (3 + v5_101) ∧ (3 + v5_101) < ((6 : Nat) : Int)))) rfl ⟨⟨⟨⟨⟨⟨trivial, trivial⟩, trivial⟩, trivial⟩, trivial⟩, trivial⟩, ⟨by omega, by omega⟩⟩ ?_
                      refine gv_run 1 true hD (pc' := 258) (lv' := [(0, .inr (.inr (some 0))), (4, .inl v4_101), (5, .inl v5_101)]) (st' := []) (h' := gz_up (gr_h I111 J100) 30 (Int.toNat (((3 * v4_101) + v5_101))) (.inl ((I111 63 (Int.toNat ((3 + v5_101))))))) (C := (True ∧ (0 ≤ (((3 * v4_101) + v5_101)) ∧ (((3 * v4_101) + v5_101)) < ((576 : Nat) : Int)))) rfl ⟨trivial, ⟨by omega, by omega⟩⟩ ?_
                      refine gr_st hI111 FI111 rfl rfl ⟨⟨by show (-2147483648) ≤ _; omega, by show _ ≤ 2147483647; omega⟩, by show (((I111 63 (Int.toNat ((3 + v5_101))))) = -2147483648 ∨ ((I111 63 (Int.toNat ((3 + v5_101))))) = 2147483647 ∨ -16 ≤ ((I111 63 (Int.toNat ((3 + v5_101))))) ∧ ((I111 63 (Int.toNat ((3 + v5_101))))) ≤ 32015); omega⟩ (fun I128 hI128 FI128 q129 p129 => ?_)
                      have t130 := p129 0 71 (fun q => absurd q.1 (by decide))
                      have t131 := p129 0 72 (fun q => absurd q.1 (by decide))
                      have t132 := p129 0 73 (fun q => absurd q.1 (by decide))
                      have t133 := p129 0 69 (fun q => absurd q.1 (by decide))
                      have t134 := p129 0 6 (fun q => absurd q.1 (by decide))
                      have t135 := p129 0 59 (fun q => absurd q.1 (by decide))
                      have t136 := p129 0 104 (fun q => absurd q.1 (by decide))
                      have f137 := (show 0 ≤ I128 0 71 ∧ I128 0 71 ≤ 5 from (hI128 0 71).1)
                      have f138 := (show 0 ≤ I128 0 72 ∧ I128 0 72 ≤ 1000 from (hI128 0 72).1)
                      have f139 := (show 0 ≤ I128 0 73 ∧ I128 0 73 ≤ 1001 from (hI128 0 73).1)
                      have f140 := (show 0 ≤ I128 0 69 ∧ I128 0 69 ≤ 1000 from (hI128 0 69).1)
                      have f141 := (show (-1) ≤ I128 0 6 ∧ I128 0 6 ≤ 7 from (hI128 0 6).1)
                      have f142 := (show 0 ≤ I128 0 59 ∧ I128 0 59 ≤ 2000 from (hI128 0 59).1)
                      have f143 := (show (-2147483648) ≤ I128 0 104 ∧ I128 0 104 ≤ 2147483647 from (hI128 0 104).1)
                      refine gv_run 2 true hD (pc' := 212) (lv' := [(5, .inl (v5_101 + 1)), (0, .inr (.inr (some 0))), (4, .inl v4_101)]) (st' := []) (h' := gr_h I128 J100) (C := ((True ∧ True) ∧ True)) rfl ⟨⟨trivial, trivial⟩, trivial⟩ ?_
                      refine gv_pick [1, 2, 0] rfl ?_
                      exact ih212 I128 J100 v4_101 (v5_101 + 1) (by omega) hI128 FI128 FJ100 (by omega)
                obtain ⟨r144, h144, E144, P144⟩ := r_done (ws0 := ws0) (tb := tb) hws htb ext I81 J82 hI81 s1_91 ⟨by omega, by omega⟩ (by omega) (by omega) (by omega) (by omega) (by omega)
                obtain ⟨I145, J146, rfl, hI145, g144, k144, ⟨z144, rfl, q144⟩⟩ := P144
                have FI145 := gr_frt FI81 g144 rfl rfl
                have FJ146 := gr_fjt FJ82 k144 rfl rfl
                have t147 := g144 0 69 rfl
                have t148 := g144 0 6 rfl
                have t149 := g144 0 59 rfl
                have t150 := g144 0 104 rfl
                have t151 := g144 16 (Int.toNat v1_33) rfl
                have f152 := (show 0 ≤ I145 0 71 ∧ I145 0 71 ≤ 5 from (hI145 0 71).1)
                have f153 := (show 0 ≤ I145 0 72 ∧ I145 0 72 ≤ 1000 from (hI145 0 72).1)
                have f154 := (show 0 ≤ I145 0 73 ∧ I145 0 73 ≤ 1001 from (hI145 0 73).1)
                have f155 := (show 0 ≤ I145 0 69 ∧ I145 0 69 ≤ 1000 from (hI145 0 69).1)
                have f156 := (show (-1) ≤ I145 0 6 ∧ I145 0 6 ≤ 7 from (hI145 0 6).1)
                have f157 := (show 0 ≤ I145 0 59 ∧ I145 0 59 ≤ 2000 from (hI145 0 59).1)
                have f158 := (show (-2147483648) ≤ I145 0 104 ∧ I145 0 104 ≤ 2147483647 from (hI145 0 104).1)
                refine gv_callV hD rfl (As := [.inl s1_91]) (st := []) rfl (by decide) rfl rfl (gr_lV hws rfl) (Nat.le_of_ble_eq_true rfl) (gz_Ev_mono (d := 11) (by decide) E144) ?_
                show gv_X _ _ (170, [(0, .inr (.inr (some 0))), (1, .inl v1_33), (2, .inl v2_53), (3, .inl v3_63)], [.inl z144], gr_sh ++ ext, gr_h I145 J146)
                refine gv_if_ne (t := 175) hD rfl rfl ⟨by omega, by omega⟩ (fun c159 => ?_) (fun c159 => ?_)
                · refine gv_run 7 true hD (pc' := 185) (lv' := [(0, .inr (.inr (some 0))), (1, .inl v1_33), (2, .inl v2_53), (3, .inl v3_63)]) (st' := [.inl v1_33, .inr (.inr (some 16)), .inl v1_33, .inr (.inr (some 16)), .inl (24 * v1_33)]) (h' := gr_h I145 J146) (C := (((((((True ∧ True) ∧ True) ∧ True) ∧ True) ∧ True) ∧ True) ∧ True)) rfl ⟨⟨⟨⟨⟨⟨⟨trivial, trivial⟩, trivial⟩, trivial⟩, trivial⟩, trivial⟩, trivial⟩, trivial⟩ ?_
                  have f160 := (show 0 ≤ I145 16 (Int.toNat v1_33) ∧ I145 16 (Int.toNat v1_33) ≤ 24 from (hI145 16 (Int.toNat v1_33)).1)
                  refine gv_run 1 true hD (pc' := 186) (lv' := [(0, .inr (.inr (some 0))), (1, .inl v1_33), (2, .inl v2_53), (3, .inl v3_63)]) (st' := [.inl (I145 16 (Int.toNat v1_33)), .inl v1_33, .inr (.inr (some 16)), .inl (24 * v1_33)]) (h' := gr_h I145 J146) (C := (True ∧ (0 ≤ v1_33 ∧ v1_33 < ((8 : Nat) : Int)))) rfl ⟨trivial, ⟨by omega, by omega⟩⟩ ?_
                  refine gv_run 3 true hD (pc' := 189) (lv' := [(0, .inr (.inr (some 0))), (1, .inl v1_33), (2, .inl v2_53), (3, .inl v3_63)]) (st' := [.inl ((I145 16 (Int.toNat v1_33)) + 1), .inl v1_33, .inr (.inr (some 16)), .inl (I145 16 (Int.toNat v1_33)), .inl (24 * v1_33)]) (h' := gr_h I145 J146) (C := (((True ∧ True) ∧ True) ∧ True)) rfl ⟨⟨⟨trivial, trivial⟩, trivial⟩, trivial⟩ ?_
                  refine gv_run 1 true hD (pc' := 190) (lv' := [(0, .inr (.inr (some 0))), (1, .inl v1_33), (2, .inl v2_53), (3, .inl v3_63)]) (st' := [.inl (I145 16 (Int.toNat v1_33)), .inl (24 * v1_33)]) (h' := gz_up (gr_h I145 J146) 16 (Int.toNat v1_33) (.inl (((I145 16 (Int.toNat v1_33)) + 1)))) (C := (True ∧ (0 ≤ v1_33 ∧ v1_33 < ((8 : Nat) : Int)))) rfl ⟨trivial, ⟨by omega, by omega⟩⟩ ?_
                  refine gr_st hI145 FI145 rfl rfl ⟨⟨by show 0 ≤ _; omega, by show _ ≤ 24; omega⟩, trivial⟩ (fun I161 hI161 FI161 q162 p162 => ?_)
                  have t163 := p162 0 71 (fun q => absurd q.1 (by decide))
                  have t164 := p162 0 72 (fun q => absurd q.1 (by decide))
                  have t165 := p162 0 73 (fun q => absurd q.1 (by decide))
                  have t166 := p162 0 69 (fun q => absurd q.1 (by decide))
                  have t167 := p162 0 6 (fun q => absurd q.1 (by decide))
                  have t168 := p162 0 59 (fun q => absurd q.1 (by decide))
                  have t169 := p162 0 104 (fun q => absurd q.1 (by decide))
                  have f170 := (show 0 ≤ I161 0 71 ∧ I161 0 71 ≤ 5 from (hI161 0 71).1)
                  have f171 := (show 0 ≤ I161 0 72 ∧ I161 0 72 ≤ 1000 from (hI161 0 72).1)
                  have f172 := (show 0 ≤ I161 0 73 ∧ I161 0 73 ≤ 1001 from (hI161 0 73).1)
                  have f173 := (show 0 ≤ I161 0 69 ∧ I161 0 69 ≤ 1000 from (hI161 0 69).1)
                  have f174 := (show (-1) ≤ I161 0 6 ∧ I161 0 6 ≤ 7 from (hI161 0 6).1)
                  have f175 := (show 0 ≤ I161 0 59 ∧ I161 0 59 ≤ 2000 from (hI161 0 59).1)
                  have f176 := (show (-2147483648) ≤ I161 0 104 ∧ I161 0 104 ≤ 2147483647 from (hI161 0 104).1)
                  refine gv_run 6 true hD (pc' := 200) (lv' := [(4, .inl ((24 * v1_33) + (I145 16 (Int.toNat v1_33)))), (0, .inr (.inr (some 0))), (1, .inl v1_33), (2, .inl v2_53), (3, .inl v3_63)]) (st' := [.inl v2_53, .inl ((24 * v1_33) + (I145 16 (Int.toNat v1_33))), .inr (.inr (some 27))]) (h' := gr_h I161 J146) (C := ((((((True ∧ True) ∧ True) ∧ True) ∧ True) ∧ True) ∧ True)) rfl ⟨⟨⟨⟨⟨⟨trivial, trivial⟩, trivial⟩, trivial⟩, trivial⟩, trivial⟩, trivial⟩ ?_
                  refine gv_run 1 true hD (pc' := 201) (lv' := [(4, .inl ((24 * v1_33) + (I145 16 (Int.toNat v1_33)))), (0, .inr (.inr (some 0))), (1, .inl v1_33), (2, .inl v2_53), (3, .inl v3_63)]) (st' := []) (h' := gz_up (gr_h I161 J146) 27 (Int.toNat (((24 * v1_33) + (I145 16 (Int.toNat v1_33))))) (.inl v2_53)) (C := (True ∧ (0 ≤ (((24 * v1_33) + (I145 16 (Int.toNat v1_33)))) ∧ (((24 * v1_33) + (I145 16 (Int.toNat v1_33)))) < ((192 : Nat) : Int)))) rfl ⟨trivial, ⟨by omega, by omega⟩⟩ ?_
                  refine gr_st hI161 FI161 rfl rfl ⟨⟨by show (-16) ≤ _; omega, by show _ ≤ 32015; omega⟩, trivial⟩ (fun I177 hI177 FI177 q178 p178 => ?_)
                  have t179 := p178 0 71 (fun q => absurd q.1 (by decide))
                  have t180 := p178 0 72 (fun q => absurd q.1 (by decide))
                  have t181 := p178 0 73 (fun q => absurd q.1 (by decide))
                  have t182 := p178 0 69 (fun q => absurd q.1 (by decide))
                  have t183 := p178 0 6 (fun q => absurd q.1 (by decide))
                  have t184 := p178 0 59 (fun q => absurd q.1 (by decide))
                  have t185 := p178 0 104 (fun q => absurd q.1 (by decide))
                  have t186 := p178 16 (Int.toNat v1_33) (fun q => absurd q.1 (by decide))
                  have f187 := (show 0 ≤ I177 0 71 ∧ I177 0 71 ≤ 5 from (hI177 0 71).1)
                  have f188 := (show 0 ≤ I177 0 72 ∧ I177 0 72 ≤ 1000 from (hI177 0 72).1)
                  have f189 := (show 0 ≤ I177 0 73 ∧ I177 0 73 ≤ 1001 from (hI177 0 73).1)
                  have f190 := (show 0 ≤ I177 0 69 ∧ I177 0 69 ≤ 1000 from (hI177 0 69).1)
                  have f191 := (show (-1) ≤ I177 0 6 ∧ I177 0 6 ≤ 7 from (hI177 0 6).1)
                  have f192 := (show 0 ≤ I177 0 59 ∧ I177 0 59 ≤ 2000 from (hI177 0 59).1)
                  have f193 := (show (-2147483648) ≤ I177 0 104 ∧ I177 0 104 ≤ 2147483647 from (hI177 0 104).1)
                  refine gv_run 4 true hD (pc' := 208) (lv' := [(4, .inl ((24 * v1_33) + (I145 16 (Int.toNat v1_33)))), (0, .inr (.inr (some 0))), (1, .inl v1_33), (2, .inl v2_53), (3, .inl v3_63)]) (st' := [.inl v3_63, .inl ((24 * v1_33) + (I145 16 (Int.toNat v1_33))), .inr (.inr (some 28))]) (h' := gr_h I177 J146) (C := ((((True ∧ True) ∧ True) ∧ True) ∧ True)) rfl ⟨⟨⟨⟨trivial, trivial⟩, trivial⟩, trivial⟩, trivial⟩ ?_
                  refine gv_run 1 true hD (pc' := 209) (lv' := [(4, .inl ((24 * v1_33) + (I145 16 (Int.toNat v1_33)))), (0, .inr (.inr (some 0))), (1, .inl v1_33), (2, .inl v2_53), (3, .inl v3_63)]) (st' := []) (h' := gz_up (gr_h I177 J146) 28 (Int.toNat (((24 * v1_33) + (I145 16 (Int.toNat v1_33))))) (.inl v3_63)) (C := (True ∧ (0 ≤ (((24 * v1_33) + (I145 16 (Int.toNat v1_33)))) ∧ (((24 * v1_33) + (I145 16 (Int.toNat v1_33)))) < ((192 : Nat) : Int)))) rfl ⟨trivial, ⟨by omega, by omega⟩⟩ ?_
                  refine gr_st hI177 FI177 rfl rfl ⟨⟨by show 0 ≤ _; omega, by show _ ≤ 32015; omega⟩, trivial⟩ (fun I194 hI194 FI194 q195 p195 => ?_)
                  have t196 := p195 0 71 (fun q => absurd q.1 (by decide))
                  have t197 := p195 0 72 (fun q => absurd q.1 (by decide))
                  have t198 := p195 0 73 (fun q => absurd q.1 (by decide))
                  have t199 := p195 0 69 (fun q => absurd q.1 (by decide))
                  have t200 := p195 0 6 (fun q => absurd q.1 (by decide))
                  have t201 := p195 0 59 (fun q => absurd q.1 (by decide))
                  have t202 := p195 0 104 (fun q => absurd q.1 (by decide))
                  have t203 := p195 16 (Int.toNat v1_33) (fun q => absurd q.1 (by decide))
                  have f204 := (show 0 ≤ I194 0 71 ∧ I194 0 71 ≤ 5 from (hI194 0 71).1)
                  have f205 := (show 0 ≤ I194 0 72 ∧ I194 0 72 ≤ 1000 from (hI194 0 72).1)
                  have f206 := (show 0 ≤ I194 0 73 ∧ I194 0 73 ≤ 1001 from (hI194 0 73).1)
                  have f207 := (show 0 ≤ I194 0 69 ∧ I194 0 69 ≤ 1000 from (hI194 0 69).1)
                  have f208 := (show (-1) ≤ I194 0 6 ∧ I194 0 6 ≤ 7 from (hI194 0 6).1)
                  have f209 := (show 0 ≤ I194 0 59 ∧ I194 0 59 ≤ 2000 from (hI194 0 59).1)
                  have f210 := (show (-2147483648) ≤ I194 0 104 ∧ I194 0 104 ≤ 2147483647 from (hI194 0 104).1)
                  refine gv_run 2 true hD (pc' := 212) (lv' := [(5, .inl 0), (4, .inl ((24 * v1_33) + (I145 16 (Int.toNat v1_33)))), (0, .inr (.inr (some 0))), (1, .inl v1_33), (2, .inl v2_53), (3, .inl v3_63)]) (st' := []) (h' := gr_h I194 J146) (C := ((True ∧ True) ∧ True)) rfl ⟨⟨trivial, trivial⟩, trivial⟩ ?_
                  refine gv_pick [2, 1, 0] rfl ?_
                  exact L212 _ I194 J146 (((24 * v1_33) + (I145 16 (Int.toNat v1_33)))) 0 (Nat.lt_succ_self _) hI194 FI194 FJ146 (by omega)
                · refine gv_run 1 true hD (pc' := 174) (lv' := [(0, .inr (.inr (some 0))), (1, .inl v1_33), (2, .inl v2_53), (3, .inl v3_63)]) (st' := [.inl 0]) (h' := gr_h I145 J146) (C := (True ∧ True)) rfl ⟨trivial, trivial⟩ ?_
                  exact gv_zret hD rfl (by omega) ⟨I145, J146, rfl, hI145, FI145, FJ146, ⟨_, rfl, by omega⟩⟩
              have f211 := (show 0 ≤ I81 16 (Int.toNat v1_33) ∧ I81 16 (Int.toNat v1_33) ≤ 24 from (hI81 16 (Int.toNat v1_33)).1)
              refine gv_run 5 true hD (pc' := 157) (lv' := [(0, .inr (.inr (some 0))), (1, .inl v1_33), (2, .inl v2_53), (3, .inl v3_63)]) (st' := [.inl (I81 16 (Int.toNat v1_33)), .inr (.inr (some 0))]) (h' := gr_h I81 J82) (C := (((((True ∧ True) ∧ True) ∧ True) ∧ True) ∧ (0 ≤ v1_33 ∧ v1_33 < ((8 : Nat) : Int)))) rfl ⟨⟨⟨⟨⟨trivial, trivial⟩, trivial⟩, trivial⟩, trivial⟩, ⟨by omega, by omega⟩⟩ ?_
              refine gv_run 1 true hD (pc' := 159) (lv' := [(0, .inr (.inr (some 0))), (1, .inl v1_33), (2, .inl v2_53), (3, .inl v3_63)]) (st' := [.inl 24, .inl (I81 16 (Int.toNat v1_33)), .inr (.inr (some 0))]) (h' := gr_h I81 J82) (C := (True ∧ True)) rfl ⟨trivial, trivial⟩ ?_
              refine gv_icmp_ge (t := 166) hD rfl rfl ⟨⟨by omega, by omega⟩, ⟨by omega, by omega⟩⟩ (fun c212 => ?_) (fun c212 => ?_)
              · refine gv_run 1 true hD (pc' := 167) (lv' := [(0, .inr (.inr (some 0))), (1, .inl v1_33), (2, .inl v2_53), (3, .inl v3_63)]) (st' := [.inl 0, .inr (.inr (some 0))]) (h' := gr_h I81 J82) (C := (True ∧ True)) rfl ⟨trivial, trivial⟩ ?_
                exact L167 0 (by omega)
              · refine gv_run 2 true hD (pc' := 167) (lv' := [(0, .inr (.inr (some 0))), (1, .inl v1_33), (2, .inl v2_53), (3, .inl v3_63)]) (st' := [.inl 1, .inr (.inr (some 0))]) (h' := gr_h I81 J82) (C := ((True ∧ True) ∧ True)) rfl ⟨⟨trivial, trivial⟩, trivial⟩ ?_
                exact L167 1 (by omega)
            have L131 : ∀ (I213 : gr_I) (J214 : gr_J) , gr_Inv I213 → gr_fr [59, 71, 72, 73, 74, 75, 76, 77, 104] [16, 27, 28, 29, 30, 51, 57, 63] I I213 → gr_fj [59, 71, 72, 73, 74, 75, 76, 77, 104] [16, 27, 28, 29, 30, 51, 57, 63] J J214 → ((0 ≤ v1_33 ∧ v1_33 ≤ 7) ∧ ((-16) ≤ v2_53 ∧ v2_53 ≤ 32015) ∧ (0 ≤ v3_63 ∧ v3_63 ≤ 32015) ∧ (I213 0 71 = 5 ∨ I213 0 73 ≤ I213 0 69) ∧ (I213 0 72 ≤ I213 0 69) ∧ (I213 0 71 = 0 ∨ (I213 0 72 < I213 0 73 ∧ I213 0 72 < I213 0 69)) ∧ (I213 0 71 = 3 → 2 ≤ I213 0 73 - I213 0 72 ∧ I213 0 73 - I213 0 72 ≤ 14) ∧ (I213 0 72 ≤ I213 0 73) ∧ (I213 0 69 = I 0 69) ∧ (I 0 73 ≤ I213 0 73) ∧ (I 0 72 ≤ I213 0 72) ∧ (I213 0 6 = I 0 6) ∧ (I213 0 59 - I213 0 72 ≤ I 0 59 - I 0 72)) → gv_X (gr_E ws0 tb 12 (yX13_sound, cX13_sound, 6, (some .boolean)) kX13_sound) (gv_Q cX13_sound (some .boolean) (gr_sh ++ ext) (fun r h' => (∃ (I' : gr_I) (J' : gr_J), h' = gr_h I' J' ∧ gr_Inv I' ∧ gr_fr [59, 71, 72, 73, 74, 75, 76, 77, 104] [16, 27, 28, 29, 30, 51, 57, 63] I I' ∧ gr_fj [59, 71, 72, 73, 74, 75, 76, 77, 104] [16, 27, 28, 29, 30, 51, 57, 63] J J' ∧ (∃ z : Int, r = some (.inl z) ∧ 0 ≤ z ∧ z ≤ 1 ∧ (I' 0 71 = 5 ∨ I' 0 73 ≤ I' 0 69) ∧ (I' 0 72 ≤ I' 0 69) ∧ (I' 0 71 = 0 ∨ (I' 0 72 < I' 0 73 ∧ I' 0 72 < I' 0 69)) ∧ (I' 0 71 = 3 → 2 ≤ I' 0 73 - I' 0 72 ∧ I' 0 73 - I' 0 72 ≤ 14) ∧ (I' 0 72 ≤ I' 0 73) ∧ (I' 0 69 = I 0 69) ∧ (I 0 73 ≤ I' 0 73) ∧ (I 0 72 ≤ I' 0 72) ∧ (I' 0 59 - I' 0 72 ≤ I 0 59 - I 0 72))))) (131, [(0, .inr (.inr (some 0))), (1, .inl v1_33), (2, .inl v2_53), (3, .inl v3_63)], [], gr_sh ++ ext, gr_h I213 J214) := by
              intro I213 J214 hI213 FI213 FJ214 m_215
              obtain ⟨hv1_33_215, hv2_53_215, hv3_63_215, e0_215, e1_215, e2_215, e3_215, e4_215, e5_215, e6_215, e7_215, e8_215, e9_215⟩ := m_215
              have f216 := (show 0 ≤ I213 0 71 ∧ I213 0 71 ≤ 5 from (hI213 0 71).1)
              have f217 := (show 0 ≤ I213 0 72 ∧ I213 0 72 ≤ 1000 from (hI213 0 72).1)
              have f218 := (show 0 ≤ I213 0 73 ∧ I213 0 73 ≤ 1001 from (hI213 0 73).1)
              have f219 := (show 0 ≤ I213 0 69 ∧ I213 0 69 ≤ 1000 from (hI213 0 69).1)
              have f220 := (show (-1) ≤ I213 0 6 ∧ I213 0 6 ≤ 7 from (hI213 0 6).1)
              have f221 := (show 0 ≤ I213 0 59 ∧ I213 0 59 ≤ 2000 from (hI213 0 59).1)
              have f222 := (show (-2147483648) ≤ I213 0 104 ∧ I213 0 104 ≤ 2147483647 from (hI213 0 104).1)
              have L140 : ∀ (I223 : gr_I) (J224 : gr_J) , gr_Inv I223 → gr_fr [59, 71, 72, 73, 74, 75, 76, 77, 104] [16, 27, 28, 29, 30, 51, 57, 63] I I223 → gr_fj [59, 71, 72, 73, 74, 75, 76, 77, 104] [16, 27, 28, 29, 30, 51, 57, 63] J J224 → ((0 ≤ v1_33 ∧ v1_33 ≤ 7) ∧ ((-16) ≤ v2_53 ∧ v2_53 ≤ 32015) ∧ (0 ≤ v3_63 ∧ v3_63 ≤ 32015) ∧ (I223 0 71 = 5 ∨ I223 0 73 ≤ I223 0 69) ∧ (I223 0 72 ≤ I223 0 69) ∧ (I223 0 71 = 0 ∨ (I223 0 72 < I223 0 73 ∧ I223 0 72 < I223 0 69)) ∧ (I223 0 71 = 3 → 2 ≤ I223 0 73 - I223 0 72 ∧ I223 0 73 - I223 0 72 ≤ 14) ∧ (I223 0 72 ≤ I223 0 73) ∧ (I223 0 69 = I 0 69) ∧ (I 0 73 ≤ I223 0 73) ∧ (I 0 72 ≤ I223 0 72) ∧ (I223 0 6 = I 0 6) ∧ (I223 0 59 - I223 0 72 ≤ I 0 59 - I 0 72)) → gv_X (gr_E ws0 tb 12 (yX13_sound, cX13_sound, 6, (some .boolean)) kX13_sound) (gv_Q cX13_sound (some .boolean) (gr_sh ++ ext) (fun r h' => (∃ (I' : gr_I) (J' : gr_J), h' = gr_h I' J' ∧ gr_Inv I' ∧ gr_fr [59, 71, 72, 73, 74, 75, 76, 77, 104] [16, 27, 28, 29, 30, 51, 57, 63] I I' ∧ gr_fj [59, 71, 72, 73, 74, 75, 76, 77, 104] [16, 27, 28, 29, 30, 51, 57, 63] J J' ∧ (∃ z : Int, r = some (.inl z) ∧ 0 ≤ z ∧ z ≤ 1 ∧ (I' 0 71 = 5 ∨ I' 0 73 ≤ I' 0 69) ∧ (I' 0 72 ≤ I' 0 69) ∧ (I' 0 71 = 0 ∨ (I' 0 72 < I' 0 73 ∧ I' 0 72 < I' 0 69)) ∧ (I' 0 71 = 3 → 2 ≤ I' 0 73 - I' 0 72 ∧ I' 0 73 - I' 0 72 ≤ 14) ∧ (I' 0 72 ≤ I' 0 73) ∧ (I' 0 69 = I 0 69) ∧ (I 0 73 ≤ I' 0 73) ∧ (I 0 72 ≤ I' 0 72) ∧ (I' 0 59 - I' 0 72 ≤ I 0 59 - I 0 72))))) (140, [(0, .inr (.inr (some 0))), (1, .inl v1_33), (2, .inl v2_53), (3, .inl v3_63)], [], gr_sh ++ ext, gr_h I223 J224) := by
                intro I223 J224 hI223 FI223 FJ224 m_225
                obtain ⟨hv1_33_225, hv2_53_225, hv3_63_225, e0_225, e1_225, e2_225, e3_225, e4_225, e5_225, e6_225, e7_225, e8_225, e9_225⟩ := m_225
                have f226 := (show 0 ≤ I223 0 71 ∧ I223 0 71 ≤ 5 from (hI223 0 71).1)
                have f227 := (show 0 ≤ I223 0 72 ∧ I223 0 72 ≤ 1000 from (hI223 0 72).1)
                have f228 := (show 0 ≤ I223 0 73 ∧ I223 0 73 ≤ 1001 from (hI223 0 73).1)
                have f229 := (show 0 ≤ I223 0 69 ∧ I223 0 69 ≤ 1000 from (hI223 0 69).1)
                have f230 := (show (-1) ≤ I223 0 6 ∧ I223 0 6 ≤ 7 from (hI223 0 6).1)
                have f231 := (show 0 ≤ I223 0 59 ∧ I223 0 59 ≤ 2000 from (hI223 0 59).1)
                have f232 := (show (-2147483648) ≤ I223 0 104 ∧ I223 0 104 ≤ 2147483647 from (hI223 0 104).1)
                refine gv_run 2 true hD (pc' := 142) (lv' := [(0, .inr (.inr (some 0))), (1, .inl v1_33), (2, .inl v2_53), (3, .inl v3_63)]) (st' := [.inl 3, .inr (.inr (some 0))]) (h' := gr_h I223 J224) (C := ((True ∧ True) ∧ True)) rfl ⟨⟨trivial, trivial⟩, trivial⟩ ?_
                obtain ⟨r233, h233, E233, P233⟩ := r_side (ws0 := ws0) (tb := tb) hws htb ext I223 J224 hI223 3 ⟨by omega, by omega⟩ (by omega) (by omega) (by omega) (by omega) (by omega) (by omega) (by omega)
                obtain ⟨I234, J235, rfl, hI234, g233, k233, ⟨z233, rfl, q233⟩⟩ := P233
                have FI234 := gr_frt FI223 g233 rfl rfl
                have FJ235 := gr_fjt FJ224 k233 rfl rfl
                have t236 := g233 0 69 rfl
                have t237 := g233 0 6 rfl
                have t238 := g233 16 (Int.toNat v1_33) rfl
                have f239 := (show 0 ≤ I234 0 71 ∧ I234 0 71 ≤ 5 from (hI234 0 71).1)
                have f240 := (show 0 ≤ I234 0 72 ∧ I234 0 72 ≤ 1000 from (hI234 0 72).1)
                have f241 := (show 0 ≤ I234 0 73 ∧ I234 0 73 ≤ 1001 from (hI234 0 73).1)
                have f242 := (show 0 ≤ I234 0 69 ∧ I234 0 69 ≤ 1000 from (hI234 0 69).1)
                have f243 := (show (-1) ≤ I234 0 6 ∧ I234 0 6 ≤ 7 from (hI234 0 6).1)
                have f244 := (show 0 ≤ I234 0 59 ∧ I234 0 59 ≤ 2000 from (hI234 0 59).1)
                have f245 := (show (-2147483648) ≤ I234 0 104 ∧ I234 0 104 ≤ 2147483647 from (hI234 0 104).1)
                refine gv_callV hD rfl (As := [.inl 3]) (st := []) rfl (by decide) rfl rfl (gr_lV hws rfl) (Nat.le_of_ble_eq_true rfl) (gz_Ev_mono (d := 12) (by decide) E233) ?_
                show gv_X _ _ (145, [(0, .inr (.inr (some 0))), (1, .inl v1_33), (2, .inl v2_53), (3, .inl v3_63)], [.inl z233], gr_sh ++ ext, gr_h I234 J235)
                refine gv_if_ne (t := 150) hD rfl rfl ⟨by omega, by omega⟩ (fun c246 => ?_) (fun c246 => ?_)
                · exact L150 I234 J235 hI234 FI234 FJ235 (by omega)
                · refine gv_pick [] rfl ?_
                  exact L148 I234 J235 hI234 FI234 FJ235 (by omega)
              refine gv_run 2 true hD (pc' := 134) (lv' := [(0, .inr (.inr (some 0))), (1, .inl v1_33), (2, .inl v2_53), (3, .inl v3_63)]) (st' := [.inl 95, .inr (.inr (some 0))]) (h' := gr_h I213 J214) (C := ((True ∧ True) ∧ True)) rfl ⟨⟨trivial, trivial⟩, trivial⟩ ?_
              obtain ⟨r247, h247, E247, P247⟩ := r_need (ws0 := ws0) (tb := tb) hws htb ext I213 J214 hI213 95 ⟨by omega, by omega⟩ (by omega) (by omega) (by omega) (by omega) (by omega)
              obtain ⟨I248, J249, rfl, hI248, g247, k247, ⟨z247, rfl, q247⟩⟩ := P247
              have FI248 := gr_frt FI213 g247 rfl rfl
              have FJ249 := gr_fjt FJ214 k247 rfl rfl
              have t250 := g247 0 69 rfl
              have t251 := g247 0 6 rfl
              have t252 := g247 0 59 rfl
              have t253 := g247 0 104 rfl
              have t254 := g247 16 (Int.toNat v1_33) rfl
              have f255 := (show 0 ≤ I248 0 71 ∧ I248 0 71 ≤ 5 from (hI248 0 71).1)
              have f256 := (show 0 ≤ I248 0 72 ∧ I248 0 72 ≤ 1000 from (hI248 0 72).1)
              have f257 := (show 0 ≤ I248 0 73 ∧ I248 0 73 ≤ 1001 from (hI248 0 73).1)
              have f258 := (show 0 ≤ I248 0 69 ∧ I248 0 69 ≤ 1000 from (hI248 0 69).1)
              have f259 := (show (-1) ≤ I248 0 6 ∧ I248 0 6 ≤ 7 from (hI248 0 6).1)
              have f260 := (show 0 ≤ I248 0 59 ∧ I248 0 59 ≤ 2000 from (hI248 0 59).1)
              have f261 := (show (-2147483648) ≤ I248 0 104 ∧ I248 0 104 ≤ 2147483647 from (hI248 0 104).1)
              refine gv_callV hD rfl (As := [.inl 95]) (st := []) rfl (by decide) rfl rfl (gr_lV hws rfl) (Nat.le_of_ble_eq_true rfl) (gz_Ev_mono (d := 11) (by decide) E247) ?_
              show gv_X _ _ (137, [(0, .inr (.inr (some 0))), (1, .inl v1_33), (2, .inl v2_53), (3, .inl v3_63)], [.inl z247], gr_sh ++ ext, gr_h I248 J249)
              refine gv_if_eq (t := 148) hD rfl rfl ⟨by omega, by omega⟩ (fun c262 => ?_) (fun c262 => ?_)
              · refine gv_pick [] rfl ?_
                exact L148 I248 J249 hI248 FI248 FJ249 (by omega)
              · exact L140 I248 J249 hI248 FI248 FJ249 (by omega)
            refine gv_run 2 true hD (pc' := 91) (lv' := [(0, .inr (.inr (some 0))), (1, .inl v1_33), (2, .inl v2_53), (3, .inl v3_63), (4, .inl v4_63)]) (st' := [.inl 6, .inl v4_63]) (h' := gr_h I61 J62) (C := ((True ∧ True) ∧ True)) rfl ⟨⟨trivial, trivial⟩, trivial⟩ ?_
            refine gv_icmp_ge (t := 110) hD rfl rfl ⟨⟨by omega, by omega⟩, ⟨by omega, by omega⟩⟩ (fun c263 => ?_) (fun c263 => ?_)
            · refine gv_run 2 true hD (pc' := 113) (lv' := [(0, .inr (.inr (some 0))), (1, .inl v1_33), (2, .inl v2_53), (3, .inl v3_63), (4, .inl v4_63)]) (st' := [.inl 47, .inr (.inr (some 0))]) (h' := gr_h I61 J62) (C := ((True ∧ True) ∧ True)) rfl ⟨⟨trivial, trivial⟩, trivial⟩ ?_
              obtain ⟨r264, h264, E264, P264⟩ := r_sign (ws0 := ws0) (tb := tb) hws htb ext I61 J62 hI61 47 ⟨by omega, by omega⟩ (by omega)
              obtain ⟨rfl, ⟨z264, rfl, q264⟩⟩ := P264
              refine gv_callV hD rfl (As := [.inl 47]) (st := []) rfl (by decide) rfl rfl (gr_lV hws rfl) (Nat.le_of_ble_eq_true rfl) (gz_Ev_mono (d := 1) (by decide) E264) ?_
              show gv_X _ _ (116, [(0, .inr (.inr (some 0))), (1, .inl v1_33), (2, .inl v2_53), (3, .inl v3_63), (4, .inl v4_63)], [.inl z264], gr_sh ++ ext, gr_h I61 J62)
              refine gv_if_eq (t := 150) hD rfl rfl ⟨by omega, by omega⟩ (fun c265 => ?_) (fun c265 => ?_)
              · refine gv_pick [0, 1, 2, 3] rfl ?_
                exact L150 I61 J62 hI61 FI61 FJ62 (by omega)
              · refine gv_run 1 true hD (pc' := 120) (lv' := [(0, .inr (.inr (some 0))), (1, .inl v1_33), (2, .inl v2_53), (3, .inl v3_63), (4, .inl v4_63)]) (st' := [.inr (.inr (some 0))]) (h' := gr_h I61 J62) (C := (True ∧ True)) rfl ⟨trivial, trivial⟩ ?_
                obtain ⟨r266, h266, E266, P266⟩ := r_next (ws0 := ws0) (tb := tb) hws htb ext I61 J62 hI61   (by omega)
                obtain ⟨I267, J268, rfl, hI267, g266, k266, ⟨rfl, q266⟩⟩ := P266
                have FI267 := gr_frt FI61 g266 rfl rfl
                have FJ268 := gr_fjt FJ62 k266 rfl rfl
                have t269 := g266 0 69 rfl
                have t270 := g266 0 6 rfl
                have t271 := g266 0 59 rfl
                have t272 := g266 0 104 rfl
                have t273 := g266 16 (Int.toNat v1_33) rfl
                have f274 := (show 0 ≤ I267 0 71 ∧ I267 0 71 ≤ 5 from (hI267 0 71).1)
                have f275 := (show 0 ≤ I267 0 72 ∧ I267 0 72 ≤ 1000 from (hI267 0 72).1)
                have f276 := (show 0 ≤ I267 0 73 ∧ I267 0 73 ≤ 1001 from (hI267 0 73).1)
                have f277 := (show 0 ≤ I267 0 69 ∧ I267 0 69 ≤ 1000 from (hI267 0 69).1)
                have f278 := (show (-1) ≤ I267 0 6 ∧ I267 0 6 ≤ 7 from (hI267 0 6).1)
                have f279 := (show 0 ≤ I267 0 59 ∧ I267 0 59 ≤ 2000 from (hI267 0 59).1)
                have f280 := (show (-2147483648) ≤ I267 0 104 ∧ I267 0 104 ≤ 2147483647 from (hI267 0 104).1)
                refine gv_callV hD rfl (As := []) (st := []) rfl (by decide) rfl rfl (gr_lV hws rfl) (Nat.le_of_ble_eq_true rfl) (gz_Ev_mono (d := 10) (by decide) E266) ?_
                show gv_X _ _ (123, [(0, .inr (.inr (some 0))), (1, .inl v1_33), (2, .inl v2_53), (3, .inl v3_63), (4, .inl v4_63)], [], gr_sh ++ ext, gr_h I267 J268)
                refine gv_run 2 true hD (pc' := 125) (lv' := [(0, .inr (.inr (some 0))), (1, .inl v1_33), (2, .inl v2_53), (3, .inl v3_63), (4, .inl v4_63)]) (st' := [.inl 0, .inr (.inr (some 0))]) (h' := gr_h I267 J268) (C := ((True ∧ True) ∧ True)) rfl ⟨⟨trivial, trivial⟩, trivial⟩ ?_
                obtain ⟨r281, h281, E281, P281⟩ := r_side (ws0 := ws0) (tb := tb) hws htb ext I267 J268 hI267 0 ⟨by omega, by omega⟩ (by omega) (by omega) (by omega) (by omega) (by omega) (by omega) (by omega)
                obtain ⟨I282, J283, rfl, hI282, g281, k281, ⟨z281, rfl, q281⟩⟩ := P281
                have FI282 := gr_frt FI267 g281 rfl rfl
                have FJ283 := gr_fjt FJ268 k281 rfl rfl
                have t284 := g281 0 69 rfl
                have t285 := g281 0 6 rfl
                have t286 := g281 16 (Int.toNat v1_33) rfl
                have f287 := (show 0 ≤ I282 0 71 ∧ I282 0 71 ≤ 5 from (hI282 0 71).1)
                have f288 := (show 0 ≤ I282 0 72 ∧ I282 0 72 ≤ 1000 from (hI282 0 72).1)
                have f289 := (show 0 ≤ I282 0 73 ∧ I282 0 73 ≤ 1001 from (hI282 0 73).1)
                have f290 := (show 0 ≤ I282 0 69 ∧ I282 0 69 ≤ 1000 from (hI282 0 69).1)
                have f291 := (show (-1) ≤ I282 0 6 ∧ I282 0 6 ≤ 7 from (hI282 0 6).1)
                have f292 := (show 0 ≤ I282 0 59 ∧ I282 0 59 ≤ 2000 from (hI282 0 59).1)
                have f293 := (show (-2147483648) ≤ I282 0 104 ∧ I282 0 104 ≤ 2147483647 from (hI282 0 104).1)
                refine gv_callV hD rfl (As := [.inl 0]) (st := []) rfl (by decide) rfl rfl (gr_lV hws rfl) (Nat.le_of_ble_eq_true rfl) (gz_Ev_mono (d := 12) (by decide) E281) ?_
                show gv_X _ _ (128, [(0, .inr (.inr (some 0))), (1, .inl v1_33), (2, .inl v2_53), (3, .inl v3_63), (4, .inl v4_63)], [.inl z281], gr_sh ++ ext, gr_h I282 J283)
                refine gv_if_eq (t := 148) hD rfl rfl ⟨by omega, by omega⟩ (fun c294 => ?_) (fun c294 => ?_)
                · refine gv_pick [] rfl ?_
                  exact L148 I282 J283 hI282 FI282 FJ283 (by omega)
                · refine gv_pick [0, 1, 2, 3] rfl ?_
                  exact L131 I282 J283 hI282 FI282 FJ283 (by omega)
            · refine gv_run 4 true hD (pc' := 103) (lv' := [(0, .inr (.inr (some 0))), (1, .inl v1_33), (2, .inl v2_53), (3, .inl v3_63), (4, .inl v4_63)]) (st' := [.inl 2147483647, .inl v4_63, .inr (.inr (some 63))]) (h' := gr_h I61 J62) (C := ((((True ∧ True) ∧ True) ∧ True) ∧ True)) rfl ⟨⟨⟨⟨trivial, trivial⟩, trivial⟩, trivial⟩, trivial⟩ ?_
              refine gv_run 1 true hD (pc' := 104) (lv' := [(0, .inr (.inr (some 0))), (1, .inl v1_33), (2, .inl v2_53), (3, .inl v3_63), (4, .inl v4_63)]) (st' := []) (h' := gz_up (gr_h I61 J62) 63 (Int.toNat v4_63) (.inl 2147483647)) (C := (True ∧ (0 ≤ v4_63 ∧ v4_63 < ((6 : Nat) : Int)))) rfl ⟨trivial, ⟨by omega, by omega⟩⟩ ?_
              refine gr_st hI61 FI61 rfl rfl ⟨⟨by show (-2147483648) ≤ _; omega, by show _ ≤ 2147483647; omega⟩, by show (2147483647 = -2147483648 ∨ 2147483647 = 2147483647 ∨ -16 ≤ 2147483647 ∧ 2147483647 ≤ 32015); omega⟩ (fun I295 hI295 FI295 q296 p296 => ?_)
              have t297 := p296 0 71 (fun q => absurd q.1 (by decide))
              have t298 := p296 0 72 (fun q => absurd q.1 (by decide))
              have t299 := p296 0 73 (fun q => absurd q.1 (by decide))
              have t300 := p296 0 69 (fun q => absurd q.1 (by decide))
              have t301 := p296 0 6 (fun q => absurd q.1 (by decide))
              have t302 := p296 0 59 (fun q => absurd q.1 (by decide))
              have t303 := p296 0 104 (fun q => absurd q.1 (by decide))
              have t304 := p296 16 (Int.toNat v1_33) (fun q => absurd q.1 (by decide))
              have f305 := (show 0 ≤ I295 0 71 ∧ I295 0 71 ≤ 5 from (hI295 0 71).1)
              have f306 := (show 0 ≤ I295 0 72 ∧ I295 0 72 ≤ 1000 from (hI295 0 72).1)
              have f307 := (show 0 ≤ I295 0 73 ∧ I295 0 73 ≤ 1001 from (hI295 0 73).1)
              have f308 := (show 0 ≤ I295 0 69 ∧ I295 0 69 ≤ 1000 from (hI295 0 69).1)
              have f309 := (show (-1) ≤ I295 0 6 ∧ I295 0 6 ≤ 7 from (hI295 0 6).1)
              have f310 := (show 0 ≤ I295 0 59 ∧ I295 0 59 ≤ 2000 from (hI295 0 59).1)
              have f311 := (show (-2147483648) ≤ I295 0 104 ∧ I295 0 104 ≤ 2147483647 from (hI295 0 104).1)
              refine gv_run 2 true hD (pc' := 87) (lv' := [(4, .inl (v4_63 + 1)), (0, .inr (.inr (some 0))), (1, .inl v1_33), (2, .inl v2_53), (3, .inl v3_63)]) (st' := []) (h' := gr_h I295 J62) (C := ((True ∧ True) ∧ True)) rfl ⟨⟨trivial, trivial⟩, trivial⟩ ?_
              refine gv_pick [1, 2, 3, 4, 0] rfl ?_
              exact ih87 I295 J62 v3_63 (v4_63 + 1) (by omega) hI295 FI295 FJ62 (by omega)
        have f312 := (show 0 ≤ I51 0 71 ∧ I51 0 71 ≤ 5 from (hI51 0 71).1)
        refine gv_run 3 true hD (pc' := 66) (lv' := [(0, .inr (.inr (some 0))), (1, .inl v1_33), (2, .inl v2_53)]) (st' := [.inl 3, .inl (I51 0 71)]) (h' := gr_h I51 J52) (C := (((True ∧ True) ∧ True) ∧ True)) rfl ⟨⟨⟨trivial, trivial⟩, trivial⟩, trivial⟩ ?_
        refine gv_icmp_eq (t := 75) hD rfl rfl ⟨⟨by omega, by omega⟩, ⟨by omega, by omega⟩⟩ (fun c313 => ?_) (fun c313 => ?_)
        · refine gv_run 1 true hD (pc' := 76) (lv' := [(0, .inr (.inr (some 0))), (1, .inl v1_33), (2, .inl v2_53)]) (st' := [.inr (.inr (some 0))]) (h' := gr_h I51 J52) (C := (True ∧ True)) rfl ⟨trivial, trivial⟩ ?_
          obtain ⟨r314, h314, E314, P314⟩ := r_keeps (ws0 := ws0) (tb := tb) hws htb ext I51 J52 hI51   (by omega) (by omega) (by omega) (by omega)
          obtain ⟨I315, J316, rfl, hI315, g314, k314, ⟨z314, rfl, q314⟩⟩ := P314
          have FI315 := gr_frt FI51 g314 rfl rfl
          have FJ316 := gr_fjt FJ52 k314 rfl rfl
          have t317 := g314 0 71 rfl
          have t318 := g314 0 72 rfl
          have t319 := g314 0 73 rfl
          have t320 := g314 0 69 rfl
          have t321 := g314 0 6 rfl
          have t322 := g314 0 104 rfl
          have t323 := g314 16 (Int.toNat v1_33) rfl
          have f324 := (show 0 ≤ I315 0 71 ∧ I315 0 71 ≤ 5 from (hI315 0 71).1)
          have f325 := (show 0 ≤ I315 0 72 ∧ I315 0 72 ≤ 1000 from (hI315 0 72).1)
          have f326 := (show 0 ≤ I315 0 73 ∧ I315 0 73 ≤ 1001 from (hI315 0 73).1)
          have f327 := (show 0 ≤ I315 0 69 ∧ I315 0 69 ≤ 1000 from (hI315 0 69).1)
          have f328 := (show (-1) ≤ I315 0 6 ∧ I315 0 6 ≤ 7 from (hI315 0 6).1)
          have f329 := (show 0 ≤ I315 0 59 ∧ I315 0 59 ≤ 2000 from (hI315 0 59).1)
          have f330 := (show (-2147483648) ≤ I315 0 104 ∧ I315 0 104 ≤ 2147483647 from (hI315 0 104).1)
          refine gv_callV hD rfl (As := []) (st := []) rfl (by decide) rfl rfl (gr_lV hws rfl) (Nat.le_of_ble_eq_true rfl) (gz_Ev_mono (d := 2) (by decide) E314) ?_
          show gv_X _ _ (79, [(0, .inr (.inr (some 0))), (1, .inl v1_33), (2, .inl v2_53)], [.inl z314], gr_sh ++ ext, gr_h I315 J316)
          refine gv_run 2 true hD (pc' := 81) (lv' := [(3, .inl z314), (0, .inr (.inr (some 0))), (1, .inl v1_33), (2, .inl v2_53)]) (st' := [.inr (.inr (some 0))]) (h' := gr_h I315 J316) (C := ((True ∧ True) ∧ True)) rfl ⟨⟨trivial, trivial⟩, trivial⟩ ?_
          obtain ⟨r331, h331, E331, P331⟩ := r_next (ws0 := ws0) (tb := tb) hws htb ext I315 J316 hI315   (by omega)
          obtain ⟨I332, J333, rfl, hI332, g331, k331, ⟨rfl, q331⟩⟩ := P331
          have FI332 := gr_frt FI315 g331 rfl rfl
          have FJ333 := gr_fjt FJ316 k331 rfl rfl
          have t334 := g331 0 69 rfl
          have t335 := g331 0 6 rfl
          have t336 := g331 0 59 rfl
          have t337 := g331 0 104 rfl
          have t338 := g331 16 (Int.toNat v1_33) rfl
          have f339 := (show 0 ≤ I332 0 71 ∧ I332 0 71 ≤ 5 from (hI332 0 71).1)
          have f340 := (show 0 ≤ I332 0 72 ∧ I332 0 72 ≤ 1000 from (hI332 0 72).1)
          have f341 := (show 0 ≤ I332 0 73 ∧ I332 0 73 ≤ 1001 from (hI332 0 73).1)
          have f342 := (show 0 ≤ I332 0 69 ∧ I332 0 69 ≤ 1000 from (hI332 0 69).1)
          have f343 := (show (-1) ≤ I332 0 6 ∧ I332 0 6 ≤ 7 from (hI332 0 6).1)
          have f344 := (show 0 ≤ I332 0 59 ∧ I332 0 59 ≤ 2000 from (hI332 0 59).1)
          have f345 := (show (-2147483648) ≤ I332 0 104 ∧ I332 0 104 ≤ 2147483647 from (hI332 0 104).1)
          refine gv_callV hD rfl (As := []) (st := []) rfl (by decide) rfl rfl (gr_lV hws rfl) (Nat.le_of_ble_eq_true rfl) (gz_Ev_mono (d := 10) (by decide) E331) ?_
          show gv_X _ _ (84, [(3, .inl z314), (0, .inr (.inr (some 0))), (1, .inl v1_33), (2, .inl v2_53)], [], gr_sh ++ ext, gr_h I332 J333)
          refine gv_run 2 true hD (pc' := 87) (lv' := [(4, .inl 0), (3, .inl z314), (0, .inr (.inr (some 0))), (1, .inl v1_33), (2, .inl v2_53)]) (st' := []) (h' := gr_h I332 J333) (C := ((True ∧ True) ∧ True)) rfl ⟨⟨trivial, trivial⟩, trivial⟩ ?_
          refine gv_pick [2, 3, 4, 1, 0] rfl ?_
          exact L87 _ I332 J333 z314 0 (Nat.lt_succ_self _) hI332 FI332 FJ333 (by omega)
        · refine gv_run 2 true hD (pc' := 71) (lv' := [(0, .inr (.inr (some 0))), (1, .inl v1_33), (2, .inl v2_53)]) (st' := [.inl 1, .inr (.inr (some 0))]) (h' := gr_h I51 J52) (C := ((True ∧ True) ∧ True)) rfl ⟨⟨trivial, trivial⟩, trivial⟩ ?_
          obtain ⟨r346, h346, E346, P346⟩ := r_no_ (ws0 := ws0) (tb := tb) hws htb ext I51 J52 hI51 1 ⟨by omega, by omega⟩ 
          obtain ⟨I347, J348, rfl, hI347, g346, k346, ⟨z346, rfl, q346⟩⟩ := P346
          have FI347 := gr_frt FI51 g346 rfl rfl
          have FJ348 := gr_fjt FJ52 k346 rfl rfl
          have t349 := g346 0 71 rfl
          have t350 := g346 0 72 rfl
          have t351 := g346 0 73 rfl
          have t352 := g346 0 69 rfl
          have t353 := g346 0 6 rfl
          have t354 := g346 0 59 rfl
          have t355 := g346 0 104 rfl
          have t356 := g346 16 (Int.toNat v1_33) rfl
          have f357 := (show 0 ≤ I347 0 71 ∧ I347 0 71 ≤ 5 from (hI347 0 71).1)
          have f358 := (show 0 ≤ I347 0 72 ∧ I347 0 72 ≤ 1000 from (hI347 0 72).1)
          have f359 := (show 0 ≤ I347 0 73 ∧ I347 0 73 ≤ 1001 from (hI347 0 73).1)
          have f360 := (show 0 ≤ I347 0 69 ∧ I347 0 69 ≤ 1000 from (hI347 0 69).1)
          have f361 := (show (-1) ≤ I347 0 6 ∧ I347 0 6 ≤ 7 from (hI347 0 6).1)
          have f362 := (show 0 ≤ I347 0 59 ∧ I347 0 59 ≤ 2000 from (hI347 0 59).1)
          have f363 := (show (-2147483648) ≤ I347 0 104 ∧ I347 0 104 ≤ 2147483647 from (hI347 0 104).1)
          refine gv_callV hD rfl (As := [.inl 1]) (st := []) rfl (by decide) rfl rfl (gr_lV hws rfl) (Nat.le_of_ble_eq_true rfl) (gz_Ev_mono (d := 2) (by decide) E346) ?_
          show gv_X _ _ (74, [(0, .inr (.inr (some 0))), (1, .inl v1_33), (2, .inl v2_53)], [.inl z346], gr_sh ++ ext, gr_h I347 J348)
          exact gv_zret hD rfl (by omega) ⟨I347, J348, rfl, hI347, FI347, FJ348, ⟨_, rfl, by omega⟩⟩
      have f364 := (show ((-2147483648) ≤ I41 0 104 ∧ I41 0 104 ≤ 2147483647) ∧ ((I41 0 104) = -2147483648 ∨ (I41 0 104) = 2147483647 ∨ -16 ≤ (I41 0 104) ∧ (I41 0 104) ≤ 32015) from hI41 0 104)
      refine gv_run 5 true hD (pc' := 53) (lv' := [(2, .inl (I41 0 104)), (0, .inr (.inr (some 0))), (1, .inl v1_33)]) (st' := [.inl 62, .inr (.inr (some 0))]) (h' := gr_h I41 J42) (C := (((((True ∧ True) ∧ True) ∧ True) ∧ True) ∧ True)) rfl ⟨⟨⟨⟨⟨trivial, trivial⟩, trivial⟩, trivial⟩, trivial⟩, trivial⟩ ?_
      obtain ⟨r365, h365, E365, P365⟩ := r_need (ws0 := ws0) (tb := tb) hws htb ext I41 J42 hI41 62 ⟨by omega, by omega⟩ (by omega) (by omega) (by omega) (by omega) (by omega)
      obtain ⟨I366, J367, rfl, hI366, g365, k365, ⟨z365, rfl, q365⟩⟩ := P365
      have FI366 := gr_frt FI41 g365 rfl rfl
      have FJ367 := gr_fjt FJ42 k365 rfl rfl
      have t368 := g365 0 69 rfl
      have t369 := g365 0 6 rfl
      have t370 := g365 0 59 rfl
      have t371 := g365 0 104 rfl
      have t372 := g365 16 (Int.toNat v1_33) rfl
      have f373 := (show 0 ≤ I366 0 71 ∧ I366 0 71 ≤ 5 from (hI366 0 71).1)
      have f374 := (show 0 ≤ I366 0 72 ∧ I366 0 72 ≤ 1000 from (hI366 0 72).1)
      have f375 := (show 0 ≤ I366 0 73 ∧ I366 0 73 ≤ 1001 from (hI366 0 73).1)
      have f376 := (show 0 ≤ I366 0 69 ∧ I366 0 69 ≤ 1000 from (hI366 0 69).1)
      have f377 := (show (-1) ≤ I366 0 6 ∧ I366 0 6 ≤ 7 from (hI366 0 6).1)
      have f378 := (show 0 ≤ I366 0 59 ∧ I366 0 59 ≤ 2000 from (hI366 0 59).1)
      have f379 := (show (-2147483648) ≤ I366 0 104 ∧ I366 0 104 ≤ 2147483647 from (hI366 0 104).1)
      refine gv_callV hD rfl (As := [.inl 62]) (st := []) rfl (by decide) rfl rfl (gr_lV hws rfl) (Nat.le_of_ble_eq_true rfl) (gz_Ev_mono (d := 11) (by decide) E365) ?_
      show gv_X _ _ (56, [(2, .inl (I41 0 104)), (0, .inr (.inr (some 0))), (1, .inl v1_33)], [.inl z365], gr_sh ++ ext, gr_h I366 J367)
      refine gv_if_ne (t := 61) hD rfl rfl ⟨by omega, by omega⟩ (fun c380 => ?_) (fun c380 => ?_)
      · refine gv_pick [1, 2, 0] rfl ?_
        exact L61 I366 J367 (I41 0 104) hI366 FI366 FJ367 (by omega)
      · refine gv_run 1 true hD (pc' := 60) (lv' := [(2, .inl (I41 0 104)), (0, .inr (.inr (some 0))), (1, .inl v1_33)]) (st' := [.inl 0]) (h' := gr_h I366 J367) (C := (True ∧ True)) rfl ⟨trivial, trivial⟩ ?_
        exact gv_zret hD rfl (by omega) ⟨I366, J367, rfl, hI366, FI366, FJ367, ⟨_, rfl, by omega⟩⟩
    refine gv_run 2 true hD (pc' := 37) (lv' := [(0, .inr (.inr (some 0))), (1, .inl v1_33)]) (st' := [.inl 0, .inr (.inr (some 0))]) (h' := gr_h I J) (C := ((True ∧ True) ∧ True)) rfl ⟨⟨trivial, trivial⟩, trivial⟩ ?_
    obtain ⟨r381, h381, E381, P381⟩ := r_context (ws0 := ws0) (tb := tb) hws htb ext I J hI 0 ⟨by omega, by omega⟩ (by omega) (by omega) (by omega) (by omega) (by omega) (by omega) (by omega)
    obtain ⟨I382, J383, rfl, hI382, g381, k381, ⟨z381, rfl, q381⟩⟩ := P381
    have FI382 := gr_frt FI g381 rfl rfl
    have FJ383 := gr_fjt FJ k381 rfl rfl
    have t384 := g381 0 69 rfl
    have t385 := g381 0 6 rfl
    have t386 := g381 16 (Int.toNat v1_33) rfl
    have f387 := (show 0 ≤ I382 0 71 ∧ I382 0 71 ≤ 5 from (hI382 0 71).1)
    have f388 := (show 0 ≤ I382 0 72 ∧ I382 0 72 ≤ 1000 from (hI382 0 72).1)
    have f389 := (show 0 ≤ I382 0 73 ∧ I382 0 73 ≤ 1001 from (hI382 0 73).1)
    have f390 := (show 0 ≤ I382 0 69 ∧ I382 0 69 ≤ 1000 from (hI382 0 69).1)
    have f391 := (show (-1) ≤ I382 0 6 ∧ I382 0 6 ≤ 7 from (hI382 0 6).1)
    have f392 := (show 0 ≤ I382 0 59 ∧ I382 0 59 ≤ 2000 from (hI382 0 59).1)
    have f393 := (show (-2147483648) ≤ I382 0 104 ∧ I382 0 104 ≤ 2147483647 from (hI382 0 104).1)
    refine gv_callV hD rfl (As := [.inl 0]) (st := []) rfl (by decide) rfl rfl (gr_lV hws rfl) (Nat.le_of_ble_eq_true rfl) (gz_Ev_mono (d := 11) (by decide) E381) ?_
    show gv_X _ _ (40, [(0, .inr (.inr (some 0))), (1, .inl v1_33)], [.inl z381], gr_sh ++ ext, gr_h I382 J383)
    refine gv_if_ne (t := 45) hD rfl rfl ⟨by omega, by omega⟩ (fun c394 => ?_) (fun c394 => ?_)
    · exact L45 I382 J383 hI382 FI382 FJ383 (by omega)
    · refine gv_run 1 true hD (pc' := 44) (lv' := [(0, .inr (.inr (some 0))), (1, .inl v1_33)]) (st' := [.inl 0]) (h' := gr_h I382 J383) (C := (True ∧ True)) rfl ⟨trivial, trivial⟩ ?_
      exact gv_zret hD rfl (by omega) ⟨I382, J383, rfl, hI382, FI382, FJ383, ⟨_, rfl, by omega⟩⟩
  have f395 := (show (-1) ≤ I 0 6 ∧ I 0 6 ≤ 7 from (hI 0 6).1)
  have f396 := (show 0 ≤ I 0 71 ∧ I 0 71 ≤ 5 from (hI 0 71).1)
  refine gv_run 6 true hD (pc' := 10) (lv' := [(1, .inl (I 0 6)), (0, .inr (.inr (some 0)))]) (st' := [.inl 3, .inl (I 0 71)]) (h' := gr_h I J) (C := ((((((True ∧ True) ∧ True) ∧ True) ∧ True) ∧ True) ∧ True)) rfl ⟨⟨⟨⟨⟨⟨trivial, trivial⟩, trivial⟩, trivial⟩, trivial⟩, trivial⟩, trivial⟩ ?_
  refine gv_icmp_ne (t := 35) hD rfl rfl ⟨⟨by omega, by omega⟩, ⟨by omega, by omega⟩⟩ (fun c397 => ?_) (fun c397 => ?_)
  · refine gv_pick [1, 0] rfl ?_
    exact L35 (I 0 6) (by omega)
  · refine gv_run 1 true hD (pc' := 14) (lv' := [(1, .inl (I 0 6)), (0, .inr (.inr (some 0)))]) (st' := [.inr (.inr (some 0))]) (h' := gr_h I J) (C := (True ∧ True)) rfl ⟨trivial, trivial⟩ ?_
    obtain ⟨r398, h398, E398, P398⟩ := r_size (ws0 := ws0) (tb := tb) hws htb ext I J hI   
    obtain ⟨rfl, ⟨z398, rfl, q398⟩⟩ := P398
    refine gv_callV hD rfl (As := []) (st := []) rfl (by decide) rfl rfl (gr_lV hws rfl) (Nat.le_of_ble_eq_true rfl) (gz_Ev_mono (d := 1) (by decide) E398) ?_
    show gv_X _ _ (17, [(1, .inl (I 0 6)), (0, .inr (.inr (some 0)))], [.inl z398], gr_sh ++ ext, gr_h I J)
    refine gv_run 1 true hD (pc' := 18) (lv' := [(1, .inl (I 0 6)), (0, .inr (.inr (some 0)))]) (st' := [.inl 1, .inl z398]) (h' := gr_h I J) (C := (True ∧ True)) rfl ⟨trivial, trivial⟩ ?_
    refine gv_icmp_lt (t := 29) hD rfl rfl ⟨⟨by omega, by omega⟩, ⟨by omega, by omega⟩⟩ (fun c399 => ?_) (fun c399 => ?_)
    · refine gv_pick [1] rfl ?_
      exact L29 (by omega)
    · refine gv_run 1 true hD (pc' := 22) (lv' := [(1, .inl (I 0 6)), (0, .inr (.inr (some 0)))]) (st' := [.inr (.inr (some 0))]) (h' := gr_h I J) (C := (True ∧ True)) rfl ⟨trivial, trivial⟩ ?_
      obtain ⟨r400, h400, E400, P400⟩ := r_size (ws0 := ws0) (tb := tb) hws htb ext I J hI   
      obtain ⟨rfl, ⟨z400, rfl, q400⟩⟩ := P400
      refine gv_callV hD rfl (As := []) (st := []) rfl (by decide) rfl rfl (gr_lV hws rfl) (Nat.le_of_ble_eq_true rfl) (gz_Ev_mono (d := 1) (by decide) E400) ?_
      show gv_X _ _ (25, [(1, .inl (I 0 6)), (0, .inr (.inr (some 0)))], [.inl z400], gr_sh ++ ext, gr_h I J)
      refine gv_run 1 true hD (pc' := 26) (lv' := [(1, .inl (I 0 6)), (0, .inr (.inr (some 0)))]) (st' := [.inl 3, .inl z400]) (h' := gr_h I J) (C := (True ∧ True)) rfl ⟨trivial, trivial⟩ ?_
      refine gv_icmp_le (t := 35) hD rfl rfl ⟨⟨by omega, by omega⟩, ⟨by omega, by omega⟩⟩ (fun c401 => ?_) (fun c401 => ?_)
      · refine gv_pick [1, 0] rfl ?_
        exact L35 (I 0 6) (by omega)
      · refine gv_pick [1] rfl ?_
        exact L29 (by omega)
