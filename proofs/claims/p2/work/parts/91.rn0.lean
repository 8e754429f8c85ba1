set_option maxHeartbeats 4000000 in
set_option maxRecDepth 100000 in
theorem r_wordOf {ws0 : List Cond} {tb : String → gz_T} (hws : ∀ w ∈ gr_ws, w ∈ ws0) (htb : tb RX13 = gr_T) (ext : gz_Sh) (I : gr_I) (J : gr_J) (hI : gr_Inv I)   (x0 : I 0 71 = 5 ∨ I 0 73 ≤ I 0 69) (x1 : I 0 72 ≤ I 0 69) (x2 : I 0 71 = 0 ∨ (I 0 72 < I 0 73 ∧ I 0 72 < I 0 69)) (x3 : I 0 71 = 3 → 2 ≤ I 0 73 - I 0 72 ∧ I 0 73 - I 0 72 ≤ 14) (x4 : I 0 72 ≤ I 0 73) (x5 : 0 ≤ I 0 6) (x6 : I 0 59 + I 0 69 - I 0 72 ≤ 1900) : ∃ r h', gz_Ev ws0 tb 12 (yX13_wordOf, cX13_wordOf, 7, (some .boolean)) [.inr (.inr (some 0))] (gr_sh ++ ext) (gr_h I J) r (gr_sh ++ ext) h' 0 0 ∧ (∃ (I' : gr_I) (J' : gr_J), h' = gr_h I' J' ∧ gr_Inv I' ∧ gr_fr [59, 71, 72, 73, 74, 75, 76, 77, 101, 106] [18, 36, 37, 38, 39, 40, 51, 57, 67] I I' ∧ gr_fj [59, 71, 72, 73, 74, 75, 76, 77, 101, 106] [18, 36, 37, 38, 39, 40, 51, 57, 67] J J' ∧ (∃ z : Int, r = some (.inl z) ∧ 0 ≤ z ∧ z ≤ 1 ∧ (I' 0 71 = 5 ∨ I' 0 73 ≤ I' 0 69) ∧ (I' 0 72 ≤ I' 0 69) ∧ (I' 0 71 = 0 ∨ (I' 0 72 < I' 0 73 ∧ I' 0 72 < I' 0 69)) ∧ (I' 0 71 = 3 → 2 ≤ I' 0 73 - I' 0 72 ∧ I' 0 73 - I' 0 72 ≤ 14) ∧ (I' 0 72 ≤ I' 0 73) ∧ (I' 0 69 = I 0 69) ∧ (I 0 73 ≤ I' 0 73) ∧ (I 0 72 ≤ I' 0 72) ∧ (I' 0 59 - I' 0 72 ≤ I 0 59 - I 0 72))) := by
  have FI : gr_fr [59, 71, 72, 73, 74, 75, 76, 77, 101, 106] [18, 36, 37, 38, 39, 40, 51, 57, 67] I I := fun _ _ _ => rfl
  have FJ : gr_fj [59, 71, 72, 73, 74, 75, 76, 77, 101, 106] [18, 36, 37, 38, 39, 40, 51, 57, 67] J J := fun _ _ _ => rfl
  have hD : gv_D (gr_E ws0 tb 11 (yX13_wordOf, cX13_wordOf, 7, (some .boolean)) kX13_wordOf) := gq_ok oX13_wordOf
  refine gr_ev (d := 11) (l := kX13_wordOf) (Po := fun r h' => (∃ (I' : gr_I) (J' : gr_J), h' = gr_h I' J' ∧ gr_Inv I' ∧ gr_fr [59, 71, 72, 73, 74, 75, 76, 77, 101, 106] [18, 36, 37, 38, 39, 40, 51, 57, 67] I I' ∧ gr_fj [59, 71, 72, 73, 74, 75, 76, 77, 101, 106] [18, 36, 37, 38, 39, 40, 51, 57, 67] J J' ∧ (∃ z : Int, r = some (.inl z) ∧ 0 ≤ z ∧ z ≤ 1 ∧ (I' 0 71 = 5 ∨ I' 0 73 ≤ I' 0 69) ∧ (I' 0 72 ≤ I' 0 69) ∧ (I' 0 71 = 0 ∨ (I' 0 72 < I' 0 73 ∧ I' 0 72 < I' 0 69)) ∧ (I' 0 71 = 3 → 2 ≤ I' 0 73 - I' 0 72 ∧ I' 0 73 - I' 0 72 ≤ 14) ∧ (I' 0 72 ≤ I' 0 73) ∧ (I' 0 69 = I 0 69) ∧ (I 0 73 ≤ I' 0 73) ∧ (I 0 72 ≤ I' 0 72) ∧ (I' 0 59 - I' 0 72 ≤ I 0 59 - I 0 72)))) htb rfl (Nat.le_of_ble_eq_true rfl) ?_
  have f1 := (show 0 ≤ I 0 71 ∧ I 0 71 ≤ 5 from (hI 0 71).1)
  have f2 := (show 0 ≤ I 0 72 ∧ I 0 72 ≤ 1000 from (hI 0 72).1)
  have f3 := (show 0 ≤ I 0 73 ∧ I 0 73 ≤ 1001 from (hI 0 73).1)
  have f4 := (show 0 ≤ I 0 69 ∧ I 0 69 ≤ 1000 from (hI 0 69).1)
  have f5 := (show (-1) ≤ I 0 6 ∧ I 0 6 ≤ 7 from (hI 0 6).1)
  have f6 := (show 0 ≤ I 0 59 ∧ I 0 59 ≤ 2000 from (hI 0 59).1)
  have L14 : ∀ (I7 : gr_I) (J8 : gr_J) (v1_9 : Int), gr_Inv I7 → gr_fr [59, 71, 72, 73, 74, 75, 76, 77, 101, 106] [18, 36, 37, 38, 39, 40, 51, 57, 67] I I7 → gr_fj [59, 71, 72, 73, 74, 75, 76, 77, 101, 106] [18, 36, 37, 38, 39, 40, 51, 57, 67] J J8 → ((0 ≤ v1_9 ∧ v1_9 ≤ 7) ∧ (I7 0 71 = 1) ∧ (I7 0 71 = 5 ∨ I7 0 73 ≤ I7 0 69) ∧ (I7 0 72 ≤ I7 0 69) ∧ (I7 0 71 = 0 ∨ (I7 0 72 < I7 0 73 ∧ I7 0 72 < I7 0 69)) ∧ (I7 0 71 = 3 → 2 ≤ I7 0 73 - I7 0 72 ∧ I7 0 73 - I7 0 72 ≤ 14) ∧ (I7 0 72 ≤ I7 0 73) ∧ (I7 0 69 = I 0 69) ∧ (I 0 73 ≤ I7 0 73) ∧ (I 0 72 ≤ I7 0 72) ∧ (I7 0 6 = I 0 6) ∧ (I7 0 59 - I7 0 72 ≤ I 0 59 - I 0 72)) → gv_X (gr_E ws0 tb 11 (yX13_wordOf, cX13_wordOf, 7, (some .boolean)) kX13_wordOf) (gv_Q cX13_wordOf (some .boolean) (gr_sh ++ ext) (fun r h' => (∃ (I' : gr_I) (J' : gr_J), h' = gr_h I' J' ∧ gr_Inv I' ∧ gr_fr [59, 71, 72, 73, 74, 75, 76, 77, 101, 106] [18, 36, 37, 38, 39, 40, 51, 57, 67] I I' ∧ gr_fj [59, 71, 72, 73, 74, 75, 76, 77, 101, 106] [18, 36, 37, 38, 39, 40, 51, 57, 67] J J' ∧ (∃ z : Int, r = some (.inl z) ∧ 0 ≤ z ∧ z ≤ 1 ∧ (I' 0 71 = 5 ∨ I' 0 73 ≤ I' 0 69) ∧ (I' 0 72 ≤ I' 0 69) ∧ (I' 0 71 = 0 ∨ (I' 0 72 < I' 0 73 ∧ I' 0 72 < I' 0 69)) ∧ (I' 0 71 = 3 → 2 ≤ I' 0 73 - I' 0 72 ∧ I' 0 73 - I' 0 72 ≤ 14) ∧ (I' 0 72 ≤ I' 0 73) ∧ (I' 0 69 = I 0 69) ∧ (I 0 73 ≤ I' 0 73) ∧ (I 0 72 ≤ I' 0 72) ∧ (I' 0 59 - I' 0 72 ≤ I 0 59 - I 0 72))))) (14, [(0, .inr (.inr (some 0))), (1, .inl v1_9)], [], gr_sh ++ ext, gr_h I7 J8) := by
    intro I7 J8 v1_9 hI7 FI7 FJ8 m_9
    obtain ⟨hv1_9, e0_9, e1_9, e2_9, e3_9, e4_9, e5_9, e6_9, e7_9, e8_9, e9_9, e10_9⟩ := m_9
    have f10 := (show 0 ≤ I7 0 71 ∧ I7 0 71 ≤ 5 from (hI7 0 71).1)
    have f11 := (show 0 ≤ I7 0 72 ∧ I7 0 72 ≤ 1000 from (hI7 0 72).1)
    have f12 := (show 0 ≤ I7 0 73 ∧ I7 0 73 ≤ 1001 from (hI7 0 73).1)
    have f13 := (show 0 ≤ I7 0 69 ∧ I7 0 69 ≤ 1000 from (hI7 0 69).1)
    have f14 := (show (-1) ≤ I7 0 6 ∧ I7 0 6 ≤ 7 from (hI7 0 6).1)
    have f15 := (show 0 ≤ I7 0 59 ∧ I7 0 59 ≤ 2000 from (hI7 0 59).1)
    have L44 : ((I7 0 71 = 5 ∨ I7 0 73 ≤ I7 0 69) ∧ (I7 0 72 ≤ I7 0 69) ∧ (I7 0 71 = 0 ∨ (I7 0 72 < I7 0 73 ∧ I7 0 72 < I7 0 69)) ∧ (I7 0 71 = 3 → 2 ≤ I7 0 73 - I7 0 72 ∧ I7 0 73 - I7 0 72 ≤ 14) ∧ (I7 0 72 ≤ I7 0 73) ∧ (I7 0 69 = I 0 69) ∧ (I 0 73 ≤ I7 0 73) ∧ (I 0 72 ≤ I7 0 72) ∧ (I7 0 6 = I 0 6) ∧ (I7 0 59 - I7 0 72 ≤ I 0 59 - I 0 72)) → gv_X (gr_E ws0 tb 11 (yX13_wordOf, cX13_wordOf, 7, (some .boolean)) kX13_wordOf) (gv_Q cX13_wordOf (some .boolean) (gr_sh ++ ext) (fun r h' => (∃ (I' : gr_I) (J' : gr_J), h' = gr_h I' J' ∧ gr_Inv I' ∧ gr_fr [59, 71, 72, 73, 74, 75, 76, 77, 101, 106] [18, 36, 37, 38, 39, 40, 51, 57, 67] I I' ∧ gr_fj [59, 71, 72, 73, 74, 75, 76, 77, 101, 106] [18, 36, 37, 38, 39, 40, 51, 57, 67] J J' ∧ (∃ z : Int, r = some (.inl z) ∧ 0 ≤ z ∧ z ≤ 1 ∧ (I' 0 71 = 5 ∨ I' 0 73 ≤ I' 0 69) ∧ (I' 0 72 ≤ I' 0 69) ∧ (I' 0 71 = 0 ∨ (I' 0 72 < I' 0 73 ∧ I' 0 72 < I' 0 69)) ∧ (I' 0 71 = 3 → 2 ≤ I' 0 73 - I' 0 72 ∧ I' 0 73 - I' 0 72 ≤ 14) ∧ (I' 0 72 ≤ I' 0 73) ∧ (I' 0 69 = I 0 69) ∧ (I 0 73 ≤ I' 0 73) ∧ (I 0 72 ≤ I' 0 72) ∧ (I' 0 59 - I' 0 72 ≤ I 0 59 - I 0 72))))) (44, [(0, .inr (.inr (some 0)))], [], gr_sh ++ ext, gr_h I7 J8) := by
      intro m_16
      obtain ⟨e0_16, e1_16, e2_16, e3_16, e4_16, e5_16, e6_16, e7_16, e8_16, e9_16⟩ := m_16
      have f17 := (show 0 ≤ I7 0 71 ∧ I7 0 71 ≤ 5 from (hI7 0 71).1)
      have f18 := (show 0 ≤ I7 0 72 ∧ I7 0 72 ≤ 1000 from (hI7 0 72).1)
      have f19 := (show 0 ≤ I7 0 73 ∧ I7 0 73 ≤ 1001 from (hI7 0 73).1)
      have f20 := (show 0 ≤ I7 0 69 ∧ I7 0 69 ≤ 1000 from (hI7 0 69).1)
      have f21 := (show (-1) ≤ I7 0 6 ∧ I7 0 6 ≤ 7 from (hI7 0 6).1)
      have f22 := (show 0 ≤ I7 0 59 ∧ I7 0 59 ≤ 2000 from (hI7 0 59).1)
      refine gv_run 2 true hD (pc' := 46) (lv' := [(0, .inr (.inr (some 0)))]) (st' := [.inl 5, .inr (.inr (some 0))]) (h' := gr_h I7 J8) (C := ((True ∧ True) ∧ True)) rfl ⟨⟨trivial, trivial⟩, trivial⟩ ?_
      obtain ⟨r23, h23, E23, P23⟩ := r_no_ (ws0 := ws0) (tb := tb) hws htb ext I7 J8 hI7 5 ⟨by omega, by omega⟩ 
      obtain ⟨I24, J25, rfl, hI24, g23, k23, ⟨z23, rfl, q23⟩⟩ := P23
      have FI24 := gr_frt FI7 g23 rfl rfl
      have FJ25 := gr_fjt FJ8 k23 rfl rfl
      have t26 := g23 0 71 rfl
      have t27 := g23 0 72 rfl
      have t28 := g23 0 73 rfl
      have t29 := g23 0 69 rfl
      have t30 := g23 0 6 rfl
      have t31 := g23 0 59 rfl
      have f32 := (show 0 ≤ I24 0 71 ∧ I24 0 71 ≤ 5 from (hI24 0 71).1)
      have f33 := (show 0 ≤ I24 0 72 ∧ I24 0 72 ≤ 1000 from (hI24 0 72).1)
      have f34 := (show 0 ≤ I24 0 73 ∧ I24 0 73 ≤ 1001 from (hI24 0 73).1)
      have f35 := (show 0 ≤ I24 0 69 ∧ I24 0 69 ≤ 1000 from (hI24 0 69).1)
      have f36 := (show (-1) ≤ I24 0 6 ∧ I24 0 6 ≤ 7 from (hI24 0 6).1)
      have f37 := (show 0 ≤ I24 0 59 ∧ I24 0 59 ≤ 2000 from (hI24 0 59).1)
      refine gv_callV hD rfl (As := [.inl 5]) (st := []) rfl (by decide) rfl rfl (gr_lV hws rfl) (Nat.le_of_ble_eq_true rfl) (gz_Ev_mono (d := 2) (by decide) E23) ?_
      show gv_X _ _ (49, [(0, .inr (.inr (some 0)))], [.inl z23], gr_sh ++ ext, gr_h I24 J25)
      exact gv_zret hD rfl (by omega) ⟨I24, J25, rfl, hI24, FI24, FJ25, ⟨_, rfl, by omega⟩⟩
    have L63 : ∀ (I38 : gr_I) (J39 : gr_J) (v2_40 : Int), gr_Inv I38 → gr_fr [59, 71, 72, 73, 74, 75, 76, 77, 101, 106] [18, 36, 37, 38, 39, 40, 51, 57, 67] I I38 → gr_fj [59, 71, 72, 73, 74, 75, 76, 77, 101, 106] [18, 36, 37, 38, 39, 40, 51, 57, 67] J J39 → ((0 ≤ v1_9 ∧ v1_9 ≤ 7) ∧ (0 ≤ v2_40 ∧ v2_40 ≤ 95) ∧ (I38 0 71 = 1) ∧ (I38 0 71 = 5 ∨ I38 0 73 ≤ I38 0 69) ∧ (I38 0 72 ≤ I38 0 69) ∧ (I38 0 71 = 0 ∨ (I38 0 72 < I38 0 73 ∧ I38 0 72 < I38 0 69)) ∧ (I38 0 71 = 3 → 2 ≤ I38 0 73 - I38 0 72 ∧ I38 0 73 - I38 0 72 ≤ 14) ∧ (I38 0 72 ≤ I38 0 73) ∧ (I38 0 69 = I 0 69) ∧ (I 0 73 ≤ I38 0 73) ∧ (I 0 72 ≤ I38 0 72) ∧ (I38 0 6 = I 0 6) ∧ (I38 0 59 - I38 0 72 ≤ I 0 59 - I 0 72)) → gv_X (gr_E ws0 tb 11 (yX13_wordOf, cX13_wordOf, 7, (some .boolean)) kX13_wordOf) (gv_Q cX13_wordOf (some .boolean) (gr_sh ++ ext) (fun r h' => (∃ (I' : gr_I) (J' : gr_J), h' = gr_h I' J' ∧ gr_Inv I' ∧ gr_fr [59, 71, 72, 73, 74, 75, 76, 77, 101, 106] [18, 36, 37, 38, 39, 40, 51, 57, 67] I I' ∧ gr_fj [59, 71, 72, 73, 74, 75, 76, 77, 101, 106] [18, 36, 37, 38, 39, 40, 51, 57, 67] J J' ∧ (∃ z : Int, r = some (.inl z) ∧ 0 ≤ z ∧ z ≤ 1 ∧ (I' 0 71 = 5 ∨ I' 0 73 ≤ I' 0 69) ∧ (I' 0 72 ≤ I' 0 69) ∧ (I' 0 71 = 0 ∨ (I' 0 72 < I' 0 73 ∧ I' 0 72 < I' 0 69)) ∧ (I' 0 71 = 3 → 2 ≤ I' 0 73 - I' 0 72 ∧ I' 0 73 - I' 0 72 ≤ 14) ∧ (I' 0 72 ≤ I' 0 73) ∧ (I' 0 69 = I 0 69) ∧ (I 0 73 ≤ I' 0 73) ∧ (I 0 72 ≤ I' 0 72) ∧ (I' 0 59 - I' 0 72 ≤ I 0 59 - I 0 72))))) (63, [(0, .inr (.inr (some 0))), (1, .inl v1_9), (2, .inl v2_40)], [], gr_sh ++ ext, gr_h I38 J39) := by
      intro I38 J39 v2_40 hI38 FI38 FJ39 m_40
      obtain ⟨hv1_9_40, hv2_40, e0_40, e1_40, e2_40, e3_40, e4_40, e5_40, e6_40, e7_40, e8_40, e9_40, e10_40⟩ := m_40
      have f41 := (show 0 ≤ I38 0 71 ∧ I38 0 71 ≤ 5 from (hI38 0 71).1)
      have f42 := (show 0 ≤ I38 0 72 ∧ I38 0 72 ≤ 1000 from (hI38 0 72).1)
      have f43 := (show 0 ≤ I38 0 73 ∧ I38 0 73 ≤ 1001 from (hI38 0 73).1)
      have f44 := (show 0 ≤ I38 0 69 ∧ I38 0 69 ≤ 1000 from (hI38 0 69).1)
      have f45 := (show (-1) ≤ I38 0 6 ∧ I38 0 6 ≤ 7 from (hI38 0 6).1)
      have f46 := (show 0 ≤ I38 0 59 ∧ I38 0 59 ≤ 2000 from (hI38 0 59).1)
      have L119 : ∀ (n : Nat) (I47 : gr_I) (J48 : gr_J) (v3_49 : Int) (v4_49 : Int) (v5_49 : Int), (4 - v5_49).toNat < n → gr_Inv I47 → gr_fr [59, 71, 72, 73, 74, 75, 76, 77, 101, 106] [18, 36, 37, 38, 39, 40, 51, 57, 67] I I47 → gr_fj [59, 71, 72, 73, 74, 75, 76, 77, 101, 106] [18, 36, 37, 38, 39, 40, 51, 57, 67] J J48 → ((0 ≤ v1_9 ∧ v1_9 ≤ 7) ∧ (0 ≤ v2_40 ∧ v2_40 ≤ 95) ∧ (0 ≤ v3_49 ∧ v3_49 ≤ 23) ∧ (0 ≤ v4_49 ∧ v4_49 ≤ 0) ∧ (0 ≤ v5_49 ∧ v5_49 ≤ 3) ∧ (I47 0 71 = 5 ∨ I47 0 73 ≤ I47 0 69) ∧ (I47 0 72 ≤ I47 0 69) ∧ (I47 0 71 = 0 ∨ (I47 0 72 < I47 0 73 ∧ I47 0 72 < I47 0 69)) ∧ (I47 0 71 = 3 → 2 ≤ I47 0 73 - I47 0 72 ∧ I47 0 73 - I47 0 72 ≤ 14) ∧ (I47 0 72 ≤ I47 0 73) ∧ (I47 0 69 = I 0 69) ∧ (I 0 73 ≤ I47 0 73) ∧ (I 0 72 ≤ I47 0 72) ∧ (I47 0 6 = I 0 6) ∧ (I47 0 59 - I47 0 72 ≤ I 0 59 - I 0 72)) → gv_X (gr_E ws0 tb 11 (yX13_wordOf, cX13_wordOf, 7, (some .boolean)) kX13_wordOf) (gv_Q cX13_wordOf (some .boolean) (gr_sh ++ ext) (fun r h' => (∃ (I' : gr_I) (J' : gr_J), h' = gr_h I' J' ∧ gr_Inv I' ∧ gr_fr [59, 71, 72, 73, 74, 75, 76, 77, 101, 106] [18, 36, 37, 38, 39, 40, 51, 57, 67] I I' ∧ gr_fj [59, 71, 72, 73, 74, 75, 76, 77, 101, 106] [18, 36, 37, 38, 39, 40, 51, 57, 67] J J' ∧ (∃ z : Int, r = some (.inl z) ∧ 0 ≤ z ∧ z ≤ 1 ∧ (I' 0 71 = 5 ∨ I' 0 73 ≤ I' 0 69) ∧ (I' 0 72 ≤ I' 0 69) ∧ (I' 0 71 = 0 ∨ (I' 0 72 < I' 0 73 ∧ I' 0 72 < I' 0 69)) ∧ (I' 0 71 = 3 → 2 ≤ I' 0 73 - I' 0 72 ∧ I' 0 73 - I' 0 72 ≤ 14) ∧ (I' 0 72 ≤ I' 0 73) ∧ (I' 0 69 = I 0 69) ∧ (I 0 73 ≤ I' 0 73) ∧ (I 0 72 ≤ I' 0 72) ∧ (I' 0 59 - I' 0 72 ≤ I 0 59 - I 0 72))))) (119, [(0, .inr (.inr (some 0))), (1, .inl v1_9), (2, .inl v2_40), (3, .inl v3_49), (4, .inl v4_49), (5, .inl v5_49)], [], gr_sh ++ ext, gr_h I47 J48) := by
        intro n
        induction n with
        | zero => intro I47 J48 v3_49 v4_49 v5_49 hn; omega
        | succ n ih119 =>
          intro I47 J48 v3_49 v4_49 v5_49 hn hI47 FI47 FJ48 m_49
          obtain ⟨hv1_9_49, hv2_40_49, hv3_49, hv4_49, hv5_49, e0_49, e1_49, e2_49, e3_49, e4_49, e5_49, e6_49, e7_49, e8_49, e9_49⟩ := m_49
          have f50 := (show 0 ≤ I47 0 71 ∧ I47 0 71 ≤ 5 from (hI47 0 71).1)
          have f51 := (show 0 ≤ I47 0 72 ∧ I47 0 72 ≤ 1000 from (hI47 0 72).1)
          have f52 := (show 0 ≤ I47 0 73 ∧ I47 0 73 ≤ 1001 from (hI47 0 73).1)
          have f53 := (show 0 ≤ I47 0 69 ∧ I47 0 69 ≤ 1000 from (hI47 0 69).1)
          have f54 := (show (-1) ≤ I47 0 6 ∧ I47 0 6 ≤ 7 from (hI47 0 6).1)
          have f55 := (show 0 ≤ I47 0 59 ∧ I47 0 59 ≤ 2000 from (hI47 0 59).1)
          have L139 : ∀ (n : Nat) (I56 : gr_I) (J57 : gr_J) (v4_58 : Int), (1001 - I56 0 72).toNat < n → gr_Inv I56 → gr_fr [59, 71, 72, 73, 74, 75, 76, 77, 101, 106] [18, 36, 37, 38, 39, 40, 51, 57, 67] I I56 → gr_fj [59, 71, 72, 73, 74, 75, 76, 77, 101, 106] [18, 36, 37, 38, 39, 40, 51, 57, 67] J J57 → ((0 ≤ v1_9 ∧ v1_9 ≤ 7) ∧ (0 ≤ v2_40 ∧ v2_40 ≤ 95) ∧ (0 ≤ v3_49 ∧ v3_49 ≤ 23) ∧ (0 ≤ v4_58 ∧ v4_58 ≤ 3) ∧ (I56 0 71 = 5 ∨ I56 0 73 ≤ I56 0 69) ∧ (I56 0 72 ≤ I56 0 69) ∧ (I56 0 71 = 0 ∨ (I56 0 72 < I56 0 73 ∧ I56 0 72 < I56 0 69)) ∧ (I56 0 71 = 3 → 2 ≤ I56 0 73 - I56 0 72 ∧ I56 0 73 - I56 0 72 ≤ 14) ∧ (I56 0 72 ≤ I56 0 73) ∧ (I56 0 69 = I 0 69) ∧ (I 0 73 ≤ I56 0 73) ∧ (I 0 72 ≤ I56 0 72) ∧ (I56 0 6 = I 0 6) ∧ (I56 0 59 - I56 0 72 ≤ I 0 59 - I 0 72)) → gv_X (gr_E ws0 tb 11 (yX13_wordOf, cX13_wordOf, 7, (some .boolean)) kX13_wordOf) (gv_Q cX13_wordOf (some .boolean) (gr_sh ++ ext) (fun r h' => (∃ (I' : gr_I) (J' : gr_J), h' = gr_h I' J' ∧ gr_Inv I' ∧ gr_fr [59, 71, 72, 73, 74, 75, 76, 77, 101, 106] [18, 36, 37, 38, 39, 40, 51, 57, 67] I I' ∧ gr_fj [59, 71, 72, 73, 74, 75, 76, 77, 101, 106] [18, 36, 37, 38, 39, 40, 51, 57, 67] J J' ∧ (∃ z : Int, r = some (.inl z) ∧ 0 ≤ z ∧ z ≤ 1 ∧ (I' 0 71 = 5 ∨ I' 0 73 ≤ I' 0 69) ∧ (I' 0 72 ≤ I' 0 69) ∧ (I' 0 71 = 0 ∨ (I' 0 72 < I' 0 73 ∧ I' 0 72 < I' 0 69)) ∧ (I' 0 71 = 3 → 2 ≤ I' 0 73 - I' 0 72 ∧ I' 0 73 - I' 0 72 ≤ 14) ∧ (I' 0 72 ≤ I' 0 73) ∧ (I' 0 69 = I 0 69) ∧ (I 0 73 ≤ I' 0 73) ∧ (I 0 72 ≤ I' 0 72) ∧ (I' 0 59 - I' 0 72 ≤ I 0 59 - I 0 72))))) (139, [(0, .inr (.inr (some 0))), (1, .inl v1_9), (2, .inl v2_40), (3, .inl v3_49), (4, .inl v4_58)], [], gr_sh ++ ext, gr_h I56 J57) := by
            intro n
            induction n with
            | zero => intro I56 J57 v4_58 hn; omega
            | succ n ih139 =>
              intro I56 J57 v4_58 hn hI56 FI56 FJ57 m_58
              obtain ⟨hv1_9_58, hv2_40_58, hv3_49_58, hv4_58, e0_58, e1_58, e2_58, e3_58, e4_58, e5_58, e6_58, e7_58, e8_58, e9_58⟩ := m_58
              have f59 := (show 0 ≤ I56 0 71 ∧ I56 0 71 ≤ 5 from (hI56 0 71).1)
              have f60 := (show 0 ≤ I56 0 72 ∧ I56 0 72 ≤ 1000 from (hI56 0 72).1)
              have f61 := (show 0 ≤ I56 0 73 ∧ I56 0 73 ≤ 1001 from (hI56 0 73).1)
              have f62 := (show 0 ≤ I56 0 69 ∧ I56 0 69 ≤ 1000 from (hI56 0 69).1)
              have f63 := (show (-1) ≤ I56 0 6 ∧ I56 0 6 ≤ 7 from (hI56 0 6).1)
              have f64 := (show 0 ≤ I56 0 59 ∧ I56 0 59 ≤ 2000 from (hI56 0 59).1)
              have L174 : ((0 ≤ v1_9 ∧ v1_9 ≤ 7) ∧ (0 ≤ v2_40 ∧ v2_40 ≤ 95) ∧ (0 ≤ v3_49 ∧ v3_49 ≤ 23) ∧ (I56 0 71 = 5 ∨ I56 0 73 ≤ I56 0 69) ∧ (I56 0 72 ≤ I56 0 69) ∧ (I56 0 71 = 0 ∨ (I56 0 72 < I56 0 73 ∧ I56 0 72 < I56 0 69)) ∧ (I56 0 71 = 3 → 2 ≤ I56 0 73 - I56 0 72 ∧ I56 0 73 - I56 0 72 ≤ 14) ∧ (I56 0 72 ≤ I56 0 73) ∧ (I56 0 69 = I 0 69) ∧ (I 0 73 ≤ I56 0 73) ∧ (I 0 72 ≤ I56 0 72) ∧ (I56 0 6 = I 0 6) ∧ (I56 0 59 - I56 0 72 ≤ I 0 59 - I 0 72)) → gv_X (gr_E ws0 tb 11 (yX13_wordOf, cX13_wordOf, 7, (some .boolean)) kX13_wordOf) (gv_Q cX13_wordOf (some .boolean) (gr_sh ++ ext) (fun r h' => (∃ (I' : gr_I) (J' : gr_J), h' = gr_h I' J' ∧ gr_Inv I' ∧ gr_fr [59, 71, 72, 73, 74, 75, 76, 77, 101, 106] [18, 36, 37, 38, 39, 40, 51, 57, 67] I I' ∧ gr_fj [59, 71, 72, 73, 74, 75, 76, 77, 101, 106] [18, 36, 37, 38, 39, 40, 51, 57, 67] J J' ∧ (∃ z : Int, r = some (.inl z) ∧ 0 ≤ z ∧ z ≤ 1 ∧ (I' 0 71 = 5 ∨ I' 0 73 ≤ I' 0 69) ∧ (I' 0 72 ≤ I' 0 69) ∧ (I' 0 71 = 0 ∨ (I' 0 72 < I' 0 73 ∧ I' 0 72 < I' 0 69)) ∧ (I' 0 71 = 3 → 2 ≤ I' 0 73 - I' 0 72 ∧ I' 0 73 - I' 0 72 ≤ 14) ∧ (I' 0 72 ≤ I' 0 73) ∧ (I' 0 69 = I 0 69) ∧ (I 0 73 ≤ I' 0 73) ∧ (I 0 72 ≤ I' 0 72) ∧ (I' 0 59 - I' 0 72 ≤ I 0 59 - I 0 72))))) (174, [(0, .inr (.inr (some 0))), (1, .inl v1_9), (2, .inl v2_40), (3, .inl v3_49)], [], gr_sh ++ ext, gr_h I56 J57) := by
                intro m_65
                obtain ⟨hv1_9_65, hv2_40_65, hv3_49_65, e0_65, e1_65, e2_65, e3_65, e4_65, e5_65, e6_65, e7_65, e8_65, e9_65⟩ := m_65
                have f66 := (show 0 ≤ I56 0 71 ∧ I56 0 71 ≤ 5 from (hI56 0 71).1)
                have f67 := (show 0 ≤ I56 0 72 ∧ I56 0 72 ≤ 1000 from (hI56 0 72).1)
                have f68 := (show 0 ≤ I56 0 73 ∧ I56 0 73 ≤ 1001 from (hI56 0 73).1)
                have f69 := (show 0 ≤ I56 0 69 ∧ I56 0 69 ≤ 1000 from (hI56 0 69).1)
                have f70 := (show (-1) ≤ I56 0 6 ∧ I56 0 6 ≤ 7 from (hI56 0 6).1)
                have f71 := (show 0 ≤ I56 0 59 ∧ I56 0 59 ≤ 2000 from (hI56 0 59).1)
                have L246 : ∀ (I72 : gr_I) (J73 : gr_J) , gr_Inv I72 → gr_fr [59, 71, 72, 73, 74, 75, 76, 77, 101, 106] [18, 36, 37, 38, 39, 40, 51, 57, 67] I I72 → gr_fj [59, 71, 72, 73, 74, 75, 76, 77, 101, 106] [18, 36, 37, 38, 39, 40, 51, 57, 67] J J73 → ((0 ≤ v1_9 ∧ v1_9 ≤ 7) ∧ (0 ≤ v2_40 ∧ v2_40 ≤ 95) ∧ (0 ≤ v3_49 ∧ v3_49 ≤ 23) ∧ (I72 0 71 = 5 ∨ I72 0 73 ≤ I72 0 69) ∧ (I72 0 72 ≤ I72 0 69) ∧ (I72 0 71 = 0 ∨ (I72 0 72 < I72 0 73 ∧ I72 0 72 < I72 0 69)) ∧ (I72 0 71 = 3 → 2 ≤ I72 0 73 - I72 0 72 ∧ I72 0 73 - I72 0 72 ≤ 14) ∧ (I72 0 72 ≤ I72 0 73) ∧ (I72 0 69 = I 0 69) ∧ (I 0 73 ≤ I72 0 73) ∧ (I 0 72 ≤ I72 0 72) ∧ (I72 0 6 = I 0 6) ∧ (I72 0 59 - I72 0 72 ≤ I 0 59 - I 0 72)) → gv_X (gr_E ws0 tb 11 (yX13_wordOf, cX13_wordOf, 7, (some .boolean)) kX13_wordOf) (gv_Q cX13_wordOf (some .boolean) (gr_sh ++ ext) (fun r h' => (∃ (I' : gr_I) (J' : gr_J), h' = gr_h I' J' ∧ gr_Inv I' ∧ gr_fr [59, 71, 72, 73, 74, 75, 76, 77, 101, 106] [18, 36, 37, 38, 39, 40, 51, 57, 67] I I' ∧ gr_fj [59, 71, 72, 73, 74, 75, 76, 77, 101, 106] [18, 36, 37, 38, 39, 40, 51, 57, 67] J J' ∧ (∃ z : Int, r = some (.inl z) ∧ 0 ≤ z ∧ z ≤ 1 ∧ (I' 0 71 = 5 ∨ I' 0 73 ≤ I' 0 69) ∧ (I' 0 72 ≤ I' 0 69) ∧ (I' 0 71 = 0 ∨ (I' 0 72 < I' 0 73 ∧ I' 0 72 < I' 0 69)) ∧ (I' 0 71 = 3 → 2 ≤ I' 0 73 - I' 0 72 ∧ I' 0 73 - I' 0 72 ≤ 14) ∧ (I' 0 72 ≤ I' 0 73) ∧ (I' 0 69 = I 0 69) ∧ (I 0 73 ≤ I' 0 73) ∧ (I 0 72 ≤ I' 0 72) ∧ (I' 0 59 - I' 0 72 ≤ I 0 59 - I 0 72))))) (246, [(0, .inr (.inr (some 0))), (1, .inl v1_9), (2, .inl v2_40), (3, .inl v3_49)], [], gr_sh ++ ext, gr_h I72 J73) := by
                  intro I72 J73 hI72 FI72 FJ73 m_74
                  obtain ⟨hv1_9_74, hv2_40_74, hv3_49_74, e0_74, e1_74, e2_74, e3_74, e4_74, e5_74, e6_74, e7_74, e8_74, e9_74⟩ := m_74
                  have f75 := (show 0 ≤ I72 0 71 ∧ I72 0 71 ≤ 5 from (hI72 0 71).1)
                  have f76 := (show 0 ≤ I72 0 72 ∧ I72 0 72 ≤ 1000 from (hI72 0 72).1)
                  have f77 := (show 0 ≤ I72 0 73 ∧ I72 0 73 ≤ 1001 from (hI72 0 73).1)
                  have f78 := (show 0 ≤ I72 0 69 ∧ I72 0 69 ≤ 1000 from (hI72 0 69).1)
                  have f79 := (show (-1) ≤ I72 0 6 ∧ I72 0 6 ≤ 7 from (hI72 0 6).1)
                  have f80 := (show 0 ≤ I72 0 59 ∧ I72 0 59 ≤ 2000 from (hI72 0 59).1)
                  have L276 : ∀ (I81 : gr_I) (J82 : gr_J) , gr_Inv I81 → gr_fr [59, 71, 72, 73, 74, 75, 76, 77, 101, 106] [18, 36, 37, 38, 39, 40, 51, 57, 67] I I81 → gr_fj [59, 71, 72, 73, 74, 75, 76, 77, 101, 106] [18, 36, 37, 38, 39, 40, 51, 57, 67] J J82 → ((I81 0 71 = 5 ∨ I81 0 73 ≤ I81 0 69) ∧ (I81 0 72 ≤ I81 0 69) ∧ (I81 0 71 = 0 ∨ (I81 0 72 < I81 0 73 ∧ I81 0 72 < I81 0 69)) ∧ (I81 0 71 = 3 → 2 ≤ I81 0 73 - I81 0 72 ∧ I81 0 73 - I81 0 72 ≤ 14) ∧ (I81 0 72 ≤ I81 0 73) ∧ (I81 0 69 = I 0 69) ∧ (I 0 73 ≤ I81 0 73) ∧ (I 0 72 ≤ I81 0 72) ∧ (I81 0 6 = I 0 6) ∧ (I81 0 59 - I81 0 72 ≤ I 0 59 - I 0 72)) → gv_X (gr_E ws0 tb 11 (yX13_wordOf, cX13_wordOf, 7, (some .boolean)) kX13_wordOf) (gv_Q cX13_wordOf (some .boolean) (gr_sh ++ ext) (fun r h' => (∃ (I' : gr_I) (J' : gr_J), h' = gr_h I' J' ∧ gr_Inv I' ∧ gr_fr [59, 71, 72, 73, 74, 75, 76, 77, 101, 106] [18, 36, 37, 38, 39, 40, 51, 57, 67] I I' ∧ gr_fj [59, 71, 72, 73, 74, 75, 76, 77, 101, 106] [18, 36, 37, 38, 39, 40, 51, 57, 67] J J' ∧ (∃ z : Int, r = some (.inl z) ∧ 0 ≤ z ∧ z ≤ 1 ∧ (I' 0 71 = 5 ∨ I' 0 73 ≤ I' 0 69) ∧ (I' 0 72 ≤ I' 0 69) ∧ (I' 0 71 = 0 ∨ (I' 0 72 < I' 0 73 ∧ I' 0 72 < I' 0 69)) ∧ (I' 0 71 = 3 → 2 ≤ I' 0 73 - I' 0 72 ∧ I' 0 73 - I' 0 72 ≤ 14) ∧ (I' 0 72 ≤ I' 0 73) ∧ (I' 0 69 = I 0 69) ∧ (I 0 73 ≤ I' 0 73) ∧ (I 0 72 ≤ I' 0 72) ∧ (I' 0 59 - I' 0 72 ≤ I 0 59 - I 0 72))))) (276, [], [], gr_sh ++ ext, gr_h I81 J82) := by
                    intro I81 J82 hI81 FI81 FJ82 m_83
                    obtain ⟨e0_83, e1_83, e2_83, e3_83, e4_83, e5_83, e6_83, e7_83, e8_83, e9_83⟩ := m_83
                    have f84 := (show 0 ≤ I81 0 71 ∧ I81 0 71 ≤ 5 from (hI81 0 71).1)
                    have f85 := (show 0 ≤ I81 0 72 ∧ I81 0 72 ≤ 1000 from (hI81 0 72).1)
                    have f86 := (show 0 ≤ I81 0 73 ∧ I81 0 73 ≤ 1001 from (hI81 0 73).1)
                    have f87 := (show 0 ≤ I81 0 69 ∧ I81 0 69 ≤ 1000 from (hI81 0 69).1)
                    have f88 := (show (-1) ≤ I81 0 6 ∧ I81 0 6 ≤ 7 from (hI81 0 6).1)
                    have f89 := (show 0 ≤ I81 0 59 ∧ I81 0 59 ≤ 2000 from (hI81 0 59).1)
                    refine gv_run 1 true hD (pc' := 277) (lv' := []) (st' := [.inl 0]) (h' := gr_h I81 J82) (C := (True ∧ True)) rfl ⟨trivial, trivial⟩ ?_
                    exact gv_zret hD rfl (by omega) ⟨I81, J82, rfl, hI81, FI81, FJ82, ⟨_, rfl, by omega⟩⟩
                  have L253 : ∀ (I90 : gr_I) (J91 : gr_J) , gr_Inv I90 → gr_fr [59, 71, 72, 73, 74, 75, 76, 77, 101, 106] [18, 36, 37, 38, 39, 40, 51, 57, 67] I I90 → gr_fj [59, 71, 72, 73, 74, 75, 76, 77, 101, 106] [18, 36, 37, 38, 39, 40, 51, 57, 67] J J91 → ((0 ≤ v1_9 ∧ v1_9 ≤ 7) ∧ (0 ≤ v2_40 ∧ v2_40 ≤ 95) ∧ (0 ≤ v3_49 ∧ v3_49 ≤ 23) ∧ (I90 0 71 = 5 ∨ I90 0 73 ≤ I90 0 69) ∧ (I90 0 72 ≤ I90 0 69) ∧ (I90 0 71 = 0 ∨ (I90 0 72 < I90 0 73 ∧ I90 0 72 < I90 0 69)) ∧ (I90 0 71 = 3 → 2 ≤ I90 0 73 - I90 0 72 ∧ I90 0 73 - I90 0 72 ≤ 14) ∧ (I90 0 72 ≤ I90 0 73) ∧ (I90 0 69 = I 0 69) ∧ (I 0 73 ≤ I90 0 73) ∧ (I 0 72 ≤ I90 0 72) ∧ (I90 0 6 = I 0 6) ∧ (I90 0 59 - I90 0 72 ≤ I 0 59 - I 0 72)) → gv_X (gr_E ws0 tb 11 (yX13_wordOf, cX13_wordOf, 7, (some .boolean)) kX13_wordOf) (gv_Q cX13_wordOf (some .boolean) (gr_sh ++ ext) (fun r h' => (∃ (I' : gr_I) (J' : gr_J), h' = gr_h I' J' ∧ gr_Inv I' ∧ gr_fr [59, 71, 72, 73, 74, 75, 76, 77, 101, 106] [18, 36, 37, 38, 39, 40, 51, 57, 67] I I' ∧ gr_fj [59, 71, 72, 73, 74, 75, 76, 77, 101, 106] [18, 36, 37, 38, 39, 40, 51, 57, 67] J J' ∧ (∃ z : Int, r = some (.inl z) ∧ 0 ≤ z ∧ z ≤ 1 ∧ (I' 0 71 = 5 ∨ I' 0 73 ≤ I' 0 69) ∧ (I' 0 72 ≤ I' 0 69) ∧ (I' 0 71 = 0 ∨ (I' 0 72 < I' 0 73 ∧ I' 0 72 < I' 0 69)) ∧ (I' 0 71 = 3 → 2 ≤ I' 0 73 - I' 0 72 ∧ I' 0 73 - I' 0 72 ≤ 14) ∧ (I' 0 72 ≤ I' 0 73) ∧ (I' 0 69 = I 0 69) ∧ (I 0 73 ≤ I' 0 73) ∧ (I 0 72 ≤ I' 0 72) ∧ (I' 0 59 - I' 0 72 ≤ I 0 59 - I 0 72))))) (253, [(0, .inr (.inr (some 0))), (1, .inl v1_9), (2, .inl v2_40), (3, .inl v3_49)], [], gr_sh ++ ext, gr_h I90 J91) := by
                    intro I90 J91 hI90 FI90 FJ91 m_92
                    obtain ⟨hv1_9_92, hv2_40_92, hv3_49_92, e0_92, e1_92, e2_92, e3_92, e4_92, e5_92, e6_92, e7_92, e8_92, e9_92⟩ := m_92
                    have f93 := (show 0 ≤ I90 0 71 ∧ I90 0 71 ≤ 5 from (hI90 0 71).1)
                    have f94 := (show 0 ≤ I90 0 72 ∧ I90 0 72 ≤ 1000 from (hI90 0 72).1)
                    have f95 := (show 0 ≤ I90 0 73 ∧ I90 0 73 ≤ 1001 from (hI90 0 73).1)
                    have f96 := (show 0 ≤ I90 0 69 ∧ I90 0 69 ≤ 1000 from (hI90 0 69).1)
                    have f97 := (show (-1) ≤ I90 0 6 ∧ I90 0 6 ≤ 7 from (hI90 0 6).1)
                    have f98 := (show 0 ≤ I90 0 59 ∧ I90 0 59 ≤ 2000 from (hI90 0 59).1)
                    have L270 : ∀ (s1_99 : Int), ((0 ≤ v1_9 ∧ v1_9 ≤ 7) ∧ (0 ≤ v2_40 ∧ v2_40 ≤ 95) ∧ (0 ≤ v3_49 ∧ v3_49 ≤ 23) ∧ (0 ≤ s1_99 ∧ s1_99 ≤ 1) ∧ (s1_99 = 0 ∨ I90 18 (Int.toNat v1_9) ≤ 63) ∧ (I90 0 71 = 5 ∨ I90 0 73 ≤ I90 0 69) ∧ (I90 0 72 ≤ I90 0 69) ∧ (I90 0 71 = 0 ∨ (I90 0 72 < I90 0 73 ∧ I90 0 72 < I90 0 69)) ∧ (I90 0 71 = 3 → 2 ≤ I90 0 73 - I90 0 72 ∧ I90 0 73 - I90 0 72 ≤ 14) ∧ (I90 0 72 ≤ I90 0 73) ∧ (I90 0 69 = I 0 69) ∧ (I 0 73 ≤ I90 0 73) ∧ (I 0 72 ≤ I90 0 72) ∧ (I90 0 6 = I 0 6) ∧ (I90 0 59 - I90 0 72 ≤ I 0 59 - I 0 72)) → gv_X (gr_E ws0 tb 11 (yX13_wordOf, cX13_wordOf, 7, (some .boolean)) kX13_wordOf) (gv_Q cX13_wordOf (some .boolean) (gr_sh ++ ext) (fun r h' => (∃ (I' : gr_I) (J' : gr_J), h' = gr_h I' J' ∧ gr_Inv I' ∧ gr_fr [59, 71, 72, 73, 74, 75, 76, 77, 101, 106] [18, 36, 37, 38, 39, 40, 51, 57, 67] I I' ∧ gr_fj [59, 71, 72, 73, 74, 75, 76, 77, 101, 106] [18, 36, 37, 38, 39, 40, 51, 57, 67] J J' ∧ (∃ z : Int, r = some (.inl z) ∧ 0 ≤ z ∧ z ≤ 1 ∧ (I' 0 71 = 5 ∨ I' 0 73 ≤ I' 0 69) ∧ (I' 0 72 ≤ I' 0 69) ∧ (I' 0 71 = 0 ∨ (I' 0 72 < I' 0 73 ∧ I' 0 72 < I' 0 69)) ∧ (I' 0 71 = 3 → 2 ≤ I' 0 73 - I' 0 72 ∧ I' 0 73 - I' 0 72 ≤ 14) ∧ (I' 0 72 ≤ I' 0 73) ∧ (I' 0 69 = I 0 69) ∧ (I 0 73 ≤ I' 0 73) ∧ (I 0 72 ≤ I' 0 72) ∧ (I' 0 59 - I' 0 72 ≤ I 0 59 - I 0 72))))) (270, [(0, .inr (.inr (some 0))), (1, .inl v1_9), (2, .inl v2_40), (3, .inl v3_49)], [.inl s1_99, .inr (.inr (some 0))], gr_sh ++ ext, gr_h I90 J91) := by
                      intro s1_99 m_99
                      obtain ⟨hv1_9_99, hv2_40_99, hv3_49_99, hs1_99, e0_99, e1_99, e2_99, e3_99, e4_99, e5_99, e6_99, e7_99, e8_99, e9_99, e10_99⟩ := m_99
                      have f100 := (show 0 ≤ I90 0 71 ∧ I90 0 71 ≤ 5 from (hI90 0 71).1)
                      have f101 := (show 0 ≤ I90 0 72 ∧ I90 0 72 ≤ 1000 from (hI90 0 72).1)
                      have f102 := (show 0 ≤ I90 0 73 ∧ I90 0 73 ≤ 1001 from (hI90 0 73).1)
                      have f103 := (show 0 ≤ I90 0 69 ∧ I90 0 69 ≤ 1000 from (hI90 0 69).1)
                      have f104 := (show (-1) ≤ I90 0 6 ∧ I90 0 6 ≤ 7 from (hI90 0 6).1)
                      have f105 := (show 0 ≤ I90 0 59 ∧ I90 0 59 ≤ 2000 from (hI90 0 59).1)
                      have L315 : ∀ (n : Nat) (I106 : gr_I) (J107 : gr_J) (v5_108 : Int) (v6_108 : Int), (4 - v6_108).toNat < n → gr_Inv I106 → gr_fr [59, 71, 72, 73, 74, 75, 76, 77, 101, 106] [18, 36, 37, 38, 39, 40, 51, 57, 67] I I106 → gr_fj [59, 71, 72, 73, 74, 75, 76, 77, 101, 106] [18, 36, 37, 38, 39, 40, 51, 57, 67] J J107 → ((0 ≤ v5_108 ∧ v5_108 ≤ 511) ∧ (0 ≤ v6_108 ∧ v6_108 ≤ 3) ∧ (I106 0 71 = 5 ∨ I106 0 73 ≤ I106 0 69) ∧ (I106 0 72 ≤ I106 0 69) ∧ (I106 0 71 = 0 ∨ (I106 0 72 < I106 0 73 ∧ I106 0 72 < I106 0 69)) ∧ (I106 0 71 = 3 → 2 ≤ I106 0 73 - I106 0 72 ∧ I106 0 73 - I106 0 72 ≤ 14) ∧ (I106 0 72 ≤ I106 0 73) ∧ (I106 0 69 = I 0 69) ∧ (I 0 73 ≤ I106 0 73) ∧ (I 0 72 ≤ I106 0 72) ∧ (I106 0 6 = I 0 6) ∧ (I106 0 59 - I106 0 72 ≤ I 0 59 - I 0 72)) → gv_X (gr_E ws0 tb 11 (yX13_wordOf, cX13_wordOf, 7, (some .boolean)) kX13_wordOf) (gv_Q cX13_wordOf (some .boolean) (gr_sh ++ ext) (fun r h' => (∃ (I' : gr_I) (J' : gr_J), h' = gr_h I' J' ∧ gr_Inv I' ∧ gr_fr [59, 71, 72, 73, 74, 75, 76, 77, 101, 106] [18, 36, 37, 38, 39, 40, 51, 57, 67] I I' ∧ gr_fj [59, 71, 72, 73, 74, 75, 76, 77, 101, 106] [18, 36, 37, 38, 39, 40, 51, 57, 67] J J' ∧ (∃ z : Int, r = some (.inl z) ∧ 0 ≤ z ∧ z ≤ 1 ∧ (I' 0 71 = 5 ∨ I' 0 73 ≤ I' 0 69) ∧ (I' 0 72 ≤ I' 0 69) ∧ (I' 0 71 = 0 ∨ (I' 0 72 < I' 0 73 ∧ I' 0 72 < I' 0 69)) ∧ (I' 0 71 = 3 → 2 ≤ I' 0 73 - I' 0 72 ∧ I' 0 73 - I' 0 72 ≤ 14) ∧ (I' 0 72 ≤ I' 0 73) ∧ (I' 0 69 = I 0 69) ∧ (I 0 73 ≤ I' 0 73) ∧ (I 0 72 ≤ I' 0 72) ∧ (I' 0 59 - I' 0 72 ≤ I 0 59 - I 0 72))))) (315, [(0, .inr (.inr (some 0))), (5, .inl v5_108), (6, .inl v6_108)], [], gr_sh ++ ext, gr_h I106 J107) := by
                        intro n
                        induction n with
                        | zero => intro I106 J107 v5_108 v6_108 hn; omega
                        | succ n ih315 =>
                          intro I106 J107 v5_108 v6_108 hn hI106 FI106 FJ107 m_108
                          obtain ⟨hv5_108, hv6_108, e0_108, e1_108, e2_108, e3_108, e4_108, e5_108, e6_108, e7_108, e8_108, e9_108⟩ := m_108
                          have f109 := (show 0 ≤ I106 0 71 ∧ I106 0 71 ≤ 5 from (hI106 0 71).1)
                          have f110 := (show 0 ≤ I106 0 72 ∧ I106 0 72 ≤ 1000 from (hI106 0 72).1)
                          have f111 := (show 0 ≤ I106 0 73 ∧ I106 0 73 ≤ 1001 from (hI106 0 73).1)
                          have f112 := (show 0 ≤ I106 0 69 ∧ I106 0 69 ≤ 1000 from (hI106 0 69).1)
                          have f113 := (show (-1) ≤ I106 0 6 ∧ I106 0 6 ≤ 7 from (hI106 0 6).1)
                          have f114 := (show 0 ≤ I106 0 59 ∧ I106 0 59 ≤ 2000 from (hI106 0 59).1)
                          refine gv_run 2 true hD (pc' := 318) (lv' := [(0, .inr (.inr (some 0))), (5, .inl v5_108), (6, .inl v6_108)]) (st' := [.inl 3, .inl v6_108]) (h' := gr_h I106 J107) (C := ((True ∧ True) ∧ True)) rfl ⟨⟨trivial, trivial⟩, trivial⟩ ?_
                          refine gv_icmp_ge (t := 346) hD rfl rfl ⟨⟨by omega, by omega⟩, ⟨by omega, by omega⟩⟩ (fun c115 => ?_) (fun c115 => ?_)
                          · have f116 := (show 0 ≤ I106 0 106 ∧ I106 0 106 ≤ 16777215 from (hI106 0 106).1)
                            refine gv_run 5 true hD (pc' := 356) (lv' := [(0, .inr (.inr (some 0))), (5, .inl v5_108), (6, .inl v6_108)]) (st' := [.inl (I106 0 106), .inl v5_108, .inr (.inr (some 39))]) (h' := gr_h I106 J107) (C := (((((True ∧ True) ∧ True) ∧ True) ∧ True) ∧ True)) rfl ⟨⟨⟨⟨⟨trivial, trivial⟩, trivial⟩, trivial⟩, trivial⟩, trivial⟩ ?_
                            refine gv_run 1 true hD (pc' := 357) (lv' := [(0, .inr (.inr (some 0))), (5, .inl v5_108), (6, .inl v6_108)]) (st' := []) (h' := gz_up (gr_h I106 J107) 39 (Int.toNat v5_108) (.inl (I106 0 106))) (C := (True ∧ (0 ≤ v5_108 ∧ v5_108 < ((512 : Nat) : Int)))) rfl ⟨trivial, ⟨by omega, by omega⟩⟩ ?_
                            refine gr_st hI106 FI106 rfl rfl ⟨⟨by show 0 ≤ _; omega, by show _ ≤ 16777215; omega⟩, trivial⟩ (fun I117 hI117 FI117 q118 p118 => ?_)
                            have t119 := p118 0 71 (fun q => absurd q.1 (by decide))
                            have t120 := p118 0 72 (fun q => absurd q.1 (by decide))
                            have t121 := p118 0 73 (fun q => absurd q.1 (by decide))
                            have t122 := p118 0 69 (fun q => absurd q.1 (by decide))
                            have t123 := p118 0 6 (fun q => absurd q.1 (by decide))
                            have t124 := p118 0 59 (fun q => absurd q.1 (by decide))
                            have f125 := (show 0 ≤ I117 0 71 ∧ I117 0 71 ≤ 5 from (hI117 0 71).1)
                            have f126 := (show 0 ≤ I117 0 72 ∧ I117 0 72 ≤ 1000 from (hI117 0 72).1)
                            have f127 := (show 0 ≤ I117 0 73 ∧ I117 0 73 ≤ 1001 from (hI117 0 73).1)
                            have f128 := (show 0 ≤ I117 0 69 ∧ I117 0 69 ≤ 1000 from (hI117 0 69).1)
                            have f129 := (show (-1) ≤ I117 0 6 ∧ I117 0 6 ≤ 7 from (hI117 0 6).1)
                            have f130 := (show 0 ≤ I117 0 59 ∧ I117 0 59 ≤ 2000 from (hI117 0 59).1)
                            have f131 := (show 0 ≤ I117 0 101 ∧ I117 0 101 ≤ 10000 from (hI117 0 101).1)
                            refine gv_run 5 true hD (pc' := 367) (lv' := [(0, .inr (.inr (some 0))), (5, .inl v5_108), (6, .inl v6_108)]) (st' := [.inl (I117 0 101), .inl v5_108, .inr (.inr (some 40))]) (h' := gr_h I117 J107) (C := (((((True ∧ True) ∧ True) ∧ True) ∧ True) ∧ True)) rfl ⟨⟨⟨⟨⟨trivial, trivial⟩, trivial⟩, trivial⟩, trivial⟩, trivial⟩ ?_
                            refine gv_run 1 true hD (pc' := 368) (lv' := [(0, .inr (.inr (some 0))), (5, .inl v5_108), (6, .inl v6_108)]) (st' := []) (h' := gz_up (gr_h I117 J107) 40 (Int.toNat v5_108) (.inl (I117 0 101))) (C := (True ∧ (0 ≤ v5_108 ∧ v5_108 < ((512 : Nat) : Int)))) rfl ⟨trivial, ⟨by omega, by omega⟩⟩ ?_
                            refine gr_st hI117 FI117 rfl rfl ⟨⟨by show 0 ≤ _; omega, by show _ ≤ 10000; omega⟩, trivial⟩ (fun I132 hI132 FI132 q133 p133 => ?_)
                            have t134 := p133 0 71 (fun q => absurd q.1 (by decide))
                            have t135 := p133 0 72 (fun q => absurd q.1 (by decide))
                            have t136 := p133 0 73 (fun q => absurd q.1 (by decide))
                            have t137 := p133 0 69 (fun q => absurd q.1 (by decide))
                            have t138 := p133 0 6 (fun q => absurd q.1 (by decide))
                            have t139 := p133 0 59 (fun q => absurd q.1 (by decide))
                            have f140 := (show 0 ≤ I132 0 71 ∧ I132 0 71 ≤ 5 from (hI132 0 71).1)
                            have f141 := (show 0 ≤ I132 0 72 ∧ I132 0 72 ≤ 1000 from (hI132 0 72).1)
                            have f142 := (show 0 ≤ I132 0 73 ∧ I132 0 73 ≤ 1001 from (hI132 0 73).1)
                            have f143 := (show 0 ≤ I132 0 69 ∧ I132 0 69 ≤ 1000 from (hI132 0 69).1)
                            have f144 := (show (-1) ≤ I132 0 6 ∧ I132 0 6 ≤ 7 from (hI132 0 6).1)
                            have f145 := (show 0 ≤ I132 0 59 ∧ I132 0 59 ≤ 2000 from (hI132 0 59).1)
                            refine gv_run 1 true hD (pc' := 369) (lv' := [(0, .inr (.inr (some 0))), (5, .inl v5_108), (6, .inl v6_108)]) (st' := [.inl 1]) (h' := gr_h I132 J107) (C := (True ∧ True)) rfl ⟨trivial, trivial⟩ ?_
                            exact gv_zret hD rfl (by omega) ⟨I132, J107, rfl, hI132, FI132, FJ107, ⟨_, rfl, by omega⟩⟩
                          · refine gv_run 7 true hD (pc' := 332) (lv' := [(0, .inr (.inr (some 0))), (5, .inl v5_108), (6, .inl v6_108)]) (st' := [.inl ((3 * v5_108) + v6_108), .inr (.inr (some 38))]) (h' := gr_h I106 J107) (C := (((((((True ∧ True) ∧ True) ∧ True) ∧ True) ∧ True) ∧ True) ∧ True)) rfl ⟨⟨⟨⟨⟨⟨⟨trivial, trivial⟩, trivial⟩, trivial⟩, trivial⟩, trivial⟩, trivial⟩, trivial⟩ ?_
                            have f146 := (show (-1) ≤ I106 67 (Int.toNat v6_108) ∧ I106 67 (Int.toNat v6_108) ≤ 32015 from (hI106 67 (Int.toNat v6_108)).1)
                            refine gv_run 4 true hD (pc' := 339) (lv' := [(0, .inr (.inr (some 0))), (5, .inl v5_108), (6, .inl v6_108)]) (st' := [.inl (I106 67 (Int.toNat v6_108)), .inl ((3 * v5_108) + v6_108), .inr (.inr (some 38))]) (h' := gr_h I106 J107) (C := ((((True ∧ True) ∧ True) ∧ True) ∧ (0 ≤ v6_108 ∧ v6_108 < ((3 : Nat) : Int)))) rfl ⟨⟨⟨⟨trivial, trivial⟩, trivial⟩, trivial⟩, ⟨by omega, by omega⟩⟩ ?_
                            refine gv_run 1 true hD (pc' := 340) (lv' := [(0, .inr (.inr (some 0))), (5, .inl v5_108), (6, .inl v6_108)]) (st' := []) (h' := gz_up (gr_h I106 J107) 38 (Int.toNat (((3 * v5_108) + v6_108))) (.inl ((I106 67 (Int.toNat v6_108))))) (C := (True ∧ (0 ≤ (((3 * v5_108) + v6_108)) ∧ (((3 * v5_108) + v6_108)) < ((1536 : Nat) : Int)))) rfl ⟨trivial, ⟨by omega, by omega⟩⟩ ?_
                            refine gr_st hI106 FI106 rfl rfl ⟨⟨by show (-1) ≤ _; omega, by show _ ≤ 32015; omega⟩, trivial⟩ (fun I147 hI147 FI147 q148 p148 => ?_)
                            have t149 := p148 0 71 (fun q => absurd q.1 (by decide))
                            have t150 := p148 0 72 (fun q => absurd q.1 (by decide))
                            have t151 := p148 0 73 (fun q => absurd q.1 (by decide))
                            have t152 := p148 0 69 (fun q => absurd q.1 (by decide))
                            have t153 := p148 0 6 (fun q => absurd q.1 (by decide))
                            have t154 := p148 0 59 (fun q => absurd q.1 (by decide))
                            have f155 := (show 0 ≤ I147 0 71 ∧ I147 0 71 ≤ 5 from (hI147 0 71).1)
                            have f156 := (show 0 ≤ I147 0 72 ∧ I147 0 72 ≤ 1000 from (hI147 0 72).1)
                            have f157 := (show 0 ≤ I147 0 73 ∧ I147 0 73 ≤ 1001 from (hI147 0 73).1)
                            have f158 := (show 0 ≤ I147 0 69 ∧ I147 0 69 ≤ 1000 from (hI147 0 69).1)
                            have f159 := (show (-1) ≤ I147 0 6 ∧ I147 0 6 ≤ 7 from (hI147 0 6).1)
                            have f160 := (show 0 ≤ I147 0 59 ∧ I147 0 59 ≤ 2000 from (hI147 0 59).1)
                            refine gv_run 2 true hD (pc' := 315) (lv' := [(6, .inl (v6_108 + 1)), (0, .inr (.inr (some 0))), (5, .inl v5_108)]) (st' := []) (h' := gr_h I147 J107) (C := ((True ∧ True) ∧ True)) rfl ⟨⟨trivial, trivial⟩, trivial⟩ ?_
                            refine gv_pick [1, 2, 0] rfl ?_
                            exact ih315 I147 J107 v5_108 (v6_108 + 1) (by omega) hI147 FI147 FJ107 (by omega)
                      obtain ⟨r161, h161, E161, P161⟩ := r_done (ws0 := ws0) (tb := tb) hws htb ext I90 J91 hI90 s1_99 ⟨by omega, by omega⟩ (by omega) (by omega) (by omega) (by omega) (by omega)
                      obtain ⟨I162, J163, rfl, hI162, g161, k161, ⟨z161, rfl, q161⟩⟩ := P161
                      have FI162 := gr_frt FI90 g161 rfl rfl
                      have FJ163 := gr_fjt FJ91 k161 rfl rfl
                      have t164 := g161 0 69 rfl
                      have t165 := g161 0 6 rfl
                      have t166 := g161 0 59 rfl
                      have t167 := g161 18 (Int.toNat v1_9) rfl
                      have f168 := (show 0 ≤ I162 0 71 ∧ I162 0 71 ≤ 5 from (hI162 0 71).1)
                      have f169 := (show 0 ≤ I162 0 72 ∧ I162 0 72 ≤ 1000 from (hI162 0 72).1)
                      have f170 := (show 0 ≤ I162 0 73 ∧ I162 0 73 ≤ 1001 from (hI162 0 73).1)
                      have f171 := (show 0 ≤ I162 0 69 ∧ I162 0 69 ≤ 1000 from (hI162 0 69).1)
                      have f172 := (show (-1) ≤ I162 0 6 ∧ I162 0 6 ≤ 7 from (hI162 0 6).1)
                      have f173 := (show 0 ≤ I162 0 59 ∧ I162 0 59 ≤ 2000 from (hI162 0 59).1)
                      refine gv_callV hD rfl (As := [.inl s1_99]) (st := []) rfl (by decide) rfl rfl (gr_lV hws rfl) (Nat.le_of_ble_eq_true rfl) (gz_Ev_mono (d := 11) (by decide) E161) ?_
                      show gv_X _ _ (273, [(0, .inr (.inr (some 0))), (1, .inl v1_9), (2, .inl v2_40), (3, .inl v3_49)], [.inl z161], gr_sh ++ ext, gr_h I162 J163)
                      refine gv_if_ne (t := 278) hD rfl rfl ⟨by omega, by omega⟩ (fun c174 => ?_) (fun c174 => ?_)
                      · refine gv_run 7 true hD (pc' := 288) (lv' := [(0, .inr (.inr (some 0))), (1, .inl v1_9), (2, .inl v2_40), (3, .inl v3_49)]) (st' := [.inl v1_9, .inr (.inr (some 18)), .inl v1_9, .inr (.inr (some 18)), .inl (64 * v1_9)]) (h' := gr_h I162 J163) (C := (((((((True ∧ True) ∧ True) ∧ True) ∧ True) ∧ True) ∧ True) ∧ True)) rfl ⟨⟨⟨⟨⟨⟨⟨trivial, trivial⟩, trivial⟩, trivial⟩, trivial⟩, trivial⟩, trivial⟩, trivial⟩ ?_
                        have f175 := (show 0 ≤ I162 18 (Int.toNat v1_9) ∧ I162 18 (Int.toNat v1_9) ≤ 64 from (hI162 18 (Int.toNat v1_9)).1)
                        refine gv_run 1 true hD (pc' := 289) (lv' := [(0, .inr (.inr (some 0))), (1, .inl v1_9), (2, .inl v2_40), (3, .inl v3_49)]) (st' := [.inl (I162 18 (Int.toNat v1_9)), .inl v1_9, .inr (.inr (some 18)), .inl (64 * v1_9)]) (h' := gr_h I162 J163) (C := (True ∧ (0 ≤ v1_9 ∧ v1_9 < ((8 : Nat) : Int)))) rfl ⟨trivial, ⟨by omega, by omega⟩⟩ ?_
                        refine gv_run 3 true hD (pc' := 292) (lv' := [(0, .inr (.inr (some 0))), (1, .inl v1_9), (2, .inl v2_40), (3, .inl v3_49)]) (st' := [.inl ((I162 18 (Int.toNat v1_9)) + 1), .inl v1_9, .inr (.inr (some 18)), .inl (I162 18 (Int.toNat v1_9)), .inl (64 * v1_9)]) (h' := gr_h I162 J163) (C := (((True ∧ True) ∧ True) ∧ True)) rfl ⟨⟨⟨trivial, trivial⟩, trivial⟩, trivial⟩ ?_
                        refine gv_run 1 true hD (pc' := 293) (lv' := [(0, .inr (.inr (some 0))), (1, .inl v1_9), (2, .inl v2_40), (3, .inl v3_49)]) (st' := [.inl (I162 18 (Int.toNat v1_9)), .inl (64 * v1_9)]) (h' := gz_up (gr_h I162 J163) 18 (Int.toNat v1_9) (.inl (((I162 18 (Int.toNat v1_9)) + 1)))) (C := (True ∧ (0 ≤ v1_9 ∧ v1_9 < ((8 : Nat) : Int)))) rfl ⟨trivial, ⟨by omega, by omega⟩⟩ ?_
                        refine gr_st hI162 FI162 rfl rfl ⟨⟨by show 0 ≤ _; omega, by show _ ≤ 64; omega⟩, trivial⟩ (fun I176 hI176 FI176 q177 p177 => ?_)
                        have t178 := p177 0 71 (fun q => absurd q.1 (by decide))
                        have t179 := p177 0 72 (fun q => absurd q.1 (by decide))
                        have t180 := p177 0 73 (fun q => absurd q.1 (by decide))
                        have t181 := p177 0 69 (fun q => absurd q.1 (by decide))
                        have t182 := p177 0 6 (fun q => absurd q.1 (by decide))
                        have t183 := p177 0 59 (fun q => absurd q.1 (by decide))
                        have f184 := (show 0 ≤ I176 0 71 ∧ I176 0 71 ≤ 5 from (hI176 0 71).1)
                        have f185 := (show 0 ≤ I176 0 72 ∧ I176 0 72 ≤ 1000 from (hI176 0 72).1)
                        have f186 := (show 0 ≤ I176 0 73 ∧ I176 0 73 ≤ 1001 from (hI176 0 73).1)
                        have f187 := (show 0 ≤ I176 0 69 ∧ I176 0 69 ≤ 1000 from (hI176 0 69).1)
                        have f188 := (show (-1) ≤ I176 0 6 ∧ I176 0 6 ≤ 7 from (hI176 0 6).1)
                        have f189 := (show 0 ≤ I176 0 59 ∧ I176 0 59 ≤ 2000 from (hI176 0 59).1)
                        refine gv_run 6 true hD (pc' := 303) (lv' := [(5, .inl ((64 * v1_9) + (I162 18 (Int.toNat v1_9)))), (0, .inr (.inr (some 0))), (1, .inl v1_9), (2, .inl v2_40), (3, .inl v3_49)]) (st' := [.inl v2_40, .inl ((64 * v1_9) + (I162 18 (Int.toNat v1_9))), .inr (.inr (some 36))]) (h' := gr_h I176 J163) (C := ((((((True ∧ True) ∧ True) ∧ True) ∧ True) ∧ True) ∧ True)) rfl ⟨⟨⟨⟨⟨⟨trivial, trivial⟩, trivial⟩, trivial⟩, trivial⟩, trivial⟩, trivial⟩ ?_
                        refine gv_run 1 true hD (pc' := 304) (lv' := [(5, .inl ((64 * v1_9) + (I162 18 (Int.toNat v1_9)))), (0, .inr (.inr (some 0))), (1, .inl v1_9), (2, .inl v2_40), (3, .inl v3_49)]) (st' := []) (h' := gz_up (gr_h I176 J163) 36 (Int.toNat (((64 * v1_9) + (I162 18 (Int.toNat v1_9))))) (.inl v2_40)) (C := (True ∧ (0 ≤ (((64 * v1_9) + (I162 18 (Int.toNat v1_9)))) ∧ (((64 * v1_9) + (I162 18 (Int.toNat v1_9)))) < ((512 : Nat) : Int)))) rfl ⟨trivial, ⟨by omega, by omega⟩⟩ ?_
                        refine gr_st hI176 FI176 rfl rfl ⟨⟨by show 0 ≤ _; omega, by show _ ≤ 95; omega⟩, trivial⟩ (fun I190 hI190 FI190 q191 p191 => ?_)
                        have t192 := p191 0 71 (fun q => absurd q.1 (by decide))
                        have t193 := p191 0 72 (fun q => absurd q.1 (by decide))
                        have t194 := p191 0 73 (fun q => absurd q.1 (by decide))
                        have t195 := p191 0 69 (fun q => absurd q.1 (by decide))
                        have t196 := p191 0 6 (fun q => absurd q.1 (by decide))
                        have t197 := p191 0 59 (fun q => absurd q.1 (by decide))
                        have t198 := p191 18 (Int.toNat v1_9) (fun q => absurd q.1 (by decide))
                        have f199 := (show 0 ≤ I190 0 71 ∧ I190 0 71 ≤ 5 from (hI190 0 71).1)
                        have f200 := (show 0 ≤ I190 0 72 ∧ I190 0 72 ≤ 1000 from (hI190 0 72).1)
                        have f201 := (show 0 ≤ I190 0 73 ∧ I190 0 73 ≤ 1001 from (hI190 0 73).1)
                        have f202 := (show 0 ≤ I190 0 69 ∧ I190 0 69 ≤ 1000 from (hI190 0 69).1)
                        have f203 := (show (-1) ≤ I190 0 6 ∧ I190 0 6 ≤ 7 from (hI190 0 6).1)
                        have f204 := (show 0 ≤ I190 0 59 ∧ I190 0 59 ≤ 2000 from (hI190 0 59).1)
                        refine gv_run 4 true hD (pc' := 311) (lv' := [(5, .inl ((64 * v1_9) + (I162 18 (Int.toNat v1_9)))), (0, .inr (.inr (some 0))), (1, .inl v1_9), (2, .inl v2_40), (3, .inl v3_49)]) (st' := [.inl v3_49, .inl ((64 * v1_9) + (I162 18 (Int.toNat v1_9))), .inr (.inr (some 37))]) (h' := gr_h I190 J163) (C := ((((True ∧ True) ∧ True) ∧ True) ∧ True)) rfl ⟨⟨⟨⟨trivial, trivial⟩, trivial⟩, trivial⟩, trivial⟩ ?_
                        refine gv_run 1 true hD (pc' := 312) (lv' := [(5, .inl ((64 * v1_9) + (I162 18 (Int.toNat v1_9)))), (0, .inr (.inr (some 0))), (1, .inl v1_9), (2, .inl v2_40), (3, .inl v3_49)]) (st' := []) (h' := gz_up (gr_h I190 J163) 37 (Int.toNat (((64 * v1_9) + (I162 18 (Int.toNat v1_9))))) (.inl v3_49)) (C := (True ∧ (0 ≤ (((64 * v1_9) + (I162 18 (Int.toNat v1_9)))) ∧ (((64 * v1_9) + (I162 18 (Int.toNat v1_9)))) < ((512 : Nat) : Int)))) rfl ⟨trivial, ⟨by omega, by omega⟩⟩ ?_
                        refine gr_st hI190 FI190 rfl rfl ⟨⟨by show 0 ≤ _; omega, by show _ ≤ 23; omega⟩, trivial⟩ (fun I205 hI205 FI205 q206 p206 => ?_)
                        have t207 := p206 0 71 (fun q => absurd q.1 (by decide))
                        have t208 := p206 0 72 (fun q => absurd q.1 (by decide))
                        have t209 := p206 0 73 (fun q => absurd q.1 (by decide))
                        have t210 := p206 0 69 (fun q => absurd q.1 (by decide))
                        have t211 := p206 0 6 (fun q => absurd q.1 (by decide))
                        have t212 := p206 0 59 (fun q => absurd q.1 (by decide))
                        have t213 := p206 18 (Int.toNat v1_9) (fun q => absurd q.1 (by decide))
                        have f214 := (show 0 ≤ I205 0 71 ∧ I205 0 71 ≤ 5 from (hI205 0 71).1)
                        have f215 := (show 0 ≤ I205 0 72 ∧ I205 0 72 ≤ 1000 from (hI205 0 72).1)
                        have f216 := (show 0 ≤ I205 0 73 ∧ I205 0 73 ≤ 1001 from (hI205 0 73).1)
                        have f217 := (show 0 ≤ I205 0 69 ∧ I205 0 69 ≤ 1000 from (hI205 0 69).1)
                        have f218 := (show (-1) ≤ I205 0 6 ∧ I205 0 6 ≤ 7 from (hI205 0 6).1)
                        have f219 := (show 0 ≤ I205 0 59 ∧ I205 0 59 ≤ 2000 from (hI205 0 59).1)
                        refine gv_run 2 true hD (pc' := 315) (lv' := [(6, .inl 0), (5, .inl ((64 * v1_9) + (I162 18 (Int.toNat v1_9)))), (0, .inr (.inr (some 0))), (1, .inl v1_9), (2, .inl v2_40), (3, .inl v3_49)]) (st' := []) (h' := gr_h I205 J163) (C := ((True ∧ True) ∧ True)) rfl ⟨⟨trivial, trivial⟩, trivial⟩ ?_
                        refine gv_pick [2, 1, 0] rfl ?_
                        exact L315 _ I205 J163 (((64 * v1_9) + (I162 18 (Int.toNat v1_9)))) 0 (Nat.lt_succ_self _) hI205 FI205 FJ163 (by omega)
                      · refine gv_pick [] rfl ?_
                        exact L276 I162 J163 hI162 FI162 FJ163 (by omega)
                    have f220 := (show 0 ≤ I90 18 (Int.toNat v1_9) ∧ I90 18 (Int.toNat v1_9) ≤ 64 from (hI90 18 (Int.toNat v1_9)).1)
                    refine gv_run 5 true hD (pc' := 260) (lv' := [(0, .inr (.inr (some 0))), (1, .inl v1_9), (2, .inl v2_40), (3, .inl v3_49)]) (st' := [.inl (I90 18 (Int.toNat v1_9)), .inr (.inr (some 0))]) (h' := gr_h I90 J91) (C := (((((True ∧ True) ∧ True) ∧ True) ∧ True) ∧ (0 ≤ v1_9 ∧ v1_9 < ((8 : Nat) : Int)))) rfl ⟨⟨⟨⟨⟨trivial, trivial⟩, trivial⟩, trivial⟩, trivial⟩, ⟨by omega, by omega⟩⟩ ?_
                    refine gv_run 1 true hD (pc' := 262) (lv' := [(0, .inr (.inr (some 0))), (1, .inl v1_9), (2, .inl v2_40), (3, .inl v3_49)]) (st' := [.inl 64, .inl (I90 18 (Int.toNat v1_9)), .inr (.inr (some 0))]) (h' := gr_h I90 J91) (C := (True ∧ True)) rfl ⟨trivial, trivial⟩ ?_
                    refine gv_icmp_ge (t := 269) hD rfl rfl ⟨⟨by omega, by omega⟩, ⟨by omega, by omega⟩⟩ (fun c221 => ?_) (fun c221 => ?_)
                    · refine gv_run 1 true hD (pc' := 270) (lv' := [(0, .inr (.inr (some 0))), (1, .inl v1_9), (2, .inl v2_40), (3, .inl v3_49)]) (st' := [.inl 0, .inr (.inr (some 0))]) (h' := gr_h I90 J91) (C := (True ∧ True)) rfl ⟨trivial, trivial⟩ ?_
                      exact L270 0 (by omega)
                    · refine gv_run 2 true hD (pc' := 270) (lv' := [(0, .inr (.inr (some 0))), (1, .inl v1_9), (2, .inl v2_40), (3, .inl v3_49)]) (st' := [.inl 1, .inr (.inr (some 0))]) (h' := gr_h I90 J91) (C := ((True ∧ True) ∧ True)) rfl ⟨⟨trivial, trivial⟩, trivial⟩ ?_
                      exact L270 1 (by omega)
                  refine gv_run 1 true hD (pc' := 247) (lv' := [(0, .inr (.inr (some 0))), (1, .inl v1_9), (2, .inl v2_40), (3, .inl v3_49)]) (st' := [.inr (.inr (some 0))]) (h' := gr_h I72 J73) (C := (True ∧ True)) rfl ⟨trivial, trivial⟩ ?_
                  obtain ⟨r222, h222, E222, P222⟩ := r_cost (ws0 := ws0) (tb := tb) hws htb ext I72 J73 hI72   (by omega) (by omega) (by omega) (by omega) (by omega)
                  obtain ⟨I223, J224, rfl, hI223, g222, k222, ⟨z222, rfl, q222⟩⟩ := P222
                  have FI223 := gr_frt FI72 g222 rfl rfl
                  have FJ224 := gr_fjt FJ73 k222 rfl rfl
                  have t225 := g222 0 69 rfl
                  have t226 := g222 0 6 rfl
                  have t227 := g222 0 59 rfl
                  have t228 := g222 18 (Int.toNat v1_9) rfl
                  have f229 := (show 0 ≤ I223 0 71 ∧ I223 0 71 ≤ 5 from (hI223 0 71).1)
                  have f230 := (show 0 ≤ I223 0 72 ∧ I223 0 72 ≤ 1000 from (hI223 0 72).1)
                  have f231 := (show 0 ≤ I223 0 73 ∧ I223 0 73 ≤ 1001 from (hI223 0 73).1)
                  have f232 := (show 0 ≤ I223 0 69 ∧ I223 0 69 ≤ 1000 from (hI223 0 69).1)
                  have f233 := (show (-1) ≤ I223 0 6 ∧ I223 0 6 ≤ 7 from (hI223 0 6).1)
                  have f234 := (show 0 ≤ I223 0 59 ∧ I223 0 59 ≤ 2000 from (hI223 0 59).1)
                  refine gv_callV hD rfl (As := []) (st := []) rfl (by decide) rfl rfl (gr_lV hws rfl) (Nat.le_of_ble_eq_true rfl) (gz_Ev_mono (d := 11) (by decide) E222) ?_
                  show gv_X _ _ (250, [(0, .inr (.inr (some 0))), (1, .inl v1_9), (2, .inl v2_40), (3, .inl v3_49)], [.inl z222], gr_sh ++ ext, gr_h I223 J224)
                  refine gv_if_eq (t := 276) hD rfl rfl ⟨by omega, by omega⟩ (fun c235 => ?_) (fun c235 => ?_)
                  · refine gv_pick [] rfl ?_
                    exact L276 I223 J224 hI223 FI223 FJ224 (by omega)
                  · exact L253 I223 J224 hI223 FI223 FJ224 (by omega)
                have L203 : ∀ (I236 : gr_I) (J237 : gr_J) , gr_Inv I236 → gr_fr [59, 71, 72, 73, 74, 75, 76, 77, 101, 106] [18, 36, 37, 38, 39, 40, 51, 57, 67] I I236 → gr_fj [59, 71, 72, 73, 74, 75, 76, 77, 101, 106] [18, 36, 37, 38, 39, 40, 51, 57, 67] J J237 → ((0 ≤ v1_9 ∧ v1_9 ≤ 7) ∧ (0 ≤ v2_40 ∧ v2_40 ≤ 95) ∧ (0 ≤ v3_49 ∧ v3_49 ≤ 23) ∧ (I236 0 71 = 1) ∧ (I236 0 71 = 5 ∨ I236 0 73 ≤ I236 0 69) ∧ (I236 0 72 ≤ I236 0 69) ∧ (I236 0 71 = 0 ∨ (I236 0 72 < I236 0 73 ∧ I236 0 72 < I236 0 69)) ∧ (I236 0 71 = 3 → 2 ≤ I236 0 73 - I236 0 72 ∧ I236 0 73 - I236 0 72 ≤ 14) ∧ (I236 0 72 ≤ I236 0 73) ∧ (I236 0 69 = I 0 69) ∧ (I 0 73 ≤ I236 0 73) ∧ (I 0 72 ≤ I236 0 72) ∧ (I236 0 6 = I 0 6) ∧ (I236 0 59 - I236 0 72 ≤ I 0 59 - I 0 72)) → gv_X (gr_E ws0 tb 11 (yX13_wordOf, cX13_wordOf, 7, (some .boolean)) kX13_wordOf) (gv_Q cX13_wordOf (some .boolean) (gr_sh ++ ext) (fun r h' => (∃ (I' : gr_I) (J' : gr_J), h' = gr_h I' J' ∧ gr_Inv I' ∧ gr_fr [59, 71, 72, 73, 74, 75, 76, 77, 101, 106] [18, 36, 37, 38, 39, 40, 51, 57, 67] I I' ∧ gr_fj [59, 71, 72, 73, 74, 75, 76, 77, 101, 106] [18, 36, 37, 38, 39, 40, 51, 57, 67] J J' ∧ (∃ z : Int, r = some (.inl z) ∧ 0 ≤ z ∧ z ≤ 1 ∧ (I' 0 71 = 5 ∨ I' 0 73 ≤ I' 0 69) ∧ (I' 0 72 ≤ I' 0 69) ∧ (I' 0 71 = 0 ∨ (I' 0 72 < I' 0 73 ∧ I' 0 72 < I' 0 69)) ∧ (I' 0 71 = 3 → 2 ≤ I' 0 73 - I' 0 72 ∧ I' 0 73 - I' 0 72 ≤ 14) ∧ (I' 0 72 ≤ I' 0 73) ∧ (I' 0 69 = I 0 69) ∧ (I 0 73 ≤ I' 0 73) ∧ (I 0 72 ≤ I' 0 72) ∧ (I' 0 59 - I' 0 72 ≤ I 0 59 - I 0 72))))) (203, [(0, .inr (.inr (some 0))), (1, .inl v1_9), (2, .inl v2_40), (3, .inl v3_49)], [], gr_sh ++ ext, gr_h I236 J237) := by
                  intro I236 J237 hI236 FI236 FJ237 m_238
                  obtain ⟨hv1_9_238, hv2_40_238, hv3_49_238, e0_238, e1_238, e2_238, e3_238, e4_238, e5_238, e6_238, e7_238, e8_238, e9_238, e10_238⟩ := m_238
                  have f239 := (show 0 ≤ I236 0 71 ∧ I236 0 71 ≤ 5 from (hI236 0 71).1)
                  have f240 := (show 0 ≤ I236 0 72 ∧ I236 0 72 ≤ 1000 from (hI236 0 72).1)
                  have f241 := (show 0 ≤ I236 0 73 ∧ I236 0 73 ≤ 1001 from (hI236 0 73).1)
                  have f242 := (show 0 ≤ I236 0 69 ∧ I236 0 69 ≤ 1000 from (hI236 0 69).1)
                  have f243 := (show (-1) ≤ I236 0 6 ∧ I236 0 6 ≤ 7 from (hI236 0 6).1)
                  have f244 := (show 0 ≤ I236 0 59 ∧ I236 0 59 ≤ 2000 from (hI236 0 59).1)
                  have L206 : ∀ (n : Nat) (I245 : gr_I) (J246 : gr_J) (v5_247 : Int), (1001 - I245 0 72).toNat < n → gr_Inv I245 → gr_fr [59, 71, 72, 73, 74, 75, 76, 77, 101, 106] [18, 36, 37, 38, 39, 40, 51, 57, 67] I I245 → gr_fj [59, 71, 72, 73, 74, 75, 76, 77, 101, 106] [18, 36, 37, 38, 39, 40, 51, 57, 67] J J246 → ((0 ≤ v1_9 ∧ v1_9 ≤ 7) ∧ (0 ≤ v2_40 ∧ v2_40 ≤ 95) ∧ (0 ≤ v3_49 ∧ v3_49 ≤ 23) ∧ (0 ≤ v5_247 ∧ v5_247 ≤ 1) ∧ (I245 0 71 = 5 ∨ I245 0 73 ≤ I245 0 69) ∧ (I245 0 72 ≤ I245 0 69) ∧ (I245 0 71 = 0 ∨ (I245 0 72 < I245 0 73 ∧ I245 0 72 < I245 0 69)) ∧ (I245 0 71 = 3 → 2 ≤ I245 0 73 - I245 0 72 ∧ I245 0 73 - I245 0 72 ≤ 14) ∧ (I245 0 72 ≤ I245 0 73) ∧ (I245 0 69 = I 0 69) ∧ (I 0 73 ≤ I245 0 73) ∧ (I 0 72 ≤ I245 0 72) ∧ (I245 0 6 = I 0 6) ∧ (I245 0 59 - I245 0 72 ≤ I 0 59 - I 0 72)) → gv_X (gr_E ws0 tb 11 (yX13_wordOf, cX13_wordOf, 7, (some .boolean)) kX13_wordOf) (gv_Q cX13_wordOf (some .boolean) (gr_sh ++ ext) (fun r h' => (∃ (I' : gr_I) (J' : gr_J), h' = gr_h I' J' ∧ gr_Inv I' ∧ gr_fr [59, 71, 72, 73, 74, 75, 76, 77, 101, 106] [18, 36, 37, 38, 39, 40, 51, 57, 67] I I' ∧ gr_fj [59, 71, 72, 73, 74, 75, 76, 77, 101, 106] [18, 36, 37, 38, 39, 40, 51, 57, 67] J J' ∧ (∃ z : Int, r = some (.inl z) ∧ 0 ≤ z ∧ z ≤ 1 ∧ (I' 0 71 = 5 ∨ I' 0 73 ≤ I' 0 69) ∧ (I' 0 72 ≤ I' 0 69) ∧ (I' 0 71 = 0 ∨ (I' 0 72 < I' 0 73 ∧ I' 0 72 < I' 0 69)) ∧ (I' 0 71 = 3 → 2 ≤ I' 0 73 - I' 0 72 ∧ I' 0 73 - I' 0 72 ≤ 14) ∧ (I' 0 72 ≤ I' 0 73) ∧ (I' 0 69 = I 0 69) ∧ (I 0 73 ≤ I' 0 73) ∧ (I 0 72 ≤ I' 0 72) ∧ (I' 0 59 - I' 0 72 ≤ I 0 59 - I 0 72))))) (206, [(0, .inr (.inr (some 0))), (1, .inl v1_9), (2, .inl v2_40), (3, .inl v3_49), (5, .inl v5_247)], [], gr_sh ++ ext, gr_h I245 J246) := by
                    intro n
                    induction n with
                    | zero => intro I245 J246 v5_247 hn; omega
                    | succ n ih206 =>
                      intro I245 J246 v5_247 hn hI245 FI245 FJ246 m_247
                      obtain ⟨hv1_9_247, hv2_40_247, hv3_49_247, hv5_247, e0_247, e1_247, e2_247, e3_247, e4_247, e5_247, e6_247, e7_247, e8_247, e9_247⟩ := m_247
                      have f248 := (show 0 ≤ I245 0 71 ∧ I245 0 71 ≤ 5 from (hI245 0 71).1)
                      have f249 := (show 0 ≤ I245 0 72 ∧ I245 0 72 ≤ 1000 from (hI245 0 72).1)
                      have f250 := (show 0 ≤ I245 0 73 ∧ I245 0 73 ≤ 1001 from (hI245 0 73).1)
                      have f251 := (show 0 ≤ I245 0 69 ∧ I245 0 69 ≤ 1000 from (hI245 0 69).1)
                      have f252 := (show (-1) ≤ I245 0 6 ∧ I245 0 6 ≤ 7 from (hI245 0 6).1)
                      have f253 := (show 0 ≤ I245 0 59 ∧ I245 0 59 ≤ 2000 from (hI245 0 59).1)
                      have L231 : ((0 ≤ v1_9 ∧ v1_9 ≤ 7) ∧ (0 ≤ v2_40 ∧ v2_40 ≤ 95) ∧ (0 ≤ v3_49 ∧ v3_49 ≤ 23) ∧ (I245 0 71 = 1) ∧ (I245 0 71 = 5 ∨ I245 0 73 ≤ I245 0 69) ∧ (I245 0 72 ≤ I245 0 69) ∧ (I245 0 71 = 0 ∨ (I245 0 72 < I245 0 73 ∧ I245 0 72 < I245 0 69)) ∧ (I245 0 71 = 3 → 2 ≤ I245 0 73 - I245 0 72 ∧ I245 0 73 - I245 0 72 ≤ 14) ∧ (I245 0 72 ≤ I245 0 73) ∧ (I245 0 69 = I 0 69) ∧ (I 0 73 ≤ I245 0 73) ∧ (I 0 72 ≤ I245 0 72) ∧ (I245 0 6 = I 0 6) ∧ (I245 0 59 - I245 0 72 ≤ I 0 59 - I 0 72)) → gv_X (gr_E ws0 tb 11 (yX13_wordOf, cX13_wordOf, 7, (some .boolean)) kX13_wordOf) (gv_Q cX13_wordOf (some .boolean) (gr_sh ++ ext) (fun r h' => (∃ (I' : gr_I) (J' : gr_J), h' = gr_h I' J' ∧ gr_Inv I' ∧ gr_fr [59, 71, 72, 73, 74, 75, 76, 77, 101, 106] [18, 36, 37, 38, 39, 40, 51, 57, 67] I I' ∧ gr_fj [59, 71, 72, 73, 74, 75, 76, 77, 101, 106] [18, 36, 37, 38, 39, 40, 51, 57, 67] J J' ∧ (∃ z : Int, r = some (.inl z) ∧ 0 ≤ z ∧ z ≤ 1 ∧ (I' 0 71 = 5 ∨ I' 0 73 ≤ I' 0 69) ∧ (I' 0 72 ≤ I' 0 69) ∧ (I' 0 71 = 0 ∨ (I' 0 72 < I' 0 73 ∧ I' 0 72 < I' 0 69)) ∧ (I' 0 71 = 3 → 2 ≤ I' 0 73 - I' 0 72 ∧ I' 0 73 - I' 0 72 ≤ 14) ∧ (I' 0 72 ≤ I' 0 73) ∧ (I' 0 69 = I 0 69) ∧ (I 0 73 ≤ I' 0 73) ∧ (I 0 72 ≤ I' 0 72) ∧ (I' 0 59 - I' 0 72 ≤ I 0 59 - I 0 72))))) (231, [(0, .inr (.inr (some 0))), (1, .inl v1_9), (2, .inl v2_40), (3, .inl v3_49)], [], gr_sh ++ ext, gr_h I245 J246) := by
                        intro m_254
                        obtain ⟨hv1_9_254, hv2_40_254, hv3_49_254, e0_254, e1_254, e2_254, e3_254, e4_254, e5_254, e6_254, e7_254, e8_254, e9_254, e10_254⟩ := m_254
                        have f255 := (show 0 ≤ I245 0 71 ∧ I245 0 71 ≤ 5 from (hI245 0 71).1)
                        have f256 := (show 0 ≤ I245 0 72 ∧ I245 0 72 ≤ 1000 from (hI245 0 72).1)
                        have f257 := (show 0 ≤ I245 0 73 ∧ I245 0 73 ≤ 1001 from (hI245 0 73).1)
                        have f258 := (show 0 ≤ I245 0 69 ∧ I245 0 69 ≤ 1000 from (hI245 0 69).1)
                        have f259 := (show (-1) ≤ I245 0 6 ∧ I245 0 6 ≤ 7 from (hI245 0 6).1)
                        have f260 := (show 0 ≤ I245 0 59 ∧ I245 0 59 ≤ 2000 from (hI245 0 59).1)
                        have L240 : ∀ (I261 : gr_I) (J262 : gr_J) , gr_Inv I261 → gr_fr [59, 71, 72, 73, 74, 75, 76, 77, 101, 106] [18, 36, 37, 38, 39, 40, 51, 57, 67] I I261 → gr_fj [59, 71, 72, 73, 74, 75, 76, 77, 101, 106] [18, 36, 37, 38, 39, 40, 51, 57, 67] J J262 → ((0 ≤ v1_9 ∧ v1_9 ≤ 7) ∧ (0 ≤ v2_40 ∧ v2_40 ≤ 95) ∧ (0 ≤ v3_49 ∧ v3_49 ≤ 23) ∧ (I245 0 72 < I261 0 72) ∧ (I261 0 71 = 5 ∨ I261 0 73 ≤ I261 0 69) ∧ (I261 0 72 ≤ I261 0 69) ∧ (I261 0 71 = 0 ∨ (I261 0 72 < I261 0 73 ∧ I261 0 72 < I261 0 69)) ∧ (I261 0 71 = 3 → 2 ≤ I261 0 73 - I261 0 72 ∧ I261 0 73 - I261 0 72 ≤ 14) ∧ (I261 0 72 ≤ I261 0 73) ∧ (I261 0 69 = I 0 69) ∧ (I 0 73 ≤ I261 0 73) ∧ (I 0 72 ≤ I261 0 72) ∧ (I261 0 6 = I 0 6) ∧ (I261 0 59 - I261 0 72 ≤ I 0 59 - I 0 72)) → gv_X (gr_E ws0 tb 11 (yX13_wordOf, cX13_wordOf, 7, (some .boolean)) kX13_wordOf) (gv_Q cX13_wordOf (some .boolean) (gr_sh ++ ext) (fun r h' => (∃ (I' : gr_I) (J' : gr_J), h' = gr_h I' J' ∧ gr_Inv I' ∧ gr_fr [59, 71, 72, 73, 74, 75, 76, 77, 101, 106] [18, 36, 37, 38, 39, 40, 51, 57, 67] I I' ∧ gr_fj [59, 71, 72, 73, 74, 75, 76, 77, 101, 106] [18, 36, 37, 38, 39, 40, 51, 57, 67] J J' ∧ (∃ z : Int, r = some (.inl z) ∧ 0 ≤ z ∧ z ≤ 1 ∧ (I' 0 71 = 5 ∨ I' 0 73 ≤ I' 0 69) ∧ (I' 0 72 ≤ I' 0 69) ∧ (I' 0 71 = 0 ∨ (I' 0 72 < I' 0 73 ∧ I' 0 72 < I' 0 69)) ∧ (I' 0 71 = 3 → 2 ≤ I' 0 73 - I' 0 72 ∧ I' 0 73 - I' 0 72 ≤ 14) ∧ (I' 0 72 ≤ I' 0 73) ∧ (I' 0 69 = I 0 69) ∧ (I 0 73 ≤ I' 0 73) ∧ (I 0 72 ≤ I' 0 72) ∧ (I' 0 59 - I' 0 72 ≤ I 0 59 - I 0 72))))) (240, [(0, .inr (.inr (some 0))), (1, .inl v1_9), (2, .inl v2_40), (3, .inl v3_49)], [], gr_sh ++ ext, gr_h I261 J262) := by
                          intro I261 J262 hI261 FI261 FJ262 m_263
                          obtain ⟨hv1_9_263, hv2_40_263, hv3_49_263, e0_263, e1_263, e2_263, e3_263, e4_263, e5_263, e6_263, e7_263, e8_263, e9_263, e10_263⟩ := m_263
                          have f264 := (show 0 ≤ I261 0 71 ∧ I261 0 71 ≤ 5 from (hI261 0 71).1)
                          have f265 := (show 0 ≤ I261 0 72 ∧ I261 0 72 ≤ 1000 from (hI261 0 72).1)
                          have f266 := (show 0 ≤ I261 0 73 ∧ I261 0 73 ≤ 1001 from (hI261 0 73).1)
                          have f267 := (show 0 ≤ I261 0 69 ∧ I261 0 69 ≤ 1000 from (hI261 0 69).1)
                          have f268 := (show (-1) ≤ I261 0 6 ∧ I261 0 6 ≤ 7 from (hI261 0 6).1)
                          have f269 := (show 0 ≤ I261 0 59 ∧ I261 0 59 ≤ 2000 from (hI261 0 59).1)
                          refine gv_run 3 true hD (pc' := 206) (lv' := [(5, .inl 0), (0, .inr (.inr (some 0))), (1, .inl v1_9), (2, .inl v2_40), (3, .inl v3_49)]) (st' := []) (h' := gr_h I261 J262) (C := (((True ∧ True) ∧ True) ∧ True)) rfl ⟨⟨⟨trivial, trivial⟩, trivial⟩, trivial⟩ ?_
                          refine gv_pick [1, 2, 3, 4, 0] rfl ?_
                          exact ih206 I261 J262 0 (by omega) hI261 FI261 FJ262 (by omega)
                        refine gv_run 1 true hD (pc' := 232) (lv' := [(0, .inr (.inr (some 0))), (1, .inl v1_9), (2, .inl v2_40), (3, .inl v3_49)]) (st' := [.inr (.inr (some 0))]) (h' := gr_h I245 J246) (C := (True ∧ True)) rfl ⟨trivial, trivial⟩ ?_
                        obtain ⟨r270, h270, E270, P270⟩ := r_oneValue (ws0 := ws0) (tb := tb) hws htb ext I245 J246 hI245   (by omega) (by omega) (by omega) (by omega) (by omega) (by omega) (by omega)
                        obtain ⟨I271, J272, rfl, hI271, g270, k270, ⟨z270, rfl, q270⟩⟩ := P270
                        have FI271 := gr_frt FI245 g270 rfl rfl
                        have FJ272 := gr_fjt FJ246 k270 rfl rfl
                        have t273 := g270 0 69 rfl
                        have t274 := g270 0 6 rfl
                        have t275 := g270 0 59 rfl
                        have t276 := g270 18 (Int.toNat v1_9) rfl
                        have f277 := (show 0 ≤ I271 0 71 ∧ I271 0 71 ≤ 5 from (hI271 0 71).1)
                        have f278 := (show 0 ≤ I271 0 72 ∧ I271 0 72 ≤ 1000 from (hI271 0 72).1)
                        have f279 := (show 0 ≤ I271 0 73 ∧ I271 0 73 ≤ 1001 from (hI271 0 73).1)
                        have f280 := (show 0 ≤ I271 0 69 ∧ I271 0 69 ≤ 1000 from (hI271 0 69).1)
                        have f281 := (show (-1) ≤ I271 0 6 ∧ I271 0 6 ≤ 7 from (hI271 0 6).1)
                        have f282 := (show 0 ≤ I271 0 59 ∧ I271 0 59 ≤ 2000 from (hI271 0 59).1)
                        refine gv_callV hD rfl (As := []) (st := []) rfl (by decide) rfl rfl (gr_lV hws rfl) (Nat.le_of_ble_eq_true rfl) (gz_Ev_mono (d := 11) (by decide) E270) ?_
                        show gv_X _ _ (235, [(0, .inr (.inr (some 0))), (1, .inl v1_9), (2, .inl v2_40), (3, .inl v3_49)], [.inl z270], gr_sh ++ ext, gr_h I271 J272)
                        refine gv_if_ne (t := 240) hD rfl rfl ⟨by omega, by omega⟩ (fun c283 => ?_) (fun c283 => ?_)
                        · exact L240 I271 J272 hI271 FI271 FJ272 (by omega)
                        · refine gv_run 1 true hD (pc' := 239) (lv' := [(0, .inr (.inr (some 0))), (1, .inl v1_9), (2, .inl v2_40), (3, .inl v3_49)]) (st' := [.inl 0]) (h' := gr_h I271 J272) (C := (True ∧ True)) rfl ⟨trivial, trivial⟩ ?_
                          exact gv_zret hD rfl (by omega) ⟨I271, J272, rfl, hI271, FI271, FJ272, ⟨_, rfl, by omega⟩⟩
                      have f284 := (show 0 ≤ I245 0 71 ∧ I245 0 71 ≤ 5 from (hI245 0 71).1)
                      refine gv_run 3 true hD (pc' := 211) (lv' := [(0, .inr (.inr (some 0))), (1, .inl v1_9), (2, .inl v2_40), (3, .inl v3_49), (5, .inl v5_247)]) (st' := [.inl 1, .inl (I245 0 71)]) (h' := gr_h I245 J246) (C := (((True ∧ True) ∧ True) ∧ True)) rfl ⟨⟨⟨trivial, trivial⟩, trivial⟩, trivial⟩ ?_
                      refine gv_icmp_ne (t := 246) hD rfl rfl ⟨⟨by omega, by omega⟩, ⟨by omega, by omega⟩⟩ (fun c285 => ?_) (fun c285 => ?_)
                      · refine gv_pick [0, 1, 2, 3] rfl ?_
                        exact L246 I245 J246 hI245 FI245 FJ246 (by omega)
                      · refine gv_run 1 true hD (pc' := 216) (lv' := [(0, .inr (.inr (some 0))), (1, .inl v1_9), (2, .inl v2_40), (3, .inl v3_49), (5, .inl v5_247)]) (st' := [.inl v5_247]) (h' := gr_h I245 J246) (C := (True ∧ True)) rfl ⟨trivial, trivial⟩ ?_
                        refine gv_if_ne (t := 231) hD rfl rfl ⟨by omega, by omega⟩ (fun c286 => ?_) (fun c286 => ?_)
                        · refine gv_pick [0, 1, 2, 3] rfl ?_
                          exact L231 (by omega)
                        · have f287 := gw_cmp ((J246 0 75)) ((J246 0 92))
                          refine gv_run 5 true hD (pc' := 228) (lv' := [(0, .inr (.inr (some 0))), (1, .inl v1_9), (2, .inl v2_40), (3, .inl v3_49), (5, .inl v5_247)]) (st' := [.inl ((lg_cmp ((J246 0 75)) ((J246 0 92))).toInt)]) (h' := gr_h I245 J246) (C := (((((True ∧ True) ∧ True) ∧ True) ∧ True) ∧ True)) rfl ⟨⟨⟨⟨⟨trivial, trivial⟩, trivial⟩, trivial⟩, trivial⟩, trivial⟩ ?_
                          refine gv_if_eq (t := 246) hD rfl rfl ⟨by omega, by omega⟩ (fun c288 => ?_) (fun c288 => ?_)
                          · refine gv_pick [0, 1, 2, 3] rfl ?_
                            exact L246 I245 J246 hI245 FI245 FJ246 (by omega)
                          · refine gv_pick [0, 1, 2, 3] rfl ?_
                            exact L231 (by omega)
                  refine gv_run 2 true hD (pc' := 206) (lv' := [(5, .inl 1), (0, .inr (.inr (some 0))), (1, .inl v1_9), (2, .inl v2_40), (3, .inl v3_49)]) (st' := []) (h' := gr_h I236 J237) (C := ((True ∧ True) ∧ True)) rfl ⟨⟨trivial, trivial⟩, trivial⟩ ?_
                  refine gv_pick [1, 2, 3, 4, 0] rfl ?_
                  exact L206 _ I236 J237 1 (Nat.lt_succ_self _) hI236 FI236 FJ237 (by omega)
                refine gv_run 3 true hD (pc' := 179) (lv' := [(0, .inr (.inr (some 0))), (1, .inl v1_9), (2, .inl v2_40), (3, .inl v3_49)]) (st' := []) (h' := gz_up (gr_h I56 J57) 0 106 (.inl 0)) (C := (((True ∧ True) ∧ True) ∧ True)) rfl ⟨⟨⟨trivial, trivial⟩, trivial⟩, trivial⟩ ?_
                refine gr_st hI56 FI56 rfl rfl ⟨⟨by show 0 ≤ _; omega, by show _ ≤ 16777215; omega⟩, trivial⟩ (fun I289 hI289 FI289 q290 p290 => ?_)
                have t291 := p290 0 71 (by decide)
                have t292 := p290 0 72 (by decide)
                have t293 := p290 0 73 (by decide)
                have t294 := p290 0 69 (by decide)
                have t295 := p290 0 6 (by decide)
                have t296 := p290 0 59 (by decide)
                have t297 := p290 18 (Int.toNat v1_9) (fun q => absurd q.1 (by decide))
                have f298 := (show 0 ≤ I289 0 71 ∧ I289 0 71 ≤ 5 from (hI289 0 71).1)
                have f299 := (show 0 ≤ I289 0 72 ∧ I289 0 72 ≤ 1000 from (hI289 0 72).1)
                have f300 := (show 0 ≤ I289 0 73 ∧ I289 0 73 ≤ 1001 from (hI289 0 73).1)
                have f301 := (show 0 ≤ I289 0 69 ∧ I289 0 69 ≤ 1000 from (hI289 0 69).1)
                have f302 := (show (-1) ≤ I289 0 6 ∧ I289 0 6 ≤ 7 from (hI289 0 6).1)
                have f303 := (show 0 ≤ I289 0 59 ∧ I289 0 59 ≤ 2000 from (hI289 0 59).1)
                refine gv_run 3 true hD (pc' := 184) (lv' := [(0, .inr (.inr (some 0))), (1, .inl v1_9), (2, .inl v2_40), (3, .inl v3_49)]) (st' := [.inr (.inl (J57 0 93)), .inr (.inr (some 0))]) (h' := gr_h I289 J57) (C := (((True ∧ True) ∧ True) ∧ True)) rfl ⟨⟨⟨trivial, trivial⟩, trivial⟩, trivial⟩ ?_
                obtain ⟨r304, h304, E304, P304⟩ := r_is (ws0 := ws0) (tb := tb) hws htb ext I289 J57 hI289 (J57 0 93)  
                obtain ⟨rfl, ⟨z304, rfl, q304⟩⟩ := P304
                refine gv_callV hD rfl (As := [.inr (.inl (J57 0 93))]) (st := []) rfl (by decide) rfl rfl (gr_lV hws rfl) (Nat.le_of_ble_eq_true rfl) (gz_Ev_mono (d := 1) (by decide) E304) ?_
                show gv_X _ _ (187, [(0, .inr (.inr (some 0))), (1, .inl v1_9), (2, .inl v2_40), (3, .inl v3_49)], [.inl z304], gr_sh ++ ext, gr_h I289 J57)
                refine gv_if_eq (t := 246) hD rfl rfl ⟨by omega, by omega⟩ (fun c305 => ?_) (fun c305 => ?_)
                · exact L246 I289 J57 hI289 FI289 FJ57 (by omega)
                · refine gv_run 1 true hD (pc' := 191) (lv' := [(0, .inr (.inr (some 0))), (1, .inl v1_9), (2, .inl v2_40), (3, .inl v3_49)]) (st' := [.inr (.inr (some 0))]) (h' := gr_h I289 J57) (C := (True ∧ True)) rfl ⟨trivial, trivial⟩ ?_
                  obtain ⟨r306, h306, E306, P306⟩ := r_next (ws0 := ws0) (tb := tb) hws htb ext I289 J57 hI289   (by omega)
                  obtain ⟨I307, J308, rfl, hI307, g306, k306, ⟨rfl, q306⟩⟩ := P306
                  have FI307 := gr_frt FI289 g306 rfl rfl
                  have FJ308 := gr_fjt FJ57 k306 rfl rfl
                  have t309 := g306 0 69 rfl
                  have t310 := g306 0 6 rfl
                  have t311 := g306 0 59 rfl
                  have t312 := g306 18 (Int.toNat v1_9) rfl
                  have f313 := (show 0 ≤ I307 0 71 ∧ I307 0 71 ≤ 5 from (hI307 0 71).1)
                  have f314 := (show 0 ≤ I307 0 72 ∧ I307 0 72 ≤ 1000 from (hI307 0 72).1)
                  have f315 := (show 0 ≤ I307 0 73 ∧ I307 0 73 ≤ 1001 from (hI307 0 73).1)
                  have f316 := (show 0 ≤ I307 0 69 ∧ I307 0 69 ≤ 1000 from (hI307 0 69).1)
                  have f317 := (show (-1) ≤ I307 0 6 ∧ I307 0 6 ≤ 7 from (hI307 0 6).1)
                  have f318 := (show 0 ≤ I307 0 59 ∧ I307 0 59 ≤ 2000 from (hI307 0 59).1)
                  refine gv_callV hD rfl (As := []) (st := []) rfl (by decide) rfl rfl (gr_lV hws rfl) (Nat.le_of_ble_eq_true rfl) (gz_Ev_mono (d := 10) (by decide) E306) ?_
                  show gv_X _ _ (194, [(0, .inr (.inr (some 0))), (1, .inl v1_9), (2, .inl v2_40), (3, .inl v3_49)], [], gr_sh ++ ext, gr_h I307 J308)
                  refine gv_run 1 true hD (pc' := 195) (lv' := [(0, .inr (.inr (some 0))), (1, .inl v1_9), (2, .inl v2_40), (3, .inl v3_49)]) (st' := [.inr (.inr (some 0))]) (h' := gr_h I307 J308) (C := (True ∧ True)) rfl ⟨trivial, trivial⟩ ?_
                  obtain ⟨r319, h319, E319, P319⟩ := r_name (ws0 := ws0) (tb := tb) hws htb ext I307 J308 hI307   
                  obtain ⟨I320, J321, rfl, hI320, g319, k319, ⟨z319, rfl, q319⟩⟩ := P319
                  have FI320 := gr_frt FI307 g319 rfl rfl
                  have FJ321 := gr_fjt FJ308 k319 rfl rfl
                  have t322 := g319 0 71 rfl
                  have t323 := g319 0 72 rfl
                  have t324 := g319 0 73 rfl
                  have t325 := g319 0 69 rfl
                  have t326 := g319 0 6 rfl
                  have t327 := g319 0 59 rfl
                  have t328 := g319 18 (Int.toNat v1_9) rfl
                  have f329 := (show 0 ≤ I320 0 71 ∧ I320 0 71 ≤ 5 from (hI320 0 71).1)
                  have f330 := (show 0 ≤ I320 0 72 ∧ I320 0 72 ≤ 1000 from (hI320 0 72).1)
                  have f331 := (show 0 ≤ I320 0 73 ∧ I320 0 73 ≤ 1001 from (hI320 0 73).1)
                  have f332 := (show 0 ≤ I320 0 69 ∧ I320 0 69 ≤ 1000 from (hI320 0 69).1)
                  have f333 := (show (-1) ≤ I320 0 6 ∧ I320 0 6 ≤ 7 from (hI320 0 6).1)
                  have f334 := (show 0 ≤ I320 0 59 ∧ I320 0 59 ≤ 2000 from (hI320 0 59).1)
                  refine gv_callV hD rfl (As := []) (st := []) rfl (by decide) rfl rfl (gr_lV hws rfl) (Nat.le_of_ble_eq_true rfl) (gz_Ev_mono (d := 3) (by decide) E319) ?_
                  show gv_X _ _ (198, [(0, .inr (.inr (some 0))), (1, .inl v1_9), (2, .inl v2_40), (3, .inl v3_49)], [.inl z319], gr_sh ++ ext, gr_h I320 J321)
                  refine gv_if_ne (t := 203) hD rfl rfl ⟨by omega, by omega⟩ (fun c335 => ?_) (fun c335 => ?_)
                  · exact L203 I320 J321 hI320 FI320 FJ321 (by omega)
                  · refine gv_run 1 true hD (pc' := 202) (lv' := [(0, .inr (.inr (some 0))), (1, .inl v1_9), (2, .inl v2_40), (3, .inl v3_49)]) (st' := [.inl 0]) (h' := gr_h I320 J321) (C := (True ∧ True)) rfl ⟨trivial, trivial⟩ ?_
                    exact gv_zret hD rfl (by omega) ⟨I320, J321, rfl, hI320, FI320, FJ321, ⟨_, rfl, by omega⟩⟩
              have f336 := (show 0 ≤ I56 0 71 ∧ I56 0 71 ≤ 5 from (hI56 0 71).1)
              refine gv_run 3 true hD (pc' := 144) (lv' := [(0, .inr (.inr (some 0))), (1, .inl v1_9), (2, .inl v2_40), (3, .inl v3_49), (4, .inl v4_58)]) (st' := [.inl 3, .inl (I56 0 71)]) (h' := gr_h I56 J57) (C := (((True ∧ True) ∧ True) ∧ True)) rfl ⟨⟨⟨trivial, trivial⟩, trivial⟩, trivial⟩ ?_
              refine gv_icmp_ne (t := 174) hD rfl rfl ⟨⟨by omega, by omega⟩, ⟨by omega, by omega⟩⟩ (fun c337 => ?_) (fun c337 => ?_)
              · refine gv_pick [0, 1, 2, 3] rfl ?_
                exact L174 (by omega)
              · refine gv_run 2 true hD (pc' := 150) (lv' := [(0, .inr (.inr (some 0))), (1, .inl v1_9), (2, .inl v2_40), (3, .inl v3_49), (4, .inl v4_58)]) (st' := [.inl 3, .inl v4_58]) (h' := gr_h I56 J57) (C := ((True ∧ True) ∧ True)) rfl ⟨⟨trivial, trivial⟩, trivial⟩ ?_
                refine gv_icmp_ge (t := 174) hD rfl rfl ⟨⟨by omega, by omega⟩, ⟨by omega, by omega⟩⟩ (fun c338 => ?_) (fun c338 => ?_)
                · refine gv_pick [0, 1, 2, 3] rfl ?_
                  exact L174 (by omega)
                · refine gv_run 5 true hD (pc' := 163) (lv' := [(4, .inl (v4_58 + 1)), (0, .inr (.inr (some 0))), (1, .inl v1_9), (2, .inl v2_40), (3, .inl v3_49)]) (st' := [.inr (.inr (some 0)), .inl v4_58, .inr (.inr (some 67))]) (h' := gr_h I56 J57) (C := (((((True ∧ True) ∧ True) ∧ True) ∧ True) ∧ True)) rfl ⟨⟨⟨⟨⟨trivial, trivial⟩, trivial⟩, trivial⟩, trivial⟩, trivial⟩ ?_
                  obtain ⟨r339, h339, E339, P339⟩ := r_keeps (ws0 := ws0) (tb := tb) hws htb ext I56 J57 hI56   (by omega) (by omega) (by omega) (by omega)
                  obtain ⟨I340, J341, rfl, hI340, g339, k339, ⟨z339, rfl, q339⟩⟩ := P339
                  have FI340 := gr_frt FI56 g339 rfl rfl
                  have FJ341 := gr_fjt FJ57 k339 rfl rfl
                  have t342 := g339 0 71 rfl
                  have t343 := g339 0 72 rfl
                  have t344 := g339 0 73 rfl
                  have t345 := g339 0 69 rfl
                  have t346 := g339 0 6 rfl
                  have t347 := g339 18 (Int.toNat v1_9) rfl
                  have f348 := (show 0 ≤ I340 0 71 ∧ I340 0 71 ≤ 5 from (hI340 0 71).1)
                  have f349 := (show 0 ≤ I340 0 72 ∧ I340 0 72 ≤ 1000 from (hI340 0 72).1)
                  have f350 := (show 0 ≤ I340 0 73 ∧ I340 0 73 ≤ 1001 from (hI340 0 73).1)
                  have f351 := (show 0 ≤ I340 0 69 ∧ I340 0 69 ≤ 1000 from (hI340 0 69).1)
                  have f352 := (show (-1) ≤ I340 0 6 ∧ I340 0 6 ≤ 7 from (hI340 0 6).1)
                  have f353 := (show 0 ≤ I340 0 59 ∧ I340 0 59 ≤ 2000 from (hI340 0 59).1)
                  refine gv_callV hD rfl (As := []) (st := [.inl v4_58, .inr (.inr (some 67))]) rfl (by decide) rfl rfl (gr_lV hws rfl) (Nat.le_of_ble_eq_true rfl) (gz_Ev_mono (d := 2) (by decide) E339) ?_
                  show gv_X _ _ (166, [(4, .inl (v4_58 + 1)), (0, .inr (.inr (some 0))), (1, .inl v1_9), (2, .inl v2_40), (3, .inl v3_49)], [.inl z339, .inl v4_58, .inr (.inr (some 67))], gr_sh ++ ext, gr_h I340 J341)
                  refine gv_run 1 true hD (pc' := 167) (lv' := [(4, .inl (v4_58 + 1)), (0, .inr (.inr (some 0))), (1, .inl v1_9), (2, .inl v2_40), (3, .inl v3_49)]) (st' := []) (h' := gz_up (gr_h I340 J341) 67 (Int.toNat v4_58) (.inl z339)) (C := (True ∧ (0 ≤ v4_58 ∧ v4_58 < ((3 : Nat) : Int)))) rfl ⟨trivial, ⟨by omega, by omega⟩⟩ ?_
                  refine gr_st hI340 FI340 rfl rfl ⟨⟨by show (-1) ≤ _; omega, by show _ ≤ 32015; omega⟩, trivial⟩ (fun I354 hI354 FI354 q355 p355 => ?_)
                  have t356 := p355 0 71 (fun q => absurd q.1 (by decide))
                  have t357 := p355 0 72 (fun q => absurd q.1 (by decide))
                  have t358 := p355 0 73 (fun q => absurd q.1 (by decide))
                  have t359 := p355 0 69 (fun q => absurd q.1 (by decide))
                  have t360 := p355 0 6 (fun q => absurd q.1 (by decide))
                  have t361 := p355 0 59 (fun q => absurd q.1 (by decide))
                  have t362 := p355 18 (Int.toNat v1_9) (fun q => absurd q.1 (by decide))
                  have f363 := (show 0 ≤ I354 0 71 ∧ I354 0 71 ≤ 5 from (hI354 0 71).1)
                  have f364 := (show 0 ≤ I354 0 72 ∧ I354 0 72 ≤ 1000 from (hI354 0 72).1)
                  have f365 := (show 0 ≤ I354 0 73 ∧ I354 0 73 ≤ 1001 from (hI354 0 73).1)
                  have f366 := (show 0 ≤ I354 0 69 ∧ I354 0 69 ≤ 1000 from (hI354 0 69).1)
                  have f367 := (show (-1) ≤ I354 0 6 ∧ I354 0 6 ≤ 7 from (hI354 0 6).1)
                  have f368 := (show 0 ≤ I354 0 59 ∧ I354 0 59 ≤ 2000 from (hI354 0 59).1)
                  refine gv_run 1 true hD (pc' := 168) (lv' := [(4, .inl (v4_58 + 1)), (0, .inr (.inr (some 0))), (1, .inl v1_9), (2, .inl v2_40), (3, .inl v3_49)]) (st' := [.inr (.inr (some 0))]) (h' := gr_h I354 J341) (C := (True ∧ True)) rfl ⟨trivial, trivial⟩ ?_
                  obtain ⟨r369, h369, E369, P369⟩ := r_next (ws0 := ws0) (tb := tb) hws htb ext I354 J341 hI354   (by omega)
                  obtain ⟨I370, J371, rfl, hI370, g369, k369, ⟨rfl, q369⟩⟩ := P369
                  have FI370 := gr_frt FI354 g369 rfl rfl
                  have FJ371 := gr_fjt FJ341 k369 rfl rfl
                  have t372 := g369 0 69 rfl
                  have t373 := g369 0 6 rfl
                  have t374 := g369 0 59 rfl
                  have t375 := g369 18 (Int.toNat v1_9) rfl
                  have f376 := (show 0 ≤ I370 0 71 ∧ I370 0 71 ≤ 5 from (hI370 0 71).1)
                  have f377 := (show 0 ≤ I370 0 72 ∧ I370 0 72 ≤ 1000 from (hI370 0 72).1)
                  have f378 := (show 0 ≤ I370 0 73 ∧ I370 0 73 ≤ 1001 from (hI370 0 73).1)
                  have f379 := (show 0 ≤ I370 0 69 ∧ I370 0 69 ≤ 1000 from (hI370 0 69).1)
                  have f380 := (show (-1) ≤ I370 0 6 ∧ I370 0 6 ≤ 7 from (hI370 0 6).1)
                  have f381 := (show 0 ≤ I370 0 59 ∧ I370 0 59 ≤ 2000 from (hI370 0 59).1)
                  refine gv_callV hD rfl (As := []) (st := []) rfl (by decide) rfl rfl (gr_lV hws rfl) (Nat.le_of_ble_eq_true rfl) (gz_Ev_mono (d := 10) (by decide) E369) ?_
                  show gv_X _ _ (171, [(4, .inl (v4_58 + 1)), (0, .inr (.inr (some 0))), (1, .inl v1_9), (2, .inl v2_40), (3, .inl v3_49)], [], gr_sh ++ ext, gr_h I370 J371)
                  refine gv_run 1 true hD (pc' := 139) (lv' := [(4, .inl (v4_58 + 1)), (0, .inr (.inr (some 0))), (1, .inl v1_9), (2, .inl v2_40), (3, .inl v3_49)]) (st' := []) (h' := gr_h I370 J371) (C := (True ∧ True)) rfl ⟨trivial, trivial⟩ ?_
                  refine gv_pick [1, 2, 3, 4, 0] rfl ?_
                  exact ih139 I370 J371 (v4_58 + 1) (by omega) hI370 FI370 FJ371 (by omega)
          refine gv_run 2 true hD (pc' := 122) (lv' := [(0, .inr (.inr (some 0))), (1, .inl v1_9), (2, .inl v2_40), (3, .inl v3_49), (4, .inl v4_49), (5, .inl v5_49)]) (st' := [.inl 3, .inl v5_49]) (h' := gr_h I47 J48) (C := ((True ∧ True) ∧ True)) rfl ⟨⟨trivial, trivial⟩, trivial⟩ ?_
          refine gv_icmp_ge (t := 139) hD rfl rfl ⟨⟨by omega, by omega⟩, ⟨by omega, by omega⟩⟩ (fun c382 => ?_) (fun c382 => ?_)
          · refine gv_pick [0, 1, 2, 3, 4] rfl ?_
            exact L139 _ I47 J48 v4_49 (Nat.lt_succ_self _) hI47 FI47 FJ48 (by omega)
          · refine gv_run 4 true hD (pc' := 132) (lv' := [(0, .inr (.inr (some 0))), (1, .inl v1_9), (2, .inl v2_40), (3, .inl v3_49), (4, .inl v4_49), (5, .inl v5_49)]) (st' := [.inl (-1), .inl v5_49, .inr (.inr (some 67))]) (h' := gr_h I47 J48) (C := ((((True ∧ True) ∧ True) ∧ True) ∧ True)) rfl ⟨⟨⟨⟨trivial, trivial⟩, trivial⟩, trivial⟩, trivial⟩ ?_
            refine gv_run 1 true hD (pc' := 133) (lv' := [(0, .inr (.inr (some 0))), (1, .inl v1_9), (2, .inl v2_40), (3, .inl v3_49), (4, .inl v4_49), (5, .inl v5_49)]) (st' := []) (h' := gz_up (gr_h I47 J48) 67 (Int.toNat v5_49) (.inl (-1))) (C := (True ∧ (0 ≤ v5_49 ∧ v5_49 < ((3 : Nat) : Int)))) rfl ⟨trivial, ⟨by omega, by omega⟩⟩ ?_
            refine gr_st hI47 FI47 rfl rfl ⟨⟨by show (-1) ≤ _; omega, by show _ ≤ 32015; omega⟩, trivial⟩ (fun I383 hI383 FI383 q384 p384 => ?_)
            have t385 := p384 0 71 (fun q => absurd q.1 (by decide))
            have t386 := p384 0 72 (fun q => absurd q.1 (by decide))
            have t387 := p384 0 73 (fun q => absurd q.1 (by decide))
            have t388 := p384 0 69 (fun q => absurd q.1 (by decide))
            have t389 := p384 0 6 (fun q => absurd q.1 (by decide))
            have t390 := p384 0 59 (fun q => absurd q.1 (by decide))
            have t391 := p384 18 (Int.toNat v1_9) (fun q => absurd q.1 (by decide))
            have f392 := (show 0 ≤ I383 0 71 ∧ I383 0 71 ≤ 5 from (hI383 0 71).1)
            have f393 := (show 0 ≤ I383 0 72 ∧ I383 0 72 ≤ 1000 from (hI383 0 72).1)
            have f394 := (show 0 ≤ I383 0 73 ∧ I383 0 73 ≤ 1001 from (hI383 0 73).1)
            have f395 := (show 0 ≤ I383 0 69 ∧ I383 0 69 ≤ 1000 from (hI383 0 69).1)
            have f396 := (show (-1) ≤ I383 0 6 ∧ I383 0 6 ≤ 7 from (hI383 0 6).1)
            have f397 := (show 0 ≤ I383 0 59 ∧ I383 0 59 ≤ 2000 from (hI383 0 59).1)
            refine gv_run 2 true hD (pc' := 119) (lv' := [(5, .inl (v5_49 + 1)), (0, .inr (.inr (some 0))), (1, .inl v1_9), (2, .inl v2_40), (3, .inl v3_49), (4, .inl v4_49)]) (st' := []) (h' := gr_h I383 J48) (C := ((True ∧ True) ∧ True)) rfl ⟨⟨trivial, trivial⟩, trivial⟩ ?_
            refine gv_pick [1, 2, 3, 4, 5, 0] rfl ?_
            exact ih119 I383 J48 v3_49 v4_49 (v5_49 + 1) (by omega) hI383 FI383 FJ48 (by omega)
      refine gv_run 7 true hD (pc' := 75) (lv' := [(0, .inr (.inr (some 0))), (1, .inl v1_9), (2, .inl v2_40)]) (st' := [.inr (.inr (some 17)), .inl (24 * v1_9), .inr (.inr (some 23))]) (h' := gr_h I38 J39) (C := (((((((True ∧ True) ∧ True) ∧ True) ∧ True) ∧ True) ∧ True) ∧ True)) rfl ⟨⟨⟨⟨⟨⟨⟨trivial, trivial⟩, trivial⟩, trivial⟩, trivial⟩, trivial⟩, trivial⟩, trivial⟩ ?_
      have f398 := (show 0 ≤ I38 17 (Int.toNat v1_9) ∧ I38 17 (Int.toNat v1_9) ≤ 24 from (hI38 17 (Int.toNat v1_9)).1)
      refine gv_run 2 true hD (pc' := 77) (lv' := [(0, .inr (.inr (some 0))), (1, .inl v1_9), (2, .inl v2_40)]) (st' := [.inl (I38 17 (Int.toNat v1_9)), .inl (24 * v1_9), .inr (.inr (some 23))]) (h' := gr_h I38 J39) (C := ((True ∧ True) ∧ (0 ≤ v1_9 ∧ v1_9 < ((8 : Nat) : Int)))) rfl ⟨⟨trivial, trivial⟩, ⟨by omega, by omega⟩⟩ ?_
      refine gv_run 2 true hD (pc' := 81) (lv' := [(0, .inr (.inr (some 0))), (1, .inl v1_9), (2, .inl v2_40)]) (st' := [.inr (.inl (J39 0 75)), .inl (I38 17 (Int.toNat v1_9)), .inl (24 * v1_9), .inr (.inr (some 23))]) (h' := gr_h I38 J39) (C := ((True ∧ True) ∧ True)) rfl ⟨⟨trivial, trivial⟩, trivial⟩ ?_
      obtain ⟨r399, h399, E399, P399⟩ := r_find_23 (ws0 := ws0) (tb := tb) hws htb ext I38 J39 hI38 (24 * v1_9) ((I38 17 (Int.toNat v1_9))) (J39 0 75) ⟨by omega, by omega⟩ ⟨by omega, by omega⟩ (by omega)
      obtain ⟨rfl, ⟨z399, rfl, q399⟩⟩ := P399
      refine gv_callS hD rfl (As := [.inr (.inr (some 23)), .inl (24 * v1_9), .inl (I38 17 (Int.toNat v1_9)), .inr (.inl (J39 0 75))]) (st := []) rfl (gr_lS hws rfl) (Nat.le_of_ble_eq_true rfl) (gz_Ev_mono (d := 1) (by decide) E399) ?_
      show gv_X _ _ (84, [(0, .inr (.inr (some 0))), (1, .inl v1_9), (2, .inl v2_40)], [.inl z399], gr_sh ++ ext, gr_h I38 J39)
      refine gv_run 2 true hD (pc' := 86) (lv' := [(3, .inl z399), (0, .inr (.inr (some 0))), (1, .inl v1_9), (2, .inl v2_40)]) (st' := [.inl z399]) (h' := gr_h I38 J39) (C := ((True ∧ True) ∧ True)) rfl ⟨⟨trivial, trivial⟩, trivial⟩ ?_
      refine gv_if_ge (t := 95) hD rfl rfl ⟨by omega, by omega⟩ (fun c400 => ?_) (fun c400 => ?_)
      · refine gv_run 1 true hD (pc' := 96) (lv' := [(3, .inl z399), (0, .inr (.inr (some 0))), (1, .inl v1_9), (2, .inl v2_40)]) (st' := [.inr (.inr (some 0))]) (h' := gr_h I38 J39) (C := (True ∧ True)) rfl ⟨trivial, trivial⟩ ?_
        obtain ⟨r401, h401, E401, P401⟩ := r_next (ws0 := ws0) (tb := tb) hws htb ext I38 J39 hI38   (by omega)
        obtain ⟨I402, J403, rfl, hI402, g401, k401, ⟨rfl, q401⟩⟩ := P401
        have FI402 := gr_frt FI38 g401 rfl rfl
        have FJ403 := gr_fjt FJ39 k401 rfl rfl
        have t404 := g401 0 69 rfl
        have t405 := g401 0 6 rfl
        have t406 := g401 0 59 rfl
        have t407 := g401 18 (Int.toNat v1_9) rfl
        have f408 := (show 0 ≤ I402 0 71 ∧ I402 0 71 ≤ 5 from (hI402 0 71).1)
        have f409 := (show 0 ≤ I402 0 72 ∧ I402 0 72 ≤ 1000 from (hI402 0 72).1)
        have f410 := (show 0 ≤ I402 0 73 ∧ I402 0 73 ≤ 1001 from (hI402 0 73).1)
        have f411 := (show 0 ≤ I402 0 69 ∧ I402 0 69 ≤ 1000 from (hI402 0 69).1)
        have f412 := (show (-1) ≤ I402 0 6 ∧ I402 0 6 ≤ 7 from (hI402 0 6).1)
        have f413 := (show 0 ≤ I402 0 59 ∧ I402 0 59 ≤ 2000 from (hI402 0 59).1)
        refine gv_callV hD rfl (As := []) (st := []) rfl (by decide) rfl rfl (gr_lV hws rfl) (Nat.le_of_ble_eq_true rfl) (gz_Ev_mono (d := 10) (by decide) E401) ?_
        show gv_X _ _ (99, [(3, .inl z399), (0, .inr (.inr (some 0))), (1, .inl v1_9), (2, .inl v2_40)], [], gr_sh ++ ext, gr_h I402 J403)
        have f414 := (show 0 ≤ I402 0 71 ∧ I402 0 71 ≤ 5 from (hI402 0 71).1)
        refine gv_run 3 true hD (pc' := 104) (lv' := [(3, .inl z399), (0, .inr (.inr (some 0))), (1, .inl v1_9), (2, .inl v2_40)]) (st' := [.inl 3, .inl (I402 0 71)]) (h' := gr_h I402 J403) (C := (((True ∧ True) ∧ True) ∧ True)) rfl ⟨⟨⟨trivial, trivial⟩, trivial⟩, trivial⟩ ?_
        refine gv_icmp_eq (t := 113) hD rfl rfl ⟨⟨by omega, by omega⟩, ⟨by omega, by omega⟩⟩ (fun c415 => ?_) (fun c415 => ?_)
        · refine gv_run 4 true hD (pc' := 119) (lv' := [(5, .inl 0), (4, .inl 0), (3, .inl z399), (0, .inr (.inr (some 0))), (1, .inl v1_9), (2, .inl v2_40)]) (st' := []) (h' := gr_h I402 J403) (C := ((((True ∧ True) ∧ True) ∧ True) ∧ True)) rfl ⟨⟨⟨⟨trivial, trivial⟩, trivial⟩, trivial⟩, trivial⟩ ?_
          refine gv_pick [3, 4, 5, 2, 1, 0] rfl ?_
          exact L119 _ I402 J403 z399 0 0 (Nat.lt_succ_self _) hI402 FI402 FJ403 (by omega)
        · refine gv_run 2 true hD (pc' := 109) (lv' := [(3, .inl z399), (0, .inr (.inr (some 0))), (1, .inl v1_9), (2, .inl v2_40)]) (st' := [.inl 1, .inr (.inr (some 0))]) (h' := gr_h I402 J403) (C := ((True ∧ True) ∧ True)) rfl ⟨⟨trivial, trivial⟩, trivial⟩ ?_
          obtain ⟨r416, h416, E416, P416⟩ := r_no_ (ws0 := ws0) (tb := tb) hws htb ext I402 J403 hI402 1 ⟨by omega, by omega⟩ 
          obtain ⟨I417, J418, rfl, hI417, g416, k416, ⟨z416, rfl, q416⟩⟩ := P416
          have FI417 := gr_frt FI402 g416 rfl rfl
          have FJ418 := gr_fjt FJ403 k416 rfl rfl
          have t419 := g416 0 71 rfl
          have t420 := g416 0 72 rfl
          have t421 := g416 0 73 rfl
          have t422 := g416 0 69 rfl
          have t423 := g416 0 6 rfl
          have t424 := g416 0 59 rfl
          have t425 := g416 18 (Int.toNat v1_9) rfl
          have f426 := (show 0 ≤ I417 0 71 ∧ I417 0 71 ≤ 5 from (hI417 0 71).1)
          have f427 := (show 0 ≤ I417 0 72 ∧ I417 0 72 ≤ 1000 from (hI417 0 72).1)
          have f428 := (show 0 ≤ I417 0 73 ∧ I417 0 73 ≤ 1001 from (hI417 0 73).1)
          have f429 := (show 0 ≤ I417 0 69 ∧ I417 0 69 ≤ 1000 from (hI417 0 69).1)
          have f430 := (show (-1) ≤ I417 0 6 ∧ I417 0 6 ≤ 7 from (hI417 0 6).1)
          have f431 := (show 0 ≤ I417 0 59 ∧ I417 0 59 ≤ 2000 from (hI417 0 59).1)
          refine gv_callV hD rfl (As := [.inl 1]) (st := []) rfl (by decide) rfl rfl (gr_lV hws rfl) (Nat.le_of_ble_eq_true rfl) (gz_Ev_mono (d := 2) (by decide) E416) ?_
          show gv_X _ _ (112, [(3, .inl z399), (0, .inr (.inr (some 0))), (1, .inl v1_9), (2, .inl v2_40)], [.inl z416], gr_sh ++ ext, gr_h I417 J418)
          exact gv_zret hD rfl (by omega) ⟨I417, J418, rfl, hI417, FI417, FJ418, ⟨_, rfl, by omega⟩⟩
      · refine gv_run 2 true hD (pc' := 91) (lv' := [(3, .inl z399), (0, .inr (.inr (some 0))), (1, .inl v1_9), (2, .inl v2_40)]) (st' := [.inl 5, .inr (.inr (some 0))]) (h' := gr_h I38 J39) (C := ((True ∧ True) ∧ True)) rfl ⟨⟨trivial, trivial⟩, trivial⟩ ?_
        obtain ⟨r432, h432, E432, P432⟩ := r_no_ (ws0 := ws0) (tb := tb) hws htb ext I38 J39 hI38 5 ⟨by omega, by omega⟩ 
        obtain ⟨I433, J434, rfl, hI433, g432, k432, ⟨z432, rfl, q432⟩⟩ := P432
        have FI433 := gr_frt FI38 g432 rfl rfl
        have FJ434 := gr_fjt FJ39 k432 rfl rfl
        have t435 := g432 0 71 rfl
        have t436 := g432 0 72 rfl
        have t437 := g432 0 73 rfl
        have t438 := g432 0 69 rfl
        have t439 := g432 0 6 rfl
        have t440 := g432 0 59 rfl
        have t441 := g432 18 (Int.toNat v1_9) rfl
        have f442 := (show 0 ≤ I433 0 71 ∧ I433 0 71 ≤ 5 from (hI433 0 71).1)
        have f443 := (show 0 ≤ I433 0 72 ∧ I433 0 72 ≤ 1000 from (hI433 0 72).1)
        have f444 := (show 0 ≤ I433 0 73 ∧ I433 0 73 ≤ 1001 from (hI433 0 73).1)
        have f445 := (show 0 ≤ I433 0 69 ∧ I433 0 69 ≤ 1000 from (hI433 0 69).1)
        have f446 := (show (-1) ≤ I433 0 6 ∧ I433 0 6 ≤ 7 from (hI433 0 6).1)
        have f447 := (show 0 ≤ I433 0 59 ∧ I433 0 59 ≤ 2000 from (hI433 0 59).1)
        refine gv_callV hD rfl (As := [.inl 5]) (st := []) rfl (by decide) rfl rfl (gr_lV hws rfl) (Nat.le_of_ble_eq_true rfl) (gz_Ev_mono (d := 2) (by decide) E432) ?_
        show gv_X _ _ (94, [(3, .inl z399), (0, .inr (.inr (some 0))), (1, .inl v1_9), (2, .inl v2_40)], [.inl z432], gr_sh ++ ext, gr_h I433 J434)
        exact gv_zret hD rfl (by omega) ⟨I433, J434, rfl, hI433, FI433, FJ434, ⟨_, rfl, by omega⟩⟩
    have f448 := (show 0 ≤ I7 0 3 ∧ I7 0 3 ≤ 96 from (hI7 0 3).1)
    refine gv_run 7 true hD (pc' := 27) (lv' := [(0, .inr (.inr (some 0))), (1, .inl v1_9)]) (st' := [.inr (.inl (J8 0 75)), .inl (I7 0 3), .inl 0, .inr (.inr (some 3))]) (h' := gr_h I7 J8) (C := (((((((True ∧ True) ∧ True) ∧ True) ∧ True) ∧ True) ∧ True) ∧ True)) rfl ⟨⟨⟨⟨⟨⟨⟨trivial, trivial⟩, trivial⟩, trivial⟩, trivial⟩, trivial⟩, trivial⟩, trivial⟩ ?_
    obtain ⟨r449, h449, E449, P449⟩ := r_find_3 (ws0 := ws0) (tb := tb) hws htb ext I7 J8 hI7 0 (I7 0 3) (J8 0 75) ⟨by omega, by omega⟩ ⟨by omega, by omega⟩ (by omega)
    obtain ⟨rfl, ⟨z449, rfl, q449⟩⟩ := P449
    refine gv_callS hD rfl (As := [.inr (.inr (some 3)), .inl 0, .inl (I7 0 3), .inr (.inl (J8 0 75))]) (st := []) rfl (gr_lS hws rfl) (Nat.le_of_ble_eq_true rfl) (gz_Ev_mono (d := 1) (by decide) E449) ?_
    show gv_X _ _ (30, [(0, .inr (.inr (some 0))), (1, .inl v1_9)], [.inl z449], gr_sh ++ ext, gr_h I7 J8)
    refine gv_run 2 true hD (pc' := 32) (lv' := [(2, .inl z449), (0, .inr (.inr (some 0))), (1, .inl v1_9)]) (st' := [.inl z449]) (h' := gr_h I7 J8) (C := ((True ∧ True) ∧ True)) rfl ⟨⟨trivial, trivial⟩, trivial⟩ ?_
    refine gv_if_lt (t := 44) hD rfl rfl ⟨by omega, by omega⟩ (fun c450 => ?_) (fun c450 => ?_)
    · refine gv_pick [1] rfl ?_
      exact L44 (by omega)
    · have f451 := (show 0 ≤ I7 6 (Int.toNat z449) ∧ I7 6 (Int.toNat z449) ≤ 4 from (hI7 6 (Int.toNat z449)).1)
      refine gv_run 4 true hD (pc' := 41) (lv' := [(2, .inl z449), (0, .inr (.inr (some 0))), (1, .inl v1_9)]) (st' := [.inl (I7 6 (Int.toNat z449))]) (h' := gr_h I7 J8) (C := ((((True ∧ True) ∧ True) ∧ True) ∧ (0 ≤ z449 ∧ z449 < ((96 : Nat) : Int)))) rfl ⟨⟨⟨⟨trivial, trivial⟩, trivial⟩, trivial⟩, ⟨by omega, by omega⟩⟩ ?_
      refine gv_if_le (t := 50) hD rfl rfl ⟨by omega, by omega⟩ (fun c452 => ?_) (fun c452 => ?_)
      · refine gv_run 1 true hD (pc' := 51) (lv' := [(2, .inl z449), (0, .inr (.inr (some 0))), (1, .inl v1_9)]) (st' := [.inr (.inr (some 0))]) (h' := gr_h I7 J8) (C := (True ∧ True)) rfl ⟨trivial, trivial⟩ ?_
        obtain ⟨r453, h453, E453, P453⟩ := r_next (ws0 := ws0) (tb := tb) hws htb ext I7 J8 hI7   (by omega)
        obtain ⟨I454, J455, rfl, hI454, g453, k453, ⟨rfl, q453⟩⟩ := P453
        have FI454 := gr_frt FI7 g453 rfl rfl
        have FJ455 := gr_fjt FJ8 k453 rfl rfl
        have t456 := g453 0 69 rfl
        have t457 := g453 0 6 rfl
        have t458 := g453 0 59 rfl
        have t459 := g453 18 (Int.toNat v1_9) rfl
        have f460 := (show 0 ≤ I454 0 71 ∧ I454 0 71 ≤ 5 from (hI454 0 71).1)
        have f461 := (show 0 ≤ I454 0 72 ∧ I454 0 72 ≤ 1000 from (hI454 0 72).1)
        have f462 := (show 0 ≤ I454 0 73 ∧ I454 0 73 ≤ 1001 from (hI454 0 73).1)
        have f463 := (show 0 ≤ I454 0 69 ∧ I454 0 69 ≤ 1000 from (hI454 0 69).1)
        have f464 := (show (-1) ≤ I454 0 6 ∧ I454 0 6 ≤ 7 from (hI454 0 6).1)
        have f465 := (show 0 ≤ I454 0 59 ∧ I454 0 59 ≤ 2000 from (hI454 0 59).1)
        refine gv_callV hD rfl (As := []) (st := []) rfl (by decide) rfl rfl (gr_lV hws rfl) (Nat.le_of_ble_eq_true rfl) (gz_Ev_mono (d := 10) (by decide) E453) ?_
        show gv_X _ _ (54, [(2, .inl z449), (0, .inr (.inr (some 0))), (1, .inl v1_9)], [], gr_sh ++ ext, gr_h I454 J455)
        refine gv_run 1 true hD (pc' := 55) (lv' := [(2, .inl z449), (0, .inr (.inr (some 0))), (1, .inl v1_9)]) (st' := [.inr (.inr (some 0))]) (h' := gr_h I454 J455) (C := (True ∧ True)) rfl ⟨trivial, trivial⟩ ?_
        obtain ⟨r466, h466, E466, P466⟩ := r_name (ws0 := ws0) (tb := tb) hws htb ext I454 J455 hI454   
        obtain ⟨I467, J468, rfl, hI467, g466, k466, ⟨z466, rfl, q466⟩⟩ := P466
        have FI467 := gr_frt FI454 g466 rfl rfl
        have FJ468 := gr_fjt FJ455 k466 rfl rfl
        have t469 := g466 0 71 rfl
        have t470 := g466 0 72 rfl
        have t471 := g466 0 73 rfl
        have t472 := g466 0 69 rfl
        have t473 := g466 0 6 rfl
        have t474 := g466 0 59 rfl
        have t475 := g466 18 (Int.toNat v1_9) rfl
        have f476 := (show 0 ≤ I467 0 71 ∧ I467 0 71 ≤ 5 from (hI467 0 71).1)
        have f477 := (show 0 ≤ I467 0 72 ∧ I467 0 72 ≤ 1000 from (hI467 0 72).1)
        have f478 := (show 0 ≤ I467 0 73 ∧ I467 0 73 ≤ 1001 from (hI467 0 73).1)
        have f479 := (show 0 ≤ I467 0 69 ∧ I467 0 69 ≤ 1000 from (hI467 0 69).1)
        have f480 := (show (-1) ≤ I467 0 6 ∧ I467 0 6 ≤ 7 from (hI467 0 6).1)
        have f481 := (show 0 ≤ I467 0 59 ∧ I467 0 59 ≤ 2000 from (hI467 0 59).1)
        refine gv_callV hD rfl (As := []) (st := []) rfl (by decide) rfl rfl (gr_lV hws rfl) (Nat.le_of_ble_eq_true rfl) (gz_Ev_mono (d := 3) (by decide) E466) ?_
        show gv_X _ _ (58, [(2, .inl z449), (0, .inr (.inr (some 0))), (1, .inl v1_9)], [.inl z466], gr_sh ++ ext, gr_h I467 J468)
        refine gv_if_ne (t := 63) hD rfl rfl ⟨by omega, by omega⟩ (fun c482 => ?_) (fun c482 => ?_)
        · refine gv_pick [1, 2, 0] rfl ?_
          exact L63 I467 J468 z449 hI467 FI467 FJ468 (by omega)
        · refine gv_run 1 true hD (pc' := 62) (lv' := [(2, .inl z449), (0, .inr (.inr (some 0))), (1, .inl v1_9)]) (st' := [.inl 0]) (h' := gr_h I467 J468) (C := (True ∧ True)) rfl ⟨trivial, trivial⟩ ?_
          exact gv_zret hD rfl (by omega) ⟨I467, J468, rfl, hI467, FI467, FJ468, ⟨_, rfl, by omega⟩⟩
      · refine gv_pick [1] rfl ?_
        exact L44 (by omega)
  have f483 := (show (-1) ≤ I 0 6 ∧ I 0 6 ≤ 7 from (hI 0 6).1)
  refine gv_run 4 true hD (pc' := 6) (lv' := [(1, .inl (I 0 6)), (0, .inr (.inr (some 0)))]) (st' := [.inr (.inr (some 0))]) (h' := gr_h I J) (C := ((((True ∧ True) ∧ True) ∧ True) ∧ True)) rfl ⟨⟨⟨⟨trivial, trivial⟩, trivial⟩, trivial⟩, trivial⟩ ?_
  obtain ⟨r484, h484, E484, P484⟩ := r_name (ws0 := ws0) (tb := tb) hws htb ext I J hI   
  obtain ⟨I485, J486, rfl, hI485, g484, k484, ⟨z484, rfl, q484⟩⟩ := P484
  have FI485 := gr_frt FI g484 rfl rfl
  have FJ486 := gr_fjt FJ k484 rfl rfl
  have t487 := g484 0 71 rfl
  have t488 := g484 0 72 rfl
  have t489 := g484 0 73 rfl
  have t490 := g484 0 69 rfl
  have t491 := g484 0 6 rfl
  have t492 := g484 0 59 rfl
  have t493 := g484 18 (Int.toNat ((I 0 6))) rfl
  have f494 := (show 0 ≤ I485 0 71 ∧ I485 0 71 ≤ 5 from (hI485 0 71).1)
  have f495 := (show 0 ≤ I485 0 72 ∧ I485 0 72 ≤ 1000 from (hI485 0 72).1)
  have f496 := (show 0 ≤ I485 0 73 ∧ I485 0 73 ≤ 1001 from (hI485 0 73).1)
  have f497 := (show 0 ≤ I485 0 69 ∧ I485 0 69 ≤ 1000 from (hI485 0 69).1)
  have f498 := (show (-1) ≤ I485 0 6 ∧ I485 0 6 ≤ 7 from (hI485 0 6).1)
  have f499 := (show 0 ≤ I485 0 59 ∧ I485 0 59 ≤ 2000 from (hI485 0 59).1)
  refine gv_callV hD rfl (As := []) (st := []) rfl (by decide) rfl rfl (gr_lV hws rfl) (Nat.le_of_ble_eq_true rfl) (gz_Ev_mono (d := 3) (by decide) E484) ?_
  show gv_X _ _ (9, [(1, .inl (I 0 6)), (0, .inr (.inr (some 0)))], [.inl z484], gr_sh ++ ext, gr_h I485 J486)
  refine gv_if_ne (t := 14) hD rfl rfl ⟨by omega, by omega⟩ (fun c500 => ?_) (fun c500 => ?_)
  · refine gv_pick [1, 0] rfl ?_
    exact L14 I485 J486 (I 0 6) hI485 FI485 FJ486 (by omega)
  · refine gv_run 1 true hD (pc' := 13) (lv' := [(1, .inl (I 0 6)), (0, .inr (.inr (some 0)))]) (st' := [.inl 0]) (h' := gr_h I485 J486) (C := (True ∧ True)) rfl ⟨trivial, trivial⟩ ?_
    exact gv_zret hD rfl (by omega) ⟨I485, J486, rfl, hI485, FI485, FJ486, ⟨_, rfl, by omega⟩⟩
