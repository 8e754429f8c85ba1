set_option maxHeartbeats 4000000 in
set_option maxRecDepth 100000 in
theorem r_feature {ws0 : List Cond} {tb : String → gz_T} (hws : ∀ w ∈ gr_ws, w ∈ ws0) (htb : tb RX13 = gr_T) (ext : gz_Sh) (I : gr_I) (J : gr_J) (hI : gr_Inv I)   (x0 : I 0 71 = 5 ∨ I 0 73 ≤ I 0 69) (x1 : I 0 72 ≤ I 0 69) (x2 : I 0 71 = 0 ∨ (I 0 72 < I 0 73 ∧ I 0 72 < I 0 69)) (x3 : I 0 71 = 3 → 2 ≤ I 0 73 - I 0 72 ∧ I 0 73 - I 0 72 ≤ 14) (x4 : I 0 72 ≤ I 0 73) (x5 : 0 ≤ I 0 6) (KVF_I : gr_VF I) : ∃ r h', gz_Ev ws0 tb 12 (yX13_feature, cX13_feature, 9, (some .boolean)) [.inr (.inr (some 0))] (gr_sh ++ ext) (gr_h I J) r (gr_sh ++ ext) h' 0 0 ∧ (∃ (I' : gr_I) (J' : gr_J), h' = gr_h I' J' ∧ gr_Inv I' ∧ gr_fr [71, 72, 73, 74, 75, 76, 77] [13, 14, 20, 21, 24, 25, 62] I I' ∧ gr_fj [71, 72, 73, 74, 75, 76, 77] [13, 14, 20, 21, 24, 25, 62] J J' ∧ gr_VF I' ∧ (∃ z : Int, r = some (.inl z) ∧ 0 ≤ z ∧ z ≤ 1 ∧ (I' 0 71 = 5 ∨ I' 0 73 ≤ I' 0 69) ∧ (I' 0 72 ≤ I' 0 69) ∧ (I' 0 71 = 0 ∨ (I' 0 72 < I' 0 73 ∧ I' 0 72 < I' 0 69)) ∧ (I' 0 71 = 3 → 2 ≤ I' 0 73 - I' 0 72 ∧ I' 0 73 - I' 0 72 ≤ 14) ∧ (I' 0 72 ≤ I' 0 73) ∧ (I' 0 69 = I 0 69) ∧ (I 0 73 ≤ I' 0 73) ∧ (I 0 72 ≤ I' 0 72))) := by
  have FI : gr_fr [71, 72, 73, 74, 75, 76, 77] [13, 14, 20, 21, 24, 25, 62] I I := fun _ _ _ => rfl
  have FJ : gr_fj [71, 72, 73, 74, 75, 76, 77] [13, 14, 20, 21, 24, 25, 62] J J := fun _ _ _ => rfl
  have hD : gv_D (gr_E ws0 tb 11 (yX13_feature, cX13_feature, 9, (some .boolean)) kX13_feature) := gq_ok oX13_feature
  refine gr_ev (d := 11) (l := kX13_feature) (Po := fun r h' => (∃ (I' : gr_I) (J' : gr_J), h' = gr_h I' J' ∧ gr_Inv I' ∧ gr_fr [71, 72, 73, 74, 75, 76, 77] [13, 14, 20, 21, 24, 25, 62] I I' ∧ gr_fj [71, 72, 73, 74, 75, 76, 77] [13, 14, 20, 21, 24, 25, 62] J J' ∧ gr_VF I' ∧ (∃ z : Int, r = some (.inl z) ∧ 0 ≤ z ∧ z ≤ 1 ∧ (I' 0 71 = 5 ∨ I' 0 73 ≤ I' 0 69) ∧ (I' 0 72 ≤ I' 0 69) ∧ (I' 0 71 = 0 ∨ (I' 0 72 < I' 0 73 ∧ I' 0 72 < I' 0 69)) ∧ (I' 0 71 = 3 → 2 ≤ I' 0 73 - I' 0 72 ∧ I' 0 73 - I' 0 72 ≤ 14) ∧ (I' 0 72 ≤ I' 0 73) ∧ (I' 0 69 = I 0 69) ∧ (I 0 73 ≤ I' 0 73) ∧ (I 0 72 ≤ I' 0 72)))) htb rfl (Nat.le_of_ble_eq_true rfl) ?_
  have f1 := (show 0 ≤ I 0 71 ∧ I 0 71 ≤ 5 from (hI 0 71).1)
  have f2 := (show 0 ≤ I 0 72 ∧ I 0 72 ≤ 1000 from (hI 0 72).1)
  have f3 := (show 0 ≤ I 0 73 ∧ I 0 73 ≤ 1001 from (hI 0 73).1)
  have f4 := (show 0 ≤ I 0 69 ∧ I 0 69 ≤ 1000 from (hI 0 69).1)
  have f5 := (show (-1) ≤ I 0 6 ∧ I 0 6 ≤ 7 from (hI 0 6).1)
  have L14 : ∀ (I6 : gr_I) (J7 : gr_J) (v1_8 : Int), gr_Inv I6 → gr_fr [71, 72, 73, 74, 75, 76, 77] [13, 14, 20, 21, 24, 25, 62] I I6 → gr_fj [71, 72, 73, 74, 75, 76, 77] [13, 14, 20, 21, 24, 25, 62] J J7 → gr_VF I6 → ((0 ≤ v1_8 ∧ v1_8 ≤ 7) ∧ (I6 0 71 = 1) ∧ (I6 0 71 = 5 ∨ I6 0 73 ≤ I6 0 69) ∧ (I6 0 72 ≤ I6 0 69) ∧ (I6 0 71 = 0 ∨ (I6 0 72 < I6 0 73 ∧ I6 0 72 < I6 0 69)) ∧ (I6 0 71 = 3 → 2 ≤ I6 0 73 - I6 0 72 ∧ I6 0 73 - I6 0 72 ≤ 14) ∧ (I6 0 72 ≤ I6 0 73) ∧ (I6 0 69 = I 0 69) ∧ (I 0 73 ≤ I6 0 73) ∧ (I 0 72 ≤ I6 0 72) ∧ (I6 0 6 = I 0 6)) → gv_X (gr_E ws0 tb 11 (yX13_feature, cX13_feature, 9, (some .boolean)) kX13_feature) (gv_Q cX13_feature (some .boolean) (gr_sh ++ ext) (fun r h' => (∃ (I' : gr_I) (J' : gr_J), h' = gr_h I' J' ∧ gr_Inv I' ∧ gr_fr [71, 72, 73, 74, 75, 76, 77] [13, 14, 20, 21, 24, 25, 62] I I' ∧ gr_fj [71, 72, 73, 74, 75, 76, 77] [13, 14, 20, 21, 24, 25, 62] J J' ∧ gr_VF I' ∧ (∃ z : Int, r = some (.inl z) ∧ 0 ≤ z ∧ z ≤ 1 ∧ (I' 0 71 = 5 ∨ I' 0 73 ≤ I' 0 69) ∧ (I' 0 72 ≤ I' 0 69) ∧ (I' 0 71 = 0 ∨ (I' 0 72 < I' 0 73 ∧ I' 0 72 < I' 0 69)) ∧ (I' 0 71 = 3 → 2 ≤ I' 0 73 - I' 0 72 ∧ I' 0 73 - I' 0 72 ≤ 14) ∧ (I' 0 72 ≤ I' 0 73) ∧ (I' 0 69 = I 0 69) ∧ (I 0 73 ≤ I' 0 73) ∧ (I 0 72 ≤ I' 0 72))))) (14, [(0, .inr (.inr (some 0))), (1, .inl v1_8)], [], gr_sh ++ ext, gr_h I6 J7) := by
    intro I6 J7 v1_8 hI6 FI6 FJ7 KVF_I6 m_8
    obtain ⟨hv1_8, e0_8, e1_8, e2_8, e3_8, e4_8, e5_8, e6_8, e7_8, e8_8, e9_8⟩ := m_8
    have f9 := (show 0 ≤ I6 0 71 ∧ I6 0 71 ≤ 5 from (hI6 0 71).1)
    have f10 := (show 0 ≤ I6 0 72 ∧ I6 0 72 ≤ 1000 from (hI6 0 72).1)
    have f11 := (show 0 ≤ I6 0 73 ∧ I6 0 73 ≤ 1001 from (hI6 0 73).1)
    have f12 := (show 0 ≤ I6 0 69 ∧ I6 0 69 ≤ 1000 from (hI6 0 69).1)
    have f13 := (show (-1) ≤ I6 0 6 ∧ I6 0 6 ≤ 7 from (hI6 0 6).1)
    have L66 : ∀ (I14 : gr_I) (J15 : gr_J) , gr_Inv I14 → gr_fr [71, 72, 73, 74, 75, 76, 77] [13, 14, 20, 21, 24, 25, 62] I I14 → gr_fj [71, 72, 73, 74, 75, 76, 77] [13, 14, 20, 21, 24, 25, 62] J J15 → gr_VF I14 → ((I14 0 71 = 5 ∨ I14 0 73 ≤ I14 0 69) ∧ (I14 0 72 ≤ I14 0 69) ∧ (I14 0 71 = 0 ∨ (I14 0 72 < I14 0 73 ∧ I14 0 72 < I14 0 69)) ∧ (I14 0 71 = 3 → 2 ≤ I14 0 73 - I14 0 72 ∧ I14 0 73 - I14 0 72 ≤ 14) ∧ (I14 0 72 ≤ I14 0 73) ∧ (I14 0 69 = I 0 69) ∧ (I 0 73 ≤ I14 0 73) ∧ (I 0 72 ≤ I14 0 72) ∧ (I14 0 6 = I 0 6)) → gv_X (gr_E ws0 tb 11 (yX13_feature, cX13_feature, 9, (some .boolean)) kX13_feature) (gv_Q cX13_feature (some .boolean) (gr_sh ++ ext) (fun r h' => (∃ (I' : gr_I) (J' : gr_J), h' = gr_h I' J' ∧ gr_Inv I' ∧ gr_fr [71, 72, 73, 74, 75, 76, 77] [13, 14, 20, 21, 24, 25, 62] I I' ∧ gr_fj [71, 72, 73, 74, 75, 76, 77] [13, 14, 20, 21, 24, 25, 62] J J' ∧ gr_VF I' ∧ (∃ z : Int, r = some (.inl z) ∧ 0 ≤ z ∧ z ≤ 1 ∧ (I' 0 71 = 5 ∨ I' 0 73 ≤ I' 0 69) ∧ (I' 0 72 ≤ I' 0 69) ∧ (I' 0 71 = 0 ∨ (I' 0 72 < I' 0 73 ∧ I' 0 72 < I' 0 69)) ∧ (I' 0 71 = 3 → 2 ≤ I' 0 73 - I' 0 72 ∧ I' 0 73 - I' 0 72 ≤ 14) ∧ (I' 0 72 ≤ I' 0 73) ∧ (I' 0 69 = I 0 69) ∧ (I 0 73 ≤ I' 0 73) ∧ (I 0 72 ≤ I' 0 72))))) (66, [], [], gr_sh ++ ext, gr_h I14 J15) := by
      intro I14 J15 hI14 FI14 FJ15 KVF_I14 m_16
      obtain ⟨e0_16, e1_16, e2_16, e3_16, e4_16, e5_16, e6_16, e7_16, e8_16⟩ := m_16
      have f17 := (show 0 ≤ I14 0 71 ∧ I14 0 71 ≤ 5 from (hI14 0 71).1)
      have f18 := (show 0 ≤ I14 0 72 ∧ I14 0 72 ≤ 1000 from (hI14 0 72).1)
      have f19 := (show 0 ≤ I14 0 73 ∧ I14 0 73 ≤ 1001 from (hI14 0 73).1)
      have f20 := (show 0 ≤ I14 0 69 ∧ I14 0 69 ≤ 1000 from (hI14 0 69).1)
      have f21 := (show (-1) ≤ I14 0 6 ∧ I14 0 6 ≤ 7 from (hI14 0 6).1)
      refine gv_run 1 true hD (pc' := 67) (lv' := []) (st' := [.inl 0]) (h' := gr_h I14 J15) (C := (True ∧ True)) rfl ⟨trivial, trivial⟩ ?_
      exact gv_zret hD rfl (by omega) ⟨I14, J15, rfl, hI14, FI14, FJ15, KVF_I14, ⟨_, rfl, by omega⟩⟩
    have L59 : ∀ (I22 : gr_I) (J23 : gr_J) (v2_24 : Int64), gr_Inv I22 → gr_fr [71, 72, 73, 74, 75, 76, 77] [13, 14, 20, 21, 24, 25, 62] I I22 → gr_fj [71, 72, 73, 74, 75, 76, 77] [13, 14, 20, 21, 24, 25, 62] J J23 → gr_VF I22 → ((0 ≤ v1_8 ∧ v1_8 ≤ 7) ∧ (I22 0 71 = 5 ∨ I22 0 73 ≤ I22 0 69) ∧ (I22 0 72 ≤ I22 0 69) ∧ (I22 0 71 = 0 ∨ (I22 0 72 < I22 0 73 ∧ I22 0 72 < I22 0 69)) ∧ (I22 0 71 = 3 → 2 ≤ I22 0 73 - I22 0 72 ∧ I22 0 73 - I22 0 72 ≤ 14) ∧ (I22 0 72 ≤ I22 0 73) ∧ (I22 0 69 = I 0 69) ∧ (I 0 73 ≤ I22 0 73) ∧ (I 0 72 ≤ I22 0 72) ∧ (I22 0 6 = I 0 6)) → gv_X (gr_E ws0 tb 11 (yX13_feature, cX13_feature, 9, (some .boolean)) kX13_feature) (gv_Q cX13_feature (some .boolean) (gr_sh ++ ext) (fun r h' => (∃ (I' : gr_I) (J' : gr_J), h' = gr_h I' J' ∧ gr_Inv I' ∧ gr_fr [71, 72, 73, 74, 75, 76, 77] [13, 14, 20, 21, 24, 25, 62] I I' ∧ gr_fj [71, 72, 73, 74, 75, 76, 77] [13, 14, 20, 21, 24, 25, 62] J J' ∧ gr_VF I' ∧ (∃ z : Int, r = some (.inl z) ∧ 0 ≤ z ∧ z ≤ 1 ∧ (I' 0 71 = 5 ∨ I' 0 73 ≤ I' 0 69) ∧ (I' 0 72 ≤ I' 0 69) ∧ (I' 0 71 = 0 ∨ (I' 0 72 < I' 0 73 ∧ I' 0 72 < I' 0 69)) ∧ (I' 0 71 = 3 → 2 ≤ I' 0 73 - I' 0 72 ∧ I' 0 73 - I' 0 72 ≤ 14) ∧ (I' 0 72 ≤ I' 0 73) ∧ (I' 0 69 = I 0 69) ∧ (I 0 73 ≤ I' 0 73) ∧ (I 0 72 ≤ I' 0 72))))) (59, [(0, .inr (.inr (some 0))), (1, .inl v1_8), (2, .inr (.inl v2_24))], [], gr_sh ++ ext, gr_h I22 J23) := by
      intro I22 J23 v2_24 hI22 FI22 FJ23 KVF_I22 m_24
      obtain ⟨hv1_8_24, e0_24, e1_24, e2_24, e3_24, e4_24, e5_24, e6_24, e7_24, e8_24⟩ := m_24
      have f25 := (show 0 ≤ I22 0 71 ∧ I22 0 71 ≤ 5 from (hI22 0 71).1)
      have f26 := (show 0 ≤ I22 0 72 ∧ I22 0 72 ≤ 1000 from (hI22 0 72).1)
      have f27 := (show 0 ≤ I22 0 73 ∧ I22 0 73 ≤ 1001 from (hI22 0 73).1)
      have f28 := (show 0 ≤ I22 0 69 ∧ I22 0 69 ≤ 1000 from (hI22 0 69).1)
      have f29 := (show (-1) ≤ I22 0 6 ∧ I22 0 6 ≤ 7 from (hI22 0 6).1)
      have L68 : ∀ (I30 : gr_I) (J31 : gr_J) , gr_Inv I30 → gr_fr [71, 72, 73, 74, 75, 76, 77] [13, 14, 20, 21, 24, 25, 62] I I30 → gr_fj [71, 72, 73, 74, 75, 76, 77] [13, 14, 20, 21, 24, 25, 62] J J31 → gr_VF I30 → ((0 ≤ v1_8 ∧ v1_8 ≤ 7) ∧ (I30 0 71 = 1) ∧ (I30 0 71 = 5 ∨ I30 0 73 ≤ I30 0 69) ∧ (I30 0 72 ≤ I30 0 69) ∧ (I30 0 71 = 0 ∨ (I30 0 72 < I30 0 73 ∧ I30 0 72 < I30 0 69)) ∧ (I30 0 71 = 3 → 2 ≤ I30 0 73 - I30 0 72 ∧ I30 0 73 - I30 0 72 ≤ 14) ∧ (I30 0 72 ≤ I30 0 73) ∧ (I30 0 69 = I 0 69) ∧ (I 0 73 ≤ I30 0 73) ∧ (I 0 72 ≤ I30 0 72) ∧ (I30 0 6 = I 0 6)) → gv_X (gr_E ws0 tb 11 (yX13_feature, cX13_feature, 9, (some .boolean)) kX13_feature) (gv_Q cX13_feature (some .boolean) (gr_sh ++ ext) (fun r h' => (∃ (I' : gr_I) (J' : gr_J), h' = gr_h I' J' ∧ gr_Inv I' ∧ gr_fr [71, 72, 73, 74, 75, 76, 77] [13, 14, 20, 21, 24, 25, 62] I I' ∧ gr_fj [71, 72, 73, 74, 75, 76, 77] [13, 14, 20, 21, 24, 25, 62] J J' ∧ gr_VF I' ∧ (∃ z : Int, r = some (.inl z) ∧ 0 ≤ z ∧ z ≤ 1 ∧ (I' 0 71 = 5 ∨ I' 0 73 ≤ I' 0 69) ∧ (I' 0 72 ≤ I' 0 69) ∧ (I' 0 71 = 0 ∨ (I' 0 72 < I' 0 73 ∧ I' 0 72 < I' 0 69)) ∧ (I' 0 71 = 3 → 2 ≤ I' 0 73 - I' 0 72 ∧ I' 0 73 - I' 0 72 ≤ 14) ∧ (I' 0 72 ≤ I' 0 73) ∧ (I' 0 69 = I 0 69) ∧ (I 0 73 ≤ I' 0 73) ∧ (I 0 72 ≤ I' 0 72))))) (68, [(0, .inr (.inr (some 0))), (1, .inl v1_8), (2, .inr (.inl v2_24))], [], gr_sh ++ ext, gr_h I30 J31) := by
        intro I30 J31 hI30 FI30 FJ31 KVF_I30 m_32
        obtain ⟨hv1_8_32, e0_32, e1_32, e2_32, e3_32, e4_32, e5_32, e6_32, e7_32, e8_32, e9_32⟩ := m_32
        have f33 := (show 0 ≤ I30 0 71 ∧ I30 0 71 ≤ 5 from (hI30 0 71).1)
        have f34 := (show 0 ≤ I30 0 72 ∧ I30 0 72 ≤ 1000 from (hI30 0 72).1)
        have f35 := (show 0 ≤ I30 0 73 ∧ I30 0 73 ≤ 1001 from (hI30 0 73).1)
        have f36 := (show 0 ≤ I30 0 69 ∧ I30 0 69 ≤ 1000 from (hI30 0 69).1)
        have f37 := (show (-1) ≤ I30 0 6 ∧ I30 0 6 ≤ 7 from (hI30 0 6).1)
        have L77 : ∀ (n : Nat) (I38 : gr_I) (J39 : gr_J) (v4_40 : Int) (v5_40 : Int), (1001 - I38 0 72).toNat < n → gr_Inv I38 → gr_fr [71, 72, 73, 74, 75, 76, 77] [13, 14, 20, 21, 24, 25, 62] I I38 → gr_fj [71, 72, 73, 74, 75, 76, 77] [13, 14, 20, 21, 24, 25, 62] J J39 → gr_VF I38 → ((0 ≤ v1_8 ∧ v1_8 ≤ 7) ∧ (0 ≤ v4_40 ∧ v4_40 ≤ 6) ∧ (0 ≤ v5_40 ∧ v5_40 ≤ 1000) ∧ (I38 0 71 = 5 ∨ I38 0 73 ≤ I38 0 69) ∧ (I38 0 72 ≤ I38 0 69) ∧ (I38 0 71 = 0 ∨ (I38 0 72 < I38 0 73 ∧ I38 0 72 < I38 0 69)) ∧ (I38 0 71 = 3 → 2 ≤ I38 0 73 - I38 0 72 ∧ I38 0 73 - I38 0 72 ≤ 14) ∧ (I38 0 72 ≤ I38 0 73) ∧ (I38 0 69 = I 0 69) ∧ (I 0 73 ≤ I38 0 73) ∧ (I 0 72 ≤ I38 0 72) ∧ (I38 0 6 = I 0 6)) → gv_X (gr_E ws0 tb 11 (yX13_feature, cX13_feature, 9, (some .boolean)) kX13_feature) (gv_Q cX13_feature (some .boolean) (gr_sh ++ ext) (fun r h' => (∃ (I' : gr_I) (J' : gr_J), h' = gr_h I' J' ∧ gr_Inv I' ∧ gr_fr [71, 72, 73, 74, 75, 76, 77] [13, 14, 20, 21, 24, 25, 62] I I' ∧ gr_fj [71, 72, 73, 74, 75, 76, 77] [13, 14, 20, 21, 24, 25, 62] J J' ∧ gr_VF I' ∧ (∃ z : Int, r = some (.inl z) ∧ 0 ≤ z ∧ z ≤ 1 ∧ (I' 0 71 = 5 ∨ I' 0 73 ≤ I' 0 69) ∧ (I' 0 72 ≤ I' 0 69) ∧ (I' 0 71 = 0 ∨ (I' 0 72 < I' 0 73 ∧ I' 0 72 < I' 0 69)) ∧ (I' 0 71 = 3 → 2 ≤ I' 0 73 - I' 0 72 ∧ I' 0 73 - I' 0 72 ≤ 14) ∧ (I' 0 72 ≤ I' 0 73) ∧ (I' 0 69 = I 0 69) ∧ (I 0 73 ≤ I' 0 73) ∧ (I 0 72 ≤ I' 0 72))))) (77, [(0, .inr (.inr (some 0))), (1, .inl v1_8), (2, .inr (.inl v2_24)), (4, .inl v4_40), (5, .inl v5_40)], [], gr_sh ++ ext, gr_h I38 J39) := by
          intro n
          induction n with
          | zero => intro I38 J39 v4_40 v5_40 hn; omega
          | succ n ih77 =>
            intro I38 J39 v4_40 v5_40 hn hI38 FI38 FJ39 KVF_I38 m_40
            obtain ⟨hv1_8_40, hv4_40, hv5_40, e0_40, e1_40, e2_40, e3_40, e4_40, e5_40, e6_40, e7_40, e8_40⟩ := m_40
            have f41 := (show 0 ≤ I38 0 71 ∧ I38 0 71 ≤ 5 from (hI38 0 71).1)
            have f42 := (show 0 ≤ I38 0 72 ∧ I38 0 72 ≤ 1000 from (hI38 0 72).1)
            have f43 := (show 0 ≤ I38 0 73 ∧ I38 0 73 ≤ 1001 from (hI38 0 73).1)
            have f44 := (show 0 ≤ I38 0 69 ∧ I38 0 69 ≤ 1000 from (hI38 0 69).1)
            have f45 := (show (-1) ≤ I38 0 6 ∧ I38 0 6 ≤ 7 from (hI38 0 6).1)
            have L139 : ((I38 0 71 = 5 ∨ I38 0 73 ≤ I38 0 69) ∧ (I38 0 72 ≤ I38 0 69) ∧ (I38 0 71 = 0 ∨ (I38 0 72 < I38 0 73 ∧ I38 0 72 < I38 0 69)) ∧ (I38 0 71 = 3 → 2 ≤ I38 0 73 - I38 0 72 ∧ I38 0 73 - I38 0 72 ≤ 14) ∧ (I38 0 72 ≤ I38 0 73) ∧ (I38 0 69 = I 0 69) ∧ (I 0 73 ≤ I38 0 73) ∧ (I 0 72 ≤ I38 0 72) ∧ (I38 0 6 = I 0 6)) → gv_X (gr_E ws0 tb 11 (yX13_feature, cX13_feature, 9, (some .boolean)) kX13_feature) (gv_Q cX13_feature (some .boolean) (gr_sh ++ ext) (fun r h' => (∃ (I' : gr_I) (J' : gr_J), h' = gr_h I' J' ∧ gr_Inv I' ∧ gr_fr [71, 72, 73, 74, 75, 76, 77] [13, 14, 20, 21, 24, 25, 62] I I' ∧ gr_fj [71, 72, 73, 74, 75, 76, 77] [13, 14, 20, 21, 24, 25, 62] J J' ∧ gr_VF I' ∧ (∃ z : Int, r = some (.inl z) ∧ 0 ≤ z ∧ z ≤ 1 ∧ (I' 0 71 = 5 ∨ I' 0 73 ≤ I' 0 69) ∧ (I' 0 72 ≤ I' 0 69) ∧ (I' 0 71 = 0 ∨ (I' 0 72 < I' 0 73 ∧ I' 0 72 < I' 0 69)) ∧ (I' 0 71 = 3 → 2 ≤ I' 0 73 - I' 0 72 ∧ I' 0 73 - I' 0 72 ≤ 14) ∧ (I' 0 72 ≤ I' 0 73) ∧ (I' 0 69 = I 0 69) ∧ (I 0 73 ≤ I' 0 73) ∧ (I 0 72 ≤ I' 0 72))))) (139, [(0, .inr (.inr (some 0)))], [], gr_sh ++ ext, gr_h I38 J39) := by
              intro m_46
              obtain ⟨e0_46, e1_46, e2_46, e3_46, e4_46, e5_46, e6_46, e7_46, e8_46⟩ := m_46
              have f47 := (show 0 ≤ I38 0 71 ∧ I38 0 71 ≤ 5 from (hI38 0 71).1)
              have f48 := (show 0 ≤ I38 0 72 ∧ I38 0 72 ≤ 1000 from (hI38 0 72).1)
              have f49 := (show 0 ≤ I38 0 73 ∧ I38 0 73 ≤ 1001 from (hI38 0 73).1)
              have f50 := (show 0 ≤ I38 0 69 ∧ I38 0 69 ≤ 1000 from (hI38 0 69).1)
              have f51 := (show (-1) ≤ I38 0 6 ∧ I38 0 6 ≤ 7 from (hI38 0 6).1)
              refine gv_run 2 true hD (pc' := 141) (lv' := [(0, .inr (.inr (some 0)))]) (st' := [.inl 4, .inr (.inr (some 0))]) (h' := gr_h I38 J39) (C := ((True ∧ True) ∧ True)) rfl ⟨⟨trivial, trivial⟩, trivial⟩ ?_
              obtain ⟨r52, h52, E52, P52⟩ := r_no_ (ws0 := ws0) (tb := tb) hws htb ext I38 J39 hI38 4 ⟨by omega, by omega⟩ 
              obtain ⟨I53, J54, rfl, hI53, g52, k52, ⟨z52, rfl, q52⟩⟩ := P52
              have FI53 := gr_frt FI38 g52 rfl rfl
              have FJ54 := gr_fjt FJ39 k52 rfl rfl
              have t55 := g52 0 71 rfl
              have t56 := g52 0 72 rfl
              have t57 := g52 0 73 rfl
              have t58 := g52 0 69 rfl
              have t59 := g52 0 6 rfl
              have f60 := (show 0 ≤ I53 0 71 ∧ I53 0 71 ≤ 5 from (hI53 0 71).1)
              have f61 := (show 0 ≤ I53 0 72 ∧ I53 0 72 ≤ 1000 from (hI53 0 72).1)
              have f62 := (show 0 ≤ I53 0 73 ∧ I53 0 73 ≤ 1001 from (hI53 0 73).1)
              have f63 := (show 0 ≤ I53 0 69 ∧ I53 0 69 ≤ 1000 from (hI53 0 69).1)
              have f64 := (show (-1) ≤ I53 0 6 ∧ I53 0 6 ≤ 7 from (hI53 0 6).1)
              have KVF_I53 := gr_VF_fr KVF_I38 (fun k => g52 14 k rfl) (fun k => g52 13 k rfl)
              refine gv_callV hD rfl (As := [.inl 4]) (st := []) rfl (by decide) rfl rfl (gr_lV hws rfl) (Nat.le_of_ble_eq_true rfl) (gz_Ev_mono (d := 2) (by decide) E52) ?_
              show gv_X _ _ (144, [(0, .inr (.inr (some 0)))], [.inl z52], gr_sh ++ ext, gr_h I53 J54)
              exact gv_zret hD rfl (by omega) ⟨I53, J54, rfl, hI53, FI53, FJ54, KVF_I53, ⟨_, rfl, by omega⟩⟩
            have L212 : ∀ (s1_65 : Int), ((0 ≤ v1_8 ∧ v1_8 ≤ 7) ∧ (0 ≤ v4_40 ∧ v4_40 ≤ 6) ∧ (0 ≤ s1_65 ∧ s1_65 ≤ 1) ∧ (s1_65 = 0 ∨ I38 13 (Int.toNat v1_8) ≤ 7) ∧ (I38 0 71 = 5 ∨ I38 0 73 ≤ I38 0 69) ∧ (I38 0 72 ≤ I38 0 69) ∧ (I38 0 71 = 0 ∨ (I38 0 72 < I38 0 73 ∧ I38 0 72 < I38 0 69)) ∧ (I38 0 71 = 3 → 2 ≤ I38 0 73 - I38 0 72 ∧ I38 0 73 - I38 0 72 ≤ 14) ∧ (I38 0 72 ≤ I38 0 73) ∧ (I38 0 69 = I 0 69) ∧ (I 0 73 ≤ I38 0 73) ∧ (I 0 72 ≤ I38 0 72) ∧ (I38 0 6 = I 0 6)) → gv_X (gr_E ws0 tb 11 (yX13_feature, cX13_feature, 9, (some .boolean)) kX13_feature) (gv_Q cX13_feature (some .boolean) (gr_sh ++ ext) (fun r h' => (∃ (I' : gr_I) (J' : gr_J), h' = gr_h I' J' ∧ gr_Inv I' ∧ gr_fr [71, 72, 73, 74, 75, 76, 77] [13, 14, 20, 21, 24, 25, 62] I I' ∧ gr_fj [71, 72, 73, 74, 75, 76, 77] [13, 14, 20, 21, 24, 25, 62] J J' ∧ gr_VF I' ∧ (∃ z : Int, r = some (.inl z) ∧ 0 ≤ z ∧ z ≤ 1 ∧ (I' 0 71 = 5 ∨ I' 0 73 ≤ I' 0 69) ∧ (I' 0 72 ≤ I' 0 69) ∧ (I' 0 71 = 0 ∨ (I' 0 72 < I' 0 73 ∧ I' 0 72 < I' 0 69)) ∧ (I' 0 71 = 3 → 2 ≤ I' 0 73 - I' 0 72 ∧ I' 0 73 - I' 0 72 ≤ 14) ∧ (I' 0 72 ≤ I' 0 73) ∧ (I' 0 69 = I 0 69) ∧ (I 0 73 ≤ I' 0 73) ∧ (I 0 72 ≤ I' 0 72))))) (212, [(0, .inr (.inr (some 0))), (1, .inl v1_8), (2, .inr (.inl v2_24)), (4, .inl v4_40)], [.inl s1_65, .inr (.inr (some 0))], gr_sh ++ ext, gr_h I38 J39) := by
              intro s1_65 m_65
              obtain ⟨hv1_8_65, hv4_40_65, hs1_65, e0_65, e1_65, e2_65, e3_65, e4_65, e5_65, e6_65, e7_65, e8_65, e9_65⟩ := m_65
              have f66 := (show 0 ≤ I38 0 71 ∧ I38 0 71 ≤ 5 from (hI38 0 71).1)
              have f67 := (show 0 ≤ I38 0 72 ∧ I38 0 72 ≤ 1000 from (hI38 0 72).1)
              have f68 := (show 0 ≤ I38 0 73 ∧ I38 0 73 ≤ 1001 from (hI38 0 73).1)
              have f69 := (show 0 ≤ I38 0 69 ∧ I38 0 69 ≤ 1000 from (hI38 0 69).1)
              have f70 := (show (-1) ≤ I38 0 6 ∧ I38 0 6 ≤ 7 from (hI38 0 6).1)
              have L249 : ∀ (n : Nat) (I71 : gr_I) (J72 : gr_J) (v6_73 : Int) (v7_73 : Int), (7 - v7_73).toNat < n → gr_Inv I71 → gr_fr [71, 72, 73, 74, 75, 76, 77] [13, 14, 20, 21, 24, 25, 62] I I71 → gr_fj [71, 72, 73, 74, 75, 76, 77] [13, 14, 20, 21, 24, 25, 62] J J72 → gr_VF I71 → ((0 ≤ v1_8 ∧ v1_8 ≤ 7) ∧ (0 ≤ v4_40 ∧ v4_40 ≤ 6) ∧ (0 ≤ v6_73 ∧ v6_73 ≤ 7) ∧ (0 ≤ v7_73 ∧ v7_73 ≤ 6) ∧ (I71 14 (Int.toNat v1_8) + v4_40 - v7_73 ≤ 6 * I71 13 (Int.toNat v1_8)) ∧ (I71 13 (Int.toNat v1_8) ≤ 8) ∧ (I71 0 71 = 5 ∨ I71 0 73 ≤ I71 0 69) ∧ (I71 0 72 ≤ I71 0 69) ∧ (I71 0 71 = 0 ∨ (I71 0 72 < I71 0 73 ∧ I71 0 72 < I71 0 69)) ∧ (I71 0 71 = 3 → 2 ≤ I71 0 73 - I71 0 72 ∧ I71 0 73 - I71 0 72 ≤ 14) ∧ (I71 0 72 ≤ I71 0 73) ∧ (I71 0 69 = I 0 69) ∧ (I 0 73 ≤ I71 0 73) ∧ (I 0 72 ≤ I71 0 72) ∧ (I71 0 6 = I 0 6)) → gv_X (gr_E ws0 tb 11 (yX13_feature, cX13_feature, 9, (some .boolean)) kX13_feature) (gv_Q cX13_feature (some .boolean) (gr_sh ++ ext) (fun r h' => (∃ (I' : gr_I) (J' : gr_J), h' = gr_h I' J' ∧ gr_Inv I' ∧ gr_fr [71, 72, 73, 74, 75, 76, 77] [13, 14, 20, 21, 24, 25, 62] I I' ∧ gr_fj [71, 72, 73, 74, 75, 76, 77] [13, 14, 20, 21, 24, 25, 62] J J' ∧ gr_VF I' ∧ (∃ z : Int, r = some (.inl z) ∧ 0 ≤ z ∧ z ≤ 1 ∧ (I' 0 71 = 5 ∨ I' 0 73 ≤ I' 0 69) ∧ (I' 0 72 ≤ I' 0 69) ∧ (I' 0 71 = 0 ∨ (I' 0 72 < I' 0 73 ∧ I' 0 72 < I' 0 69)) ∧ (I' 0 71 = 3 → 2 ≤ I' 0 73 - I' 0 72 ∧ I' 0 73 - I' 0 72 ≤ 14) ∧ (I' 0 72 ≤ I' 0 73) ∧ (I' 0 69 = I 0 69) ∧ (I 0 73 ≤ I' 0 73) ∧ (I 0 72 ≤ I' 0 72))))) (249, [(0, .inr (.inr (some 0))), (1, .inl v1_8), (4, .inl v4_40), (6, .inl v6_73), (7, .inl v7_73)], [], gr_sh ++ ext, gr_h I71 J72) := by
                intro n
                induction n with
                | zero => intro I71 J72 v6_73 v7_73 hn; omega
                | succ n ih249 =>
                  intro I71 J72 v6_73 v7_73 hn hI71 FI71 FJ72 KVF_I71 m_73
                  obtain ⟨hv1_8_73, hv4_40_73, hv6_73, hv7_73, e0_73, e1_73, e2_73, e3_73, e4_73, e5_73, e6_73, e7_73, e8_73, e9_73, e10_73⟩ := m_73
                  have f74 := (show 0 ≤ I71 0 71 ∧ I71 0 71 ≤ 5 from (hI71 0 71).1)
                  have f75 := (show 0 ≤ I71 0 72 ∧ I71 0 72 ≤ 1000 from (hI71 0 72).1)
                  have f76 := (show 0 ≤ I71 0 73 ∧ I71 0 73 ≤ 1001 from (hI71 0 73).1)
                  have f77 := (show 0 ≤ I71 0 69 ∧ I71 0 69 ≤ 1000 from (hI71 0 69).1)
                  have f78 := (show (-1) ≤ I71 0 6 ∧ I71 0 6 ≤ 7 from (hI71 0 6).1)
                  refine gv_run 2 true hD (pc' := 253) (lv' := [(0, .inr (.inr (some 0))), (1, .inl v1_8), (4, .inl v4_40), (6, .inl v6_73), (7, .inl v7_73)]) (st' := [.inl v4_40, .inl v7_73]) (h' := gr_h I71 J72) (C := ((True ∧ True) ∧ True)) rfl ⟨⟨trivial, trivial⟩, trivial⟩ ?_
                  refine gv_icmp_ge (t := 314) hD rfl rfl ⟨⟨by omega, by omega⟩, ⟨by omega, by omega⟩⟩ (fun c79 => ?_) (fun c79 => ?_)
                  · refine gv_run 1 true hD (pc' := 315) (lv' := [(0, .inr (.inr (some 0))), (1, .inl v1_8), (4, .inl v4_40), (6, .inl v6_73), (7, .inl v7_73)]) (st' := [.inl 1]) (h' := gr_h I71 J72) (C := (True ∧ True)) rfl ⟨trivial, trivial⟩ ?_
                    exact gv_zret hD rfl (by omega) ⟨I71, J72, rfl, hI71, FI71, FJ72, KVF_I71, ⟨_, rfl, by omega⟩⟩
                  · refine gv_run 7 true hD (pc' := 266) (lv' := [(0, .inr (.inr (some 0))), (1, .inl v1_8), (4, .inl v4_40), (6, .inl v6_73), (7, .inl v7_73)]) (st' := [.inl v1_8, .inr (.inr (some 14)), .inl v1_8, .inr (.inr (some 14)), .inl (48 * v1_8)]) (h' := gr_h I71 J72) (C := (((((((True ∧ True) ∧ True) ∧ True) ∧ True) ∧ True) ∧ True) ∧ True)) rfl ⟨⟨⟨⟨⟨⟨⟨trivial, trivial⟩, trivial⟩, trivial⟩, trivial⟩, trivial⟩, trivial⟩, trivial⟩ ?_
                    have f80 := (show 0 ≤ I71 14 (Int.toNat v1_8) ∧ I71 14 (Int.toNat v1_8) ≤ 48 from (hI71 14 (Int.toNat v1_8)).1)
                    refine gv_run 1 true hD (pc' := 267) (lv' := [(0, .inr (.inr (some 0))), (1, .inl v1_8), (4, .inl v4_40), (6, .inl v6_73), (7, .inl v7_73)]) (st' := [.inl (I71 14 (Int.toNat v1_8)), .inl v1_8, .inr (.inr (some 14)), .inl (48 * v1_8)]) (h' := gr_h I71 J72) (C := (True ∧ (0 ≤ v1_8 ∧ v1_8 < ((8 : Nat) : Int)))) rfl ⟨trivial, ⟨by omega, by omega⟩⟩ ?_
                    refine gv_run 3 true hD (pc' := 270) (lv' := [(0, .inr (.inr (some 0))), (1, .inl v1_8), (4, .inl v4_40), (6, .inl v6_73), (7, .inl v7_73)]) (st' := [.inl ((I71 14 (Int.toNat v1_8)) + 1), .inl v1_8, .inr (.inr (some 14)), .inl (I71 14 (Int.toNat v1_8)), .inl (48 * v1_8)]) (h' := gr_h I71 J72) (C := (((True ∧ True) ∧ True) ∧ True)) rfl ⟨⟨⟨trivial, trivial⟩, trivial⟩, trivial⟩ ?_
                    refine gv_run 1 true hD (pc' := 271) (lv' := [(0, .inr (.inr (some 0))), (1, .inl v1_8), (4, .inl v4_40), (6, .inl v6_73), (7, .inl v7_73)]) (st' := [.inl (I71 14 (Int.toNat v1_8)), .inl (48 * v1_8)]) (h' := gz_up (gr_h I71 J72) 14 (Int.toNat v1_8) (.inl (((I71 14 (Int.toNat v1_8)) + 1)))) (C := (True ∧ (0 ≤ v1_8 ∧ v1_8 < ((8 : Nat) : Int)))) rfl ⟨trivial, ⟨by omega, by omega⟩⟩ ?_
                    refine gr_st hI71 FI71 rfl rfl ⟨⟨by show 0 ≤ _; omega, by show _ ≤ 48; omega⟩, trivial⟩ (fun I81 hI81 FI81 q82 p82 => ?_)
                    have t83 := p82 0 71 (fun q => absurd q.1 (by decide))
                    have t84 := p82 0 72 (fun q => absurd q.1 (by decide))
                    have t85 := p82 0 73 (fun q => absurd q.1 (by decide))
                    have t86 := p82 0 69 (fun q => absurd q.1 (by decide))
                    have t87 := p82 0 6 (fun q => absurd q.1 (by decide))
                    have t88 := p82 13 (Int.toNat v1_8) (fun q => absurd q.1 (by decide))
                    have f89 := (show 0 ≤ I81 0 71 ∧ I81 0 71 ≤ 5 from (hI81 0 71).1)
                    have f90 := (show 0 ≤ I81 0 72 ∧ I81 0 72 ≤ 1000 from (hI81 0 72).1)
                    have f91 := (show 0 ≤ I81 0 73 ∧ I81 0 73 ≤ 1001 from (hI81 0 73).1)
                    have f92 := (show 0 ≤ I81 0 69 ∧ I81 0 69 ≤ 1000 from (hI81 0 69).1)
                    have f93 := (show (-1) ≤ I81 0 6 ∧ I81 0 6 ≤ 7 from (hI81 0 6).1)
                    have KVF_I81 := gr_VF_v KVF_I71 p82 (by omega)
                    have t94 := KVF_I81 (Int.toNat v1_8) (by omega)
                    refine gv_run 7 true hD (pc' := 284) (lv' := [(8, .inl ((48 * v1_8) + (I71 14 (Int.toNat v1_8)))), (0, .inr (.inr (some 0))), (1, .inl v1_8), (4, .inl v4_40), (6, .inl v6_73), (7, .inl v7_73)]) (st' := [.inr (.inr (some 62)), .inl ((48 * v1_8) + (I71 14 (Int.toNat v1_8))), .inr (.inr (some 21))]) (h' := gr_h I81 J72) (C := (((((((True ∧ True) ∧ True) ∧ True) ∧ True) ∧ True) ∧ True) ∧ True)) rfl ⟨⟨⟨⟨⟨⟨⟨trivial, trivial⟩, trivial⟩, trivial⟩, trivial⟩, trivial⟩, trivial⟩, trivial⟩ ?_
                    refine gv_run 2 true hD (pc' := 287) (lv' := [(8, .inl ((48 * v1_8) + (I71 14 (Int.toNat v1_8)))), (0, .inr (.inr (some 0))), (1, .inl v1_8), (4, .inl v4_40), (6, .inl v6_73), (7, .inl v7_73)]) (st' := [.inr (.inl (J72 62 (Int.toNat v7_73))), .inl ((48 * v1_8) + (I71 14 (Int.toNat v1_8))), .inr (.inr (some 21))]) (h' := gr_h I81 J72) (C := ((True ∧ True) ∧ (0 ≤ v7_73 ∧ v7_73 < ((6 : Nat) : Int)))) rfl ⟨⟨trivial, trivial⟩, ⟨by omega, by omega⟩⟩ ?_
                    refine gv_run 1 true hD (pc' := 288) (lv' := [(8, .inl ((48 * v1_8) + (I71 14 (Int.toNat v1_8)))), (0, .inr (.inr (some 0))), (1, .inl v1_8), (4, .inl v4_40), (6, .inl v6_73), (7, .inl v7_73)]) (st' := []) (h' := gz_up (gr_h I81 J72) 21 (Int.toNat (((48 * v1_8) + (I71 14 (Int.toNat v1_8))))) (.inr (.inl ((J72 62 (Int.toNat v7_73)))))) (C := (True ∧ (0 ≤ (((48 * v1_8) + (I71 14 (Int.toNat v1_8)))) ∧ (((48 * v1_8) + (I71 14 (Int.toNat v1_8)))) < ((384 : Nat) : Int)))) rfl ⟨trivial, ⟨by omega, by omega⟩⟩ ?_
                    refine gr_stJ FJ72 rfl rfl (fun J95 FJ95 => ?_)
                    refine gv_run 4 true hD (pc' := 296) (lv' := [(8, .inl ((48 * v1_8) + (I71 14 (Int.toNat v1_8)))), (0, .inr (.inr (some 0))), (1, .inl v1_8), (4, .inl v4_40), (6, .inl v6_73), (7, .inl v7_73)]) (st' := [.inl v6_73, .inl ((48 * v1_8) + (I71 14 (Int.toNat v1_8))), .inr (.inr (some 24))]) (h' := gr_h I81 J95) (C := ((((True ∧ True) ∧ True) ∧ True) ∧ True)) rfl ⟨⟨⟨⟨trivial, trivial⟩, trivial⟩, trivial⟩, trivial⟩ ?_
                    refine gv_run 1 true hD (pc' := 297) (lv' := [(8, .inl ((48 * v1_8) + (I71 14 (Int.toNat v1_8)))), (0, .inr (.inr (some 0))), (1, .inl v1_8), (4, .inl v4_40), (6, .inl v6_73), (7, .inl v7_73)]) (st' := []) (h' := gz_up (gr_h I81 J95) 24 (Int.toNat (((48 * v1_8) + (I71 14 (Int.toNat v1_8))))) (.inl v6_73)) (C := (True ∧ (0 ≤ (((48 * v1_8) + (I71 14 (Int.toNat v1_8)))) ∧ (((48 * v1_8) + (I71 14 (Int.toNat v1_8)))) < ((384 : Nat) : Int)))) rfl ⟨trivial, ⟨by omega, by omega⟩⟩ ?_
                    refine gr_st hI81 FI81 rfl rfl ⟨⟨by show 0 ≤ _; omega, by show _ ≤ 7; omega⟩, trivial⟩ (fun I96 hI96 FI96 q97 p97 => ?_)
                    have t98 := p97 0 71 (fun q => absurd q.1 (by decide))
                    have t99 := p97 0 72 (fun q => absurd q.1 (by decide))
                    have t100 := p97 0 73 (fun q => absurd q.1 (by decide))
                    have t101 := p97 0 69 (fun q => absurd q.1 (by decide))
                    have t102 := p97 0 6 (fun q => absurd q.1 (by decide))
                    have t103 := p97 13 (Int.toNat v1_8) (fun q => absurd q.1 (by decide))
                    have t104 := p97 14 (Int.toNat v1_8) (fun q => absurd q.1 (by decide))
                    have f105 := (show 0 ≤ I96 0 71 ∧ I96 0 71 ≤ 5 from (hI96 0 71).1)
                    have f106 := (show 0 ≤ I96 0 72 ∧ I96 0 72 ≤ 1000 from (hI96 0 72).1)
                    have f107 := (show 0 ≤ I96 0 73 ∧ I96 0 73 ≤ 1001 from (hI96 0 73).1)
                    have f108 := (show 0 ≤ I96 0 69 ∧ I96 0 69 ≤ 1000 from (hI96 0 69).1)
                    have f109 := (show (-1) ≤ I96 0 6 ∧ I96 0 6 ≤ 7 from (hI96 0 6).1)
                    have KVF_I96 := gr_VF_fr KVF_I81 (fun k => p97 14 k (fun q => absurd q.1 (by decide))) (fun k => p97 13 k (fun q => absurd q.1 (by decide)))
                    have t110 := KVF_I96 (Int.toNat v1_8) (by omega)
                    refine gv_run 6 true hD (pc' := 307) (lv' := [(8, .inl ((48 * v1_8) + (I71 14 (Int.toNat v1_8)))), (0, .inr (.inr (some 0))), (1, .inl v1_8), (4, .inl v4_40), (6, .inl v6_73), (7, .inl v7_73)]) (st' := [.inl (v7_73 + 1), .inl ((48 * v1_8) + (I71 14 (Int.toNat v1_8))), .inr (.inr (some 25))]) (h' := gr_h I96 J95) (C := ((((((True ∧ True) ∧ True) ∧ True) ∧ True) ∧ True) ∧ True)) rfl ⟨⟨⟨⟨⟨⟨trivial, trivial⟩, trivial⟩, trivial⟩, trivial⟩, trivial⟩, trivial⟩ ?_
                    refine gv_run 1 true hD (pc' := 308) (lv' := [(8, .inl ((48 * v1_8) + (I71 14 (Int.toNat v1_8)))), (0, .inr (.inr (some 0))), (1, .inl v1_8), (4, .inl v4_40), (6, .inl v6_73), (7, .inl v7_73)]) (st' := []) (h' := gz_up (gr_h I96 J95) 25 (Int.toNat (((48 * v1_8) + (I71 14 (Int.toNat v1_8))))) (.inl (v7_73 + 1))) (C := (True ∧ (0 ≤ (((48 * v1_8) + (I71 14 (Int.toNat v1_8)))) ∧ (((48 * v1_8) + (I71 14 (Int.toNat v1_8)))) < ((384 : Nat) : Int)))) rfl ⟨trivial, ⟨by omega, by omega⟩⟩ ?_
                    refine gr_st hI96 FI96 rfl rfl ⟨⟨by show 0 ≤ _; omega, by show _ ≤ 6; omega⟩, trivial⟩ (fun I111 hI111 FI111 q112 p112 => ?_)
                    have t113 := p112 0 71 (fun q => absurd q.1 (by decide))
                    have t114 := p112 0 72 (fun q => absurd q.1 (by decide))
                    have t115 := p112 0 73 (fun q => absurd q.1 (by decide))
                    have t116 := p112 0 69 (fun q => absurd q.1 (by decide))
                    have t117 := p112 0 6 (fun q => absurd q.1 (by decide))
                    have t118 := p112 13 (Int.toNat v1_8) (fun q => absurd q.1 (by decide))
                    have t119 := p112 14 (Int.toNat v1_8) (fun q => absurd q.1 (by decide))
                    have f120 := (show 0 ≤ I111 0 71 ∧ I111 0 71 ≤ 5 from (hI111 0 71).1)
                    have f121 := (show 0 ≤ I111 0 72 ∧ I111 0 72 ≤ 1000 from (hI111 0 72).1)
                    have f122 := (show 0 ≤ I111 0 73 ∧ I111 0 73 ≤ 1001 from (hI111 0 73).1)
                    have f123 := (show 0 ≤ I111 0 69 ∧ I111 0 69 ≤ 1000 from (hI111 0 69).1)
                    have f124 := (show (-1) ≤ I111 0 6 ∧ I111 0 6 ≤ 7 from (hI111 0 6).1)
                    have KVF_I111 := gr_VF_fr KVF_I96 (fun k => p112 14 k (fun q => absurd q.1 (by decide))) (fun k => p112 13 k (fun q => absurd q.1 (by decide)))
                    have t125 := KVF_I111 (Int.toNat v1_8) (by omega)
                    refine gv_run 2 true hD (pc' := 249) (lv' := [(7, .inl (v7_73 + 1)), (8, .inl ((48 * v1_8) + (I71 14 (Int.toNat v1_8)))), (0, .inr (.inr (some 0))), (1, .inl v1_8), (4, .inl v4_40), (6, .inl v6_73)]) (st' := []) (h' := gr_h I111 J95) (C := ((True ∧ True) ∧ True)) rfl ⟨⟨trivial, trivial⟩, trivial⟩ ?_
                    refine gv_pick [2, 3, 4, 5, 0] rfl ?_
                    exact ih249 I111 J95 v6_73 (v7_73 + 1) (by omega) hI111 FI111 FJ95 KVF_I111 (by omega)
              obtain ⟨r126, h126, E126, P126⟩ := r_done (ws0 := ws0) (tb := tb) hws htb ext I38 J39 hI38 s1_65 ⟨by omega, by omega⟩ (by omega) (by omega) (by omega) (by omega) (by omega)
              obtain ⟨I127, J128, rfl, hI127, g126, k126, ⟨z126, rfl, q126⟩⟩ := P126
              have FI127 := gr_frt FI38 g126 rfl rfl
              have FJ128 := gr_fjt FJ39 k126 rfl rfl
              have t129 := g126 0 69 rfl
              have t130 := g126 0 6 rfl
              have t131 := g126 13 (Int.toNat v1_8) rfl
              have t132 := g126 14 (Int.toNat v1_8) rfl
              have f133 := (show 0 ≤ I127 0 71 ∧ I127 0 71 ≤ 5 from (hI127 0 71).1)
              have f134 := (show 0 ≤ I127 0 72 ∧ I127 0 72 ≤ 1000 from (hI127 0 72).1)
              have f135 := (show 0 ≤ I127 0 73 ∧ I127 0 73 ≤ 1001 from (hI127 0 73).1)
              have f136 := (show 0 ≤ I127 0 69 ∧ I127 0 69 ≤ 1000 from (hI127 0 69).1)
              have f137 := (show (-1) ≤ I127 0 6 ∧ I127 0 6 ≤ 7 from (hI127 0 6).1)
              have KVF_I127 := gr_VF_fr KVF_I38 (fun k => g126 14 k rfl) (fun k => g126 13 k rfl)
              have t138 := KVF_I127 (Int.toNat v1_8) (by omega)
              refine gv_callV hD rfl (As := [.inl s1_65]) (st := []) rfl (by decide) rfl rfl (gr_lV hws rfl) (Nat.le_of_ble_eq_true rfl) (gz_Ev_mono (d := 11) (by decide) E126) ?_
              show gv_X _ _ (215, [(0, .inr (.inr (some 0))), (1, .inl v1_8), (2, .inr (.inl v2_24)), (4, .inl v4_40)], [.inl z126], gr_sh ++ ext, gr_h I127 J128)
              refine gv_if_ne (t := 220) hD rfl rfl ⟨by omega, by omega⟩ (fun c139 => ?_) (fun c139 => ?_)
              · have f140 := (show 0 ≤ I127 13 (Int.toNat v1_8) ∧ I127 13 (Int.toNat v1_8) ≤ 8 from (hI127 13 (Int.toNat v1_8)).1)
                refine gv_run 5 true hD (pc' := 227) (lv' := [(0, .inr (.inr (some 0))), (1, .inl v1_8), (2, .inr (.inl v2_24)), (4, .inl v4_40)]) (st' := [.inl (I127 13 (Int.toNat v1_8)), .inl v1_8, .inr (.inr (some 13))]) (h' := gr_h I127 J128) (C := (((((True ∧ True) ∧ True) ∧ True) ∧ True) ∧ (0 ≤ v1_8 ∧ v1_8 < ((8 : Nat) : Int)))) rfl ⟨⟨⟨⟨⟨trivial, trivial⟩, trivial⟩, trivial⟩, trivial⟩, ⟨by omega, by omega⟩⟩ ?_
                refine gv_run 3 true hD (pc' := 230) (lv' := [(0, .inr (.inr (some 0))), (1, .inl v1_8), (2, .inr (.inl v2_24)), (4, .inl v4_40)]) (st' := [.inl ((I127 13 (Int.toNat v1_8)) + 1), .inl v1_8, .inr (.inr (some 13)), .inl (I127 13 (Int.toNat v1_8))]) (h' := gr_h I127 J128) (C := (((True ∧ True) ∧ True) ∧ True)) rfl ⟨⟨⟨trivial, trivial⟩, trivial⟩, trivial⟩ ?_
                refine gv_run 1 true hD (pc' := 231) (lv' := [(0, .inr (.inr (some 0))), (1, .inl v1_8), (2, .inr (.inl v2_24)), (4, .inl v4_40)]) (st' := [.inl (I127 13 (Int.toNat v1_8))]) (h' := gz_up (gr_h I127 J128) 13 (Int.toNat v1_8) (.inl (((I127 13 (Int.toNat v1_8)) + 1)))) (C := (True ∧ (0 ≤ v1_8 ∧ v1_8 < ((8 : Nat) : Int)))) rfl ⟨trivial, ⟨by omega, by omega⟩⟩ ?_
                refine gr_st hI127 FI127 rfl rfl ⟨⟨by show 0 ≤ _; omega, by show _ ≤ 8; omega⟩, trivial⟩ (fun I141 hI141 FI141 q142 p142 => ?_)
                have t143 := p142 0 71 (fun q => absurd q.1 (by decide))
                have t144 := p142 0 72 (fun q => absurd q.1 (by decide))
                have t145 := p142 0 73 (fun q => absurd q.1 (by decide))
                have t146 := p142 0 69 (fun q => absurd q.1 (by decide))
                have t147 := p142 0 6 (fun q => absurd q.1 (by decide))
                have t148 := p142 14 (Int.toNat v1_8) (fun q => absurd q.1 (by decide))
                have f149 := (show 0 ≤ I141 0 71 ∧ I141 0 71 ≤ 5 from (hI141 0 71).1)
                have f150 := (show 0 ≤ I141 0 72 ∧ I141 0 72 ≤ 1000 from (hI141 0 72).1)
                have f151 := (show 0 ≤ I141 0 73 ∧ I141 0 73 ≤ 1001 from (hI141 0 73).1)
                have f152 := (show 0 ≤ I141 0 69 ∧ I141 0 69 ≤ 1000 from (hI141 0 69).1)
                have f153 := (show (-1) ≤ I141 0 6 ∧ I141 0 6 ≤ 7 from (hI141 0 6).1)
                have KVF_I141 := gr_VF_f KVF_I127 p142 (by omega)
                have t154 := KVF_I141 (Int.toNat v1_8) (by omega)
                refine gv_run 7 true hD (pc' := 243) (lv' := [(6, .inl (I127 13 (Int.toNat v1_8))), (0, .inr (.inr (some 0))), (1, .inl v1_8), (2, .inr (.inl v2_24)), (4, .inl v4_40)]) (st' := [.inl (I127 13 (Int.toNat v1_8)), .inl (8 * v1_8), .inr (.inr (some 20))]) (h' := gr_h I141 J128) (C := (((((((True ∧ True) ∧ True) ∧ True) ∧ True) ∧ True) ∧ True) ∧ True)) rfl ⟨⟨⟨⟨⟨⟨⟨trivial, trivial⟩, trivial⟩, trivial⟩, trivial⟩, trivial⟩, trivial⟩, trivial⟩ ?_
                refine gv_run 3 true hD (pc' := 246) (lv' := [(6, .inl (I127 13 (Int.toNat v1_8))), (0, .inr (.inr (some 0))), (1, .inl v1_8), (2, .inr (.inl v2_24)), (4, .inl v4_40)]) (st' := []) (h' := gz_up (gr_h I141 J128) 20 (Int.toNat (((8 * v1_8) + (I127 13 (Int.toNat v1_8))))) (.inr (.inl v2_24))) (C := (((True ∧ True) ∧ True) ∧ (0 ≤ (((8 * v1_8) + (I127 13 (Int.toNat v1_8)))) ∧ (((8 * v1_8) + (I127 13 (Int.toNat v1_8)))) < ((64 : Nat) : Int)))) rfl ⟨⟨⟨trivial, trivial⟩, trivial⟩, ⟨by omega, by omega⟩⟩ ?_
                refine gr_stJ FJ128 rfl rfl (fun J155 FJ155 => ?_)
                refine gv_run 2 true hD (pc' := 249) (lv' := [(7, .inl 0), (6, .inl (I127 13 (Int.toNat v1_8))), (0, .inr (.inr (some 0))), (1, .inl v1_8), (2, .inr (.inl v2_24)), (4, .inl v4_40)]) (st' := []) (h' := gr_h I141 J155) (C := ((True ∧ True) ∧ True)) rfl ⟨⟨trivial, trivial⟩, trivial⟩ ?_
                refine gv_pick [2, 3, 5, 1, 0] rfl ?_
                exact L249 _ I141 J155 ((I127 13 (Int.toNat v1_8))) 0 (Nat.lt_succ_self _) hI141 FI141 FJ155 KVF_I141 (by omega)
              · refine gv_run 1 true hD (pc' := 219) (lv' := [(0, .inr (.inr (some 0))), (1, .inl v1_8), (2, .inr (.inl v2_24)), (4, .inl v4_40)]) (st' := [.inl 0]) (h' := gr_h I127 J128) (C := (True ∧ True)) rfl ⟨trivial, trivial⟩ ?_
                exact gv_zret hD rfl (by omega) ⟨I127, J128, rfl, hI127, FI127, FJ128, KVF_I127, ⟨_, rfl, by omega⟩⟩
            have f156 := (show 0 ≤ I38 0 71 ∧ I38 0 71 ≤ 5 from (hI38 0 71).1)
            refine gv_run 3 true hD (pc' := 82) (lv' := [(0, .inr (.inr (some 0))), (1, .inl v1_8), (2, .inr (.inl v2_24)), (4, .inl v4_40), (5, .inl v5_40)]) (st' := [.inl 1, .inl (I38 0 71)]) (h' := gr_h I38 J39) (C := (((True ∧ True) ∧ True) ∧ True)) rfl ⟨⟨⟨trivial, trivial⟩, trivial⟩, trivial⟩ ?_
            refine gv_icmp_ne (t := 166) hD rfl rfl ⟨⟨by omega, by omega⟩, ⟨by omega, by omega⟩⟩ (fun c157 => ?_) (fun c157 => ?_)
            · refine gv_run 2 true hD (pc' := 169) (lv' := [(0, .inr (.inr (some 0))), (1, .inl v1_8), (2, .inr (.inl v2_24)), (4, .inl v4_40), (5, .inl v5_40)]) (st' := [.inl 59, .inr (.inr (some 0))]) (h' := gr_h I38 J39) (C := ((True ∧ True) ∧ True)) rfl ⟨⟨trivial, trivial⟩, trivial⟩ ?_
              obtain ⟨r158, h158, E158, P158⟩ := r_sign (ws0 := ws0) (tb := tb) hws htb ext I38 J39 hI38 59 ⟨by omega, by omega⟩ (by omega)
              obtain ⟨rfl, ⟨z158, rfl, q158⟩⟩ := P158
              refine gv_callV hD rfl (As := [.inl 59]) (st := []) rfl (by decide) rfl rfl (gr_lV hws rfl) (Nat.le_of_ble_eq_true rfl) (gz_Ev_mono (d := 1) (by decide) E158) ?_
              show gv_X _ _ (172, [(0, .inr (.inr (some 0))), (1, .inl v1_8), (2, .inr (.inl v2_24)), (4, .inl v4_40), (5, .inl v5_40)], [.inl z158], gr_sh ++ ext, gr_h I38 J39)
              refine gv_if_ne (t := 181) hD rfl rfl ⟨by omega, by omega⟩ (fun c159 => ?_) (fun c159 => ?_)
              · refine gv_run 2 true hD (pc' := 184) (lv' := [(0, .inr (.inr (some 0))), (1, .inl v1_8), (2, .inr (.inl v2_24)), (4, .inl v4_40), (5, .inl v5_40)]) (st' := [.inl 1, .inl v4_40]) (h' := gr_h I38 J39) (C := ((True ∧ True) ∧ True)) rfl ⟨⟨trivial, trivial⟩, trivial⟩ ?_
                refine gv_icmp_ne (t := 195) hD rfl rfl ⟨⟨by omega, by omega⟩, ⟨by omega, by omega⟩⟩ (fun c160 => ?_) (fun c160 => ?_)
                · have f161 := (show 0 ≤ I38 13 (Int.toNat v1_8) ∧ I38 13 (Int.toNat v1_8) ≤ 8 from (hI38 13 (Int.toNat v1_8)).1)
                  refine gv_run 5 true hD (pc' := 202) (lv' := [(0, .inr (.inr (some 0))), (1, .inl v1_8), (2, .inr (.inl v2_24)), (4, .inl v4_40), (5, .inl v5_40)]) (st' := [.inl (I38 13 (Int.toNat v1_8)), .inr (.inr (some 0))]) (h' := gr_h I38 J39) (C := (((((True ∧ True) ∧ True) ∧ True) ∧ True) ∧ (0 ≤ v1_8 ∧ v1_8 < ((8 : Nat) : Int)))) rfl ⟨⟨⟨⟨⟨trivial, trivial⟩, trivial⟩, trivial⟩, trivial⟩, ⟨by omega, by omega⟩⟩ ?_
                  refine gv_run 1 true hD (pc' := 204) (lv' := [(0, .inr (.inr (some 0))), (1, .inl v1_8), (2, .inr (.inl v2_24)), (4, .inl v4_40), (5, .inl v5_40)]) (st' := [.inl 8, .inl (I38 13 (Int.toNat v1_8)), .inr (.inr (some 0))]) (h' := gr_h I38 J39) (C := (True ∧ True)) rfl ⟨trivial, trivial⟩ ?_
                  refine gv_icmp_ge (t := 211) hD rfl rfl ⟨⟨by omega, by omega⟩, ⟨by omega, by omega⟩⟩ (fun c162 => ?_) (fun c162 => ?_)
                  · refine gv_run 1 true hD (pc' := 212) (lv' := [(0, .inr (.inr (some 0))), (1, .inl v1_8), (2, .inr (.inl v2_24)), (4, .inl v4_40), (5, .inl v5_40)]) (st' := [.inl 0, .inr (.inr (some 0))]) (h' := gr_h I38 J39) (C := (True ∧ True)) rfl ⟨trivial, trivial⟩ ?_
                    refine gv_pick [0, 1, 2, 3] rfl ?_
                    exact L212 0 (by omega)
                  · refine gv_run 2 true hD (pc' := 212) (lv' := [(0, .inr (.inr (some 0))), (1, .inl v1_8), (2, .inr (.inl v2_24)), (4, .inl v4_40), (5, .inl v5_40)]) (st' := [.inl 1, .inr (.inr (some 0))]) (h' := gr_h I38 J39) (C := ((True ∧ True) ∧ True)) rfl ⟨⟨trivial, trivial⟩, trivial⟩ ?_
                    refine gv_pick [0, 1, 2, 3] rfl ?_
                    exact L212 1 (by omega)
                · refine gv_run 3 true hD (pc' := 191) (lv' := [(0, .inr (.inr (some 0))), (1, .inl v1_8), (2, .inr (.inl v2_24)), (4, .inl v4_40), (5, .inl v5_40)]) (st' := [.inl v5_40, .inl 5, .inr (.inr (some 0))]) (h' := gr_h I38 J39) (C := (((True ∧ True) ∧ True) ∧ True)) rfl ⟨⟨⟨trivial, trivial⟩, trivial⟩, trivial⟩ ?_
                  obtain ⟨r163, h163, E163, P163⟩ := r_no (ws0 := ws0) (tb := tb) hws htb ext I38 J39 hI38 5 v5_40 ⟨by omega, by omega⟩ ⟨by omega, by omega⟩ 
                  obtain ⟨I164, J165, rfl, hI164, g163, k163, ⟨z163, rfl, q163⟩⟩ := P163
                  have FI164 := gr_frt FI38 g163 rfl rfl
                  have FJ165 := gr_fjt FJ39 k163 rfl rfl
                  have t166 := g163 0 71 rfl
                  have t167 := g163 0 72 rfl
                  have t168 := g163 0 73 rfl
                  have t169 := g163 0 69 rfl
                  have t170 := g163 0 6 rfl
                  have t171 := g163 13 (Int.toNat v1_8) rfl
                  have t172 := g163 14 (Int.toNat v1_8) rfl
                  have f173 := (show 0 ≤ I164 0 71 ∧ I164 0 71 ≤ 5 from (hI164 0 71).1)
                  have f174 := (show 0 ≤ I164 0 72 ∧ I164 0 72 ≤ 1000 from (hI164 0 72).1)
                  have f175 := (show 0 ≤ I164 0 73 ∧ I164 0 73 ≤ 1001 from (hI164 0 73).1)
                  have f176 := (show 0 ≤ I164 0 69 ∧ I164 0 69 ≤ 1000 from (hI164 0 69).1)
                  have f177 := (show (-1) ≤ I164 0 6 ∧ I164 0 6 ≤ 7 from (hI164 0 6).1)
                  have KVF_I164 := gr_VF_fr KVF_I38 (fun k => g163 14 k rfl) (fun k => g163 13 k rfl)
                  have t178 := KVF_I164 (Int.toNat v1_8) (by omega)
                  refine gv_callV hD rfl (As := [.inl 5, .inl v5_40]) (st := []) rfl (by decide) rfl rfl (gr_lV hws rfl) (Nat.le_of_ble_eq_true rfl) (gz_Ev_mono (d := 1) (by decide) E163) ?_
                  show gv_X _ _ (194, [(0, .inr (.inr (some 0))), (1, .inl v1_8), (2, .inr (.inl v2_24)), (4, .inl v4_40), (5, .inl v5_40)], [.inl z163], gr_sh ++ ext, gr_h I164 J165)
                  exact gv_zret hD rfl (by omega) ⟨I164, J165, rfl, hI164, FI164, FJ165, KVF_I164, ⟨_, rfl, by omega⟩⟩
              · refine gv_run 2 true hD (pc' := 177) (lv' := [(0, .inr (.inr (some 0))), (1, .inl v1_8), (2, .inr (.inl v2_24)), (4, .inl v4_40), (5, .inl v5_40)]) (st' := [.inl 1, .inr (.inr (some 0))]) (h' := gr_h I38 J39) (C := ((True ∧ True) ∧ True)) rfl ⟨⟨trivial, trivial⟩, trivial⟩ ?_
                obtain ⟨r179, h179, E179, P179⟩ := r_no_ (ws0 := ws0) (tb := tb) hws htb ext I38 J39 hI38 1 ⟨by omega, by omega⟩ 
                obtain ⟨I180, J181, rfl, hI180, g179, k179, ⟨z179, rfl, q179⟩⟩ := P179
                have FI180 := gr_frt FI38 g179 rfl rfl
                have FJ181 := gr_fjt FJ39 k179 rfl rfl
                have t182 := g179 0 71 rfl
                have t183 := g179 0 72 rfl
                have t184 := g179 0 73 rfl
                have t185 := g179 0 69 rfl
                have t186 := g179 0 6 rfl
                have t187 := g179 13 (Int.toNat v1_8) rfl
                have t188 := g179 14 (Int.toNat v1_8) rfl
                have f189 := (show 0 ≤ I180 0 71 ∧ I180 0 71 ≤ 5 from (hI180 0 71).1)
                have f190 := (show 0 ≤ I180 0 72 ∧ I180 0 72 ≤ 1000 from (hI180 0 72).1)
                have f191 := (show 0 ≤ I180 0 73 ∧ I180 0 73 ≤ 1001 from (hI180 0 73).1)
                have f192 := (show 0 ≤ I180 0 69 ∧ I180 0 69 ≤ 1000 from (hI180 0 69).1)
                have f193 := (show (-1) ≤ I180 0 6 ∧ I180 0 6 ≤ 7 from (hI180 0 6).1)
                have KVF_I180 := gr_VF_fr KVF_I38 (fun k => g179 14 k rfl) (fun k => g179 13 k rfl)
                have t194 := KVF_I180 (Int.toNat v1_8) (by omega)
                refine gv_callV hD rfl (As := [.inl 1]) (st := []) rfl (by decide) rfl rfl (gr_lV hws rfl) (Nat.le_of_ble_eq_true rfl) (gz_Ev_mono (d := 2) (by decide) E179) ?_
                show gv_X _ _ (180, [(0, .inr (.inr (some 0))), (1, .inl v1_8), (2, .inr (.inl v2_24)), (4, .inl v4_40), (5, .inl v5_40)], [.inl z179], gr_sh ++ ext, gr_h I180 J181)
                exact gv_zret hD rfl (by omega) ⟨I180, J181, rfl, hI180, FI180, FJ181, KVF_I180, ⟨_, rfl, by omega⟩⟩
            · refine gv_run 2 true hD (pc' := 89) (lv' := [(0, .inr (.inr (some 0))), (1, .inl v1_8), (2, .inr (.inl v2_24)), (4, .inl v4_40), (5, .inl v5_40)]) (st' := [.inl 6, .inl v4_40]) (h' := gr_h I38 J39) (C := ((True ∧ True) ∧ True)) rfl ⟨⟨trivial, trivial⟩, trivial⟩ ?_
              refine gv_icmp_ne (t := 98) hD rfl rfl ⟨⟨by omega, by omega⟩, ⟨by omega, by omega⟩⟩ (fun c195 => ?_) (fun c195 => ?_)
              · refine gv_run 7 true hD (pc' := 110) (lv' := [(0, .inr (.inr (some 0))), (1, .inl v1_8), (2, .inr (.inl v2_24)), (4, .inl v4_40), (5, .inl v5_40)]) (st' := [.inr (.inr (some 14)), .inl (48 * v1_8), .inr (.inr (some 21))]) (h' := gr_h I38 J39) (C := (((((((True ∧ True) ∧ True) ∧ True) ∧ True) ∧ True) ∧ True) ∧ True)) rfl ⟨⟨⟨⟨⟨⟨⟨trivial, trivial⟩, trivial⟩, trivial⟩, trivial⟩, trivial⟩, trivial⟩, trivial⟩ ?_
                have f196 := (show 0 ≤ I38 14 (Int.toNat v1_8) ∧ I38 14 (Int.toNat v1_8) ≤ 48 from (hI38 14 (Int.toNat v1_8)).1)
                refine gv_run 2 true hD (pc' := 112) (lv' := [(0, .inr (.inr (some 0))), (1, .inl v1_8), (2, .inr (.inl v2_24)), (4, .inl v4_40), (5, .inl v5_40)]) (st' := [.inl (I38 14 (Int.toNat v1_8)), .inl (48 * v1_8), .inr (.inr (some 21))]) (h' := gr_h I38 J39) (C := ((True ∧ True) ∧ (0 ≤ v1_8 ∧ v1_8 < ((8 : Nat) : Int)))) rfl ⟨⟨trivial, trivial⟩, ⟨by omega, by omega⟩⟩ ?_
                refine gv_run 2 true hD (pc' := 116) (lv' := [(0, .inr (.inr (some 0))), (1, .inl v1_8), (2, .inr (.inl v2_24)), (4, .inl v4_40), (5, .inl v5_40)]) (st' := [.inr (.inl (J39 0 75)), .inl (I38 14 (Int.toNat v1_8)), .inl (48 * v1_8), .inr (.inr (some 21))]) (h' := gr_h I38 J39) (C := ((True ∧ True) ∧ True)) rfl ⟨⟨trivial, trivial⟩, trivial⟩ ?_
                obtain ⟨r197, h197, E197, P197⟩ := r_find_21 (ws0 := ws0) (tb := tb) hws htb ext I38 J39 hI38 (48 * v1_8) ((I38 14 (Int.toNat v1_8))) (J39 0 75) ⟨by omega, by omega⟩ ⟨by omega, by omega⟩ (by omega)
                obtain ⟨rfl, ⟨z197, rfl, q197⟩⟩ := P197
                refine gv_callS hD rfl (As := [.inr (.inr (some 21)), .inl (48 * v1_8), .inl (I38 14 (Int.toNat v1_8)), .inr (.inl (J39 0 75))]) (st := []) rfl (gr_lS hws rfl) (Nat.le_of_ble_eq_true rfl) (gz_Ev_mono (d := 1) (by decide) E197) ?_
                show gv_X _ _ (119, [(0, .inr (.inr (some 0))), (1, .inl v1_8), (2, .inr (.inl v2_24)), (4, .inl v4_40), (5, .inl v5_40)], [.inl z197], gr_sh ++ ext, gr_h I38 J39)
                refine gv_if_ge (t := 139) hD rfl rfl ⟨by omega, by omega⟩ (fun c198 => ?_) (fun c198 => ?_)
                · refine gv_pick [0] rfl ?_
                  exact L139 (by omega)
                · refine gv_run 6 true hD (pc' := 133) (lv' := [(0, .inr (.inr (some 0))), (1, .inl v1_8), (2, .inr (.inl v2_24)), (4, .inl v4_40), (5, .inl v5_40)]) (st' := [.inr (.inl (J39 0 75)), .inl v4_40, .inl 0, .inr (.inr (some 62))]) (h' := gr_h I38 J39) (C := ((((((True ∧ True) ∧ True) ∧ True) ∧ True) ∧ True) ∧ True)) rfl ⟨⟨⟨⟨⟨⟨trivial, trivial⟩, trivial⟩, trivial⟩, trivial⟩, trivial⟩, trivial⟩ ?_
                  obtain ⟨r199, h199, E199, P199⟩ := r_find_62 (ws0 := ws0) (tb := tb) hws htb ext I38 J39 hI38 0 v4_40 (J39 0 75) ⟨by omega, by omega⟩ ⟨by omega, by omega⟩ (by omega)
                  obtain ⟨rfl, ⟨z199, rfl, q199⟩⟩ := P199
                  refine gv_callS hD rfl (As := [.inr (.inr (some 62)), .inl 0, .inl v4_40, .inr (.inl (J39 0 75))]) (st := []) rfl (gr_lS hws rfl) (Nat.le_of_ble_eq_true rfl) (gz_Ev_mono (d := 1) (by decide) E199) ?_
                  show gv_X _ _ (136, [(0, .inr (.inr (some 0))), (1, .inl v1_8), (2, .inr (.inl v2_24)), (4, .inl v4_40), (5, .inl v5_40)], [.inl z199], gr_sh ++ ext, gr_h I38 J39)
                  refine gv_if_lt (t := 145) hD rfl rfl ⟨by omega, by omega⟩ (fun c200 => ?_) (fun c200 => ?_)
                  · refine gv_run 6 true hD (pc' := 158) (lv' := [(4, .inl (v4_40 + 1)), (0, .inr (.inr (some 0))), (1, .inl v1_8), (2, .inr (.inl v2_24)), (5, .inl v5_40)]) (st' := [.inr (.inl (J39 0 75)), .inl v4_40, .inr (.inr (some 62))]) (h' := gr_h I38 J39) (C := ((((((True ∧ True) ∧ True) ∧ True) ∧ True) ∧ True) ∧ True)) rfl ⟨⟨⟨⟨⟨⟨trivial, trivial⟩, trivial⟩, trivial⟩, trivial⟩, trivial⟩, trivial⟩ ?_
                    refine gv_run 1 true hD (pc' := 159) (lv' := [(4, .inl (v4_40 + 1)), (0, .inr (.inr (some 0))), (1, .inl v1_8), (2, .inr (.inl v2_24)), (5, .inl v5_40)]) (st' := []) (h' := gz_up (gr_h I38 J39) 62 (Int.toNat v4_40) (.inr (.inl (J39 0 75)))) (C := (True ∧ (0 ≤ v4_40 ∧ v4_40 < ((6 : Nat) : Int)))) rfl ⟨trivial, ⟨by omega, by omega⟩⟩ ?_
                    refine gr_stJ FJ39 rfl rfl (fun J201 FJ201 => ?_)
                    refine gv_run 1 true hD (pc' := 160) (lv' := [(4, .inl (v4_40 + 1)), (0, .inr (.inr (some 0))), (1, .inl v1_8), (2, .inr (.inl v2_24)), (5, .inl v5_40)]) (st' := [.inr (.inr (some 0))]) (h' := gr_h I38 J201) (C := (True ∧ True)) rfl ⟨trivial, trivial⟩ ?_
                    obtain ⟨r202, h202, E202, P202⟩ := r_next (ws0 := ws0) (tb := tb) hws htb ext I38 J201 hI38   (by omega)
                    obtain ⟨I203, J204, rfl, hI203, g202, k202, ⟨rfl, q202⟩⟩ := P202
                    have FI203 := gr_frt FI38 g202 rfl rfl
                    have FJ204 := gr_fjt FJ201 k202 rfl rfl
                    have t205 := g202 0 69 rfl
                    have t206 := g202 0 6 rfl
                    have t207 := g202 13 (Int.toNat v1_8) rfl
                    have t208 := g202 14 (Int.toNat v1_8) rfl
                    have f209 := (show 0 ≤ I203 0 71 ∧ I203 0 71 ≤ 5 from (hI203 0 71).1)
                    have f210 := (show 0 ≤ I203 0 72 ∧ I203 0 72 ≤ 1000 from (hI203 0 72).1)
                    have f211 := (show 0 ≤ I203 0 73 ∧ I203 0 73 ≤ 1001 from (hI203 0 73).1)
                    have f212 := (show 0 ≤ I203 0 69 ∧ I203 0 69 ≤ 1000 from (hI203 0 69).1)
                    have f213 := (show (-1) ≤ I203 0 6 ∧ I203 0 6 ≤ 7 from (hI203 0 6).1)
                    have KVF_I203 := gr_VF_fr KVF_I38 (fun k => g202 14 k rfl) (fun k => g202 13 k rfl)
                    have t214 := KVF_I203 (Int.toNat v1_8) (by omega)
                    refine gv_callV hD rfl (As := []) (st := []) rfl (by decide) rfl rfl (gr_lV hws rfl) (Nat.le_of_ble_eq_true rfl) (gz_Ev_mono (d := 10) (by decide) E202) ?_
                    show gv_X _ _ (163, [(4, .inl (v4_40 + 1)), (0, .inr (.inr (some 0))), (1, .inl v1_8), (2, .inr (.inl v2_24)), (5, .inl v5_40)], [], gr_sh ++ ext, gr_h I203 J204)
                    refine gv_run 1 true hD (pc' := 77) (lv' := [(4, .inl (v4_40 + 1)), (0, .inr (.inr (some 0))), (1, .inl v1_8), (2, .inr (.inl v2_24)), (5, .inl v5_40)]) (st' := []) (h' := gr_h I203 J204) (C := (True ∧ True)) rfl ⟨trivial, trivial⟩ ?_
                    refine gv_pick [1, 2, 3, 0, 4] rfl ?_
                    exact ih77 I203 J204 (v4_40 + 1) v5_40 (by omega) hI203 FI203 FJ204 KVF_I203 (by omega)
                  · refine gv_pick [0] rfl ?_
                    exact L139 (by omega)
              · refine gv_run 2 true hD (pc' := 94) (lv' := [(0, .inr (.inr (some 0))), (1, .inl v1_8), (2, .inr (.inl v2_24)), (4, .inl v4_40), (5, .inl v5_40)]) (st' := [.inl 5, .inr (.inr (some 0))]) (h' := gr_h I38 J39) (C := ((True ∧ True) ∧ True)) rfl ⟨⟨trivial, trivial⟩, trivial⟩ ?_
                obtain ⟨r215, h215, E215, P215⟩ := r_no_ (ws0 := ws0) (tb := tb) hws htb ext I38 J39 hI38 5 ⟨by omega, by omega⟩ 
                obtain ⟨I216, J217, rfl, hI216, g215, k215, ⟨z215, rfl, q215⟩⟩ := P215
                have FI216 := gr_frt FI38 g215 rfl rfl
                have FJ217 := gr_fjt FJ39 k215 rfl rfl
                have t218 := g215 0 71 rfl
                have t219 := g215 0 72 rfl
                have t220 := g215 0 73 rfl
                have t221 := g215 0 69 rfl
                have t222 := g215 0 6 rfl
                have t223 := g215 13 (Int.toNat v1_8) rfl
                have t224 := g215 14 (Int.toNat v1_8) rfl
                have f225 := (show 0 ≤ I216 0 71 ∧ I216 0 71 ≤ 5 from (hI216 0 71).1)
                have f226 := (show 0 ≤ I216 0 72 ∧ I216 0 72 ≤ 1000 from (hI216 0 72).1)
                have f227 := (show 0 ≤ I216 0 73 ∧ I216 0 73 ≤ 1001 from (hI216 0 73).1)
                have f228 := (show 0 ≤ I216 0 69 ∧ I216 0 69 ≤ 1000 from (hI216 0 69).1)
                have f229 := (show (-1) ≤ I216 0 6 ∧ I216 0 6 ≤ 7 from (hI216 0 6).1)
                have KVF_I216 := gr_VF_fr KVF_I38 (fun k => g215 14 k rfl) (fun k => g215 13 k rfl)
                have t230 := KVF_I216 (Int.toNat v1_8) (by omega)
                refine gv_callV hD rfl (As := [.inl 5]) (st := []) rfl (by decide) rfl rfl (gr_lV hws rfl) (Nat.le_of_ble_eq_true rfl) (gz_Ev_mono (d := 2) (by decide) E215) ?_
                show gv_X _ _ (97, [(0, .inr (.inr (some 0))), (1, .inl v1_8), (2, .inr (.inl v2_24)), (4, .inl v4_40), (5, .inl v5_40)], [.inl z215], gr_sh ++ ext, gr_h I216 J217)
                exact gv_zret hD rfl (by omega) ⟨I216, J217, rfl, hI216, FI216, FJ217, KVF_I216, ⟨_, rfl, by omega⟩⟩
        have f231 := (show 0 ≤ I30 0 72 ∧ I30 0 72 ≤ 1000 from (hI30 0 72).1)
        refine gv_run 5 true hD (pc' := 77) (lv' := [(5, .inl (I30 0 72)), (4, .inl 0), (0, .inr (.inr (some 0))), (1, .inl v1_8), (2, .inr (.inl v2_24))]) (st' := []) (h' := gr_h I30 J31) (C := (((((True ∧ True) ∧ True) ∧ True) ∧ True) ∧ True)) rfl ⟨⟨⟨⟨⟨trivial, trivial⟩, trivial⟩, trivial⟩, trivial⟩, trivial⟩ ?_
        refine gv_pick [2, 3, 4, 1, 0] rfl ?_
        exact L77 _ I30 J31 0 (I30 0 72) (Nat.lt_succ_self _) hI30 FI30 FJ31 KVF_I30 (by omega)
      refine gv_run 1 true hD (pc' := 60) (lv' := [(0, .inr (.inr (some 0))), (1, .inl v1_8), (2, .inr (.inl v2_24))]) (st' := [.inr (.inr (some 0))]) (h' := gr_h I22 J23) (C := (True ∧ True)) rfl ⟨trivial, trivial⟩ ?_
      obtain ⟨r232, h232, E232, P232⟩ := r_name (ws0 := ws0) (tb := tb) hws htb ext I22 J23 hI22   
      obtain ⟨I233, J234, rfl, hI233, g232, k232, ⟨z232, rfl, q232⟩⟩ := P232
      have FI233 := gr_frt FI22 g232 rfl rfl
      have FJ234 := gr_fjt FJ23 k232 rfl rfl
      have t235 := g232 0 71 rfl
      have t236 := g232 0 72 rfl
      have t237 := g232 0 73 rfl
      have t238 := g232 0 69 rfl
      have t239 := g232 0 6 rfl
      have t240 := g232 13 (Int.toNat v1_8) rfl
      have t241 := g232 14 (Int.toNat v1_8) rfl
      have f242 := (show 0 ≤ I233 0 71 ∧ I233 0 71 ≤ 5 from (hI233 0 71).1)
      have f243 := (show 0 ≤ I233 0 72 ∧ I233 0 72 ≤ 1000 from (hI233 0 72).1)
      have f244 := (show 0 ≤ I233 0 73 ∧ I233 0 73 ≤ 1001 from (hI233 0 73).1)
      have f245 := (show 0 ≤ I233 0 69 ∧ I233 0 69 ≤ 1000 from (hI233 0 69).1)
      have f246 := (show (-1) ≤ I233 0 6 ∧ I233 0 6 ≤ 7 from (hI233 0 6).1)
      have KVF_I233 := gr_VF_fr KVF_I22 (fun k => g232 14 k rfl) (fun k => g232 13 k rfl)
      have t247 := KVF_I233 (Int.toNat v1_8) (by omega)
      refine gv_callV hD rfl (As := []) (st := []) rfl (by decide) rfl rfl (gr_lV hws rfl) (Nat.le_of_ble_eq_true rfl) (gz_Ev_mono (d := 3) (by decide) E232) ?_
      show gv_X _ _ (63, [(0, .inr (.inr (some 0))), (1, .inl v1_8), (2, .inr (.inl v2_24))], [.inl z232], gr_sh ++ ext, gr_h I233 J234)
      refine gv_if_ne (t := 68) hD rfl rfl ⟨by omega, by omega⟩ (fun c248 => ?_) (fun c248 => ?_)
      · exact L68 I233 J234 hI233 FI233 FJ234 KVF_I233 (by omega)
      · refine gv_pick [] rfl ?_
        exact L66 I233 J234 hI233 FI233 FJ234 KVF_I233 (by omega)
    refine gv_run 7 true hD (pc' := 26) (lv' := [(2, .inr (.inl (J7 0 75))), (0, .inr (.inr (some 0))), (1, .inl v1_8)]) (st' := [.inl v1_8, .inl 8, .inr (.inr (some 20))]) (h' := gr_h I6 J7) (C := (((((((True ∧ True) ∧ True) ∧ True) ∧ True) ∧ True) ∧ True) ∧ True)) rfl ⟨⟨⟨⟨⟨⟨⟨trivial, trivial⟩, trivial⟩, trivial⟩, trivial⟩, trivial⟩, trivial⟩, trivial⟩ ?_
    have f249 := (show 0 ≤ I6 13 (Int.toNat v1_8) ∧ I6 13 (Int.toNat v1_8) ≤ 8 from (hI6 13 (Int.toNat v1_8)).1)
    refine gv_run 5 true hD (pc' := 33) (lv' := [(2, .inr (.inl (J7 0 75))), (0, .inr (.inr (some 0))), (1, .inl v1_8)]) (st' := [.inl (I6 13 (Int.toNat v1_8)), .inl (8 * v1_8), .inr (.inr (some 20))]) (h' := gr_h I6 J7) (C := (((((True ∧ True) ∧ True) ∧ True) ∧ True) ∧ (0 ≤ v1_8 ∧ v1_8 < ((8 : Nat) : Int)))) rfl ⟨⟨⟨⟨⟨trivial, trivial⟩, trivial⟩, trivial⟩, trivial⟩, ⟨by omega, by omega⟩⟩ ?_
    refine gv_run 1 true hD (pc' := 34) (lv' := [(2, .inr (.inl (J7 0 75))), (0, .inr (.inr (some 0))), (1, .inl v1_8)]) (st' := [.inr (.inl (J7 0 75)), .inl (I6 13 (Int.toNat v1_8)), .inl (8 * v1_8), .inr (.inr (some 20))]) (h' := gr_h I6 J7) (C := (True ∧ True)) rfl ⟨trivial, trivial⟩ ?_
    obtain ⟨r250, h250, E250, P250⟩ := r_find_20 (ws0 := ws0) (tb := tb) hws htb ext I6 J7 hI6 (8 * v1_8) ((I6 13 (Int.toNat v1_8))) (J7 0 75) ⟨by omega, by omega⟩ ⟨by omega, by omega⟩ (by omega)
    obtain ⟨rfl, ⟨z250, rfl, q250⟩⟩ := P250
    refine gv_callS hD rfl (As := [.inr (.inr (some 20)), .inl (8 * v1_8), .inl (I6 13 (Int.toNat v1_8)), .inr (.inl (J7 0 75))]) (st := []) rfl (gr_lS hws rfl) (Nat.le_of_ble_eq_true rfl) (gz_Ev_mono (d := 1) (by decide) E250) ?_
    show gv_X _ _ (37, [(2, .inr (.inl (J7 0 75))), (0, .inr (.inr (some 0))), (1, .inl v1_8)], [.inl z250], gr_sh ++ ext, gr_h I6 J7)
    refine gv_if_lt (t := 46) hD rfl rfl ⟨by omega, by omega⟩ (fun c251 => ?_) (fun c251 => ?_)
    · refine gv_run 1 true hD (pc' := 47) (lv' := [(2, .inr (.inl (J7 0 75))), (0, .inr (.inr (some 0))), (1, .inl v1_8)]) (st' := [.inr (.inr (some 0))]) (h' := gr_h I6 J7) (C := (True ∧ True)) rfl ⟨trivial, trivial⟩ ?_
      obtain ⟨r252, h252, E252, P252⟩ := r_next (ws0 := ws0) (tb := tb) hws htb ext I6 J7 hI6   (by omega)
      obtain ⟨I253, J254, rfl, hI253, g252, k252, ⟨rfl, q252⟩⟩ := P252
      have FI253 := gr_frt FI6 g252 rfl rfl
      have FJ254 := gr_fjt FJ7 k252 rfl rfl
      have t255 := g252 0 69 rfl
      have t256 := g252 0 6 rfl
      have t257 := g252 13 (Int.toNat v1_8) rfl
      have t258 := g252 14 (Int.toNat v1_8) rfl
      have f259 := (show 0 ≤ I253 0 71 ∧ I253 0 71 ≤ 5 from (hI253 0 71).1)
      have f260 := (show 0 ≤ I253 0 72 ∧ I253 0 72 ≤ 1000 from (hI253 0 72).1)
      have f261 := (show 0 ≤ I253 0 73 ∧ I253 0 73 ≤ 1001 from (hI253 0 73).1)
      have f262 := (show 0 ≤ I253 0 69 ∧ I253 0 69 ≤ 1000 from (hI253 0 69).1)
      have f263 := (show (-1) ≤ I253 0 6 ∧ I253 0 6 ≤ 7 from (hI253 0 6).1)
      have KVF_I253 := gr_VF_fr KVF_I6 (fun k => g252 14 k rfl) (fun k => g252 13 k rfl)
      have t264 := KVF_I253 (Int.toNat v1_8) (by omega)
      refine gv_callV hD rfl (As := []) (st := []) rfl (by decide) rfl rfl (gr_lV hws rfl) (Nat.le_of_ble_eq_true rfl) (gz_Ev_mono (d := 10) (by decide) E252) ?_
      show gv_X _ _ (50, [(2, .inr (.inl (J7 0 75))), (0, .inr (.inr (some 0))), (1, .inl v1_8)], [], gr_sh ++ ext, gr_h I253 J254)
      refine gv_run 2 true hD (pc' := 53) (lv' := [(2, .inr (.inl (J7 0 75))), (0, .inr (.inr (some 0))), (1, .inl v1_8)]) (st' := [.inl 61, .inr (.inr (some 0))]) (h' := gr_h I253 J254) (C := ((True ∧ True) ∧ True)) rfl ⟨⟨trivial, trivial⟩, trivial⟩ ?_
      obtain ⟨r265, h265, E265, P265⟩ := r_need (ws0 := ws0) (tb := tb) hws htb ext I253 J254 hI253 61 ⟨by omega, by omega⟩ (by omega) (by omega) (by omega) (by omega) (by omega)
      obtain ⟨I266, J267, rfl, hI266, g265, k265, ⟨z265, rfl, q265⟩⟩ := P265
      have FI266 := gr_frt FI253 g265 rfl rfl
      have FJ267 := gr_fjt FJ254 k265 rfl rfl
      have t268 := g265 0 69 rfl
      have t269 := g265 0 6 rfl
      have t270 := g265 13 (Int.toNat v1_8) rfl
      have t271 := g265 14 (Int.toNat v1_8) rfl
      have f272 := (show 0 ≤ I266 0 71 ∧ I266 0 71 ≤ 5 from (hI266 0 71).1)
      have f273 := (show 0 ≤ I266 0 72 ∧ I266 0 72 ≤ 1000 from (hI266 0 72).1)
      have f274 := (show 0 ≤ I266 0 73 ∧ I266 0 73 ≤ 1001 from (hI266 0 73).1)
      have f275 := (show 0 ≤ I266 0 69 ∧ I266 0 69 ≤ 1000 from (hI266 0 69).1)
      have f276 := (show (-1) ≤ I266 0 6 ∧ I266 0 6 ≤ 7 from (hI266 0 6).1)
      have KVF_I266 := gr_VF_fr KVF_I253 (fun k => g265 14 k rfl) (fun k => g265 13 k rfl)
      have t277 := KVF_I266 (Int.toNat v1_8) (by omega)
      refine gv_callV hD rfl (As := [.inl 61]) (st := []) rfl (by decide) rfl rfl (gr_lV hws rfl) (Nat.le_of_ble_eq_true rfl) (gz_Ev_mono (d := 11) (by decide) E265) ?_
      show gv_X _ _ (56, [(2, .inr (.inl (J7 0 75))), (0, .inr (.inr (some 0))), (1, .inl v1_8)], [.inl z265], gr_sh ++ ext, gr_h I266 J267)
      refine gv_if_eq (t := 66) hD rfl rfl ⟨by omega, by omega⟩ (fun c278 => ?_) (fun c278 => ?_)
      · refine gv_pick [] rfl ?_
        exact L66 I266 J267 hI266 FI266 FJ267 KVF_I266 (by omega)
      · refine gv_pick [1, 2, 0] rfl ?_
        exact L59 I266 J267 (J7 0 75) hI266 FI266 FJ267 KVF_I266 (by omega)
    · refine gv_run 2 true hD (pc' := 42) (lv' := [(2, .inr (.inl (J7 0 75))), (0, .inr (.inr (some 0))), (1, .inl v1_8)]) (st' := [.inl 4, .inr (.inr (some 0))]) (h' := gr_h I6 J7) (C := ((True ∧ True) ∧ True)) rfl ⟨⟨trivial, trivial⟩, trivial⟩ ?_
      obtain ⟨r279, h279, E279, P279⟩ := r_no_ (ws0 := ws0) (tb := tb) hws htb ext I6 J7 hI6 4 ⟨by omega, by omega⟩ 
      obtain ⟨I280, J281, rfl, hI280, g279, k279, ⟨z279, rfl, q279⟩⟩ := P279
      have FI280 := gr_frt FI6 g279 rfl rfl
      have FJ281 := gr_fjt FJ7 k279 rfl rfl
      have t282 := g279 0 71 rfl
      have t283 := g279 0 72 rfl
      have t284 := g279 0 73 rfl
      have t285 := g279 0 69 rfl
      have t286 := g279 0 6 rfl
      have t287 := g279 13 (Int.toNat v1_8) rfl
      have t288 := g279 14 (Int.toNat v1_8) rfl
      have f289 := (show 0 ≤ I280 0 71 ∧ I280 0 71 ≤ 5 from (hI280 0 71).1)
      have f290 := (show 0 ≤ I280 0 72 ∧ I280 0 72 ≤ 1000 from (hI280 0 72).1)
      have f291 := (show 0 ≤ I280 0 73 ∧ I280 0 73 ≤ 1001 from (hI280 0 73).1)
      have f292 := (show 0 ≤ I280 0 69 ∧ I280 0 69 ≤ 1000 from (hI280 0 69).1)
      have f293 := (show (-1) ≤ I280 0 6 ∧ I280 0 6 ≤ 7 from (hI280 0 6).1)
      have KVF_I280 := gr_VF_fr KVF_I6 (fun k => g279 14 k rfl) (fun k => g279 13 k rfl)
      have t294 := KVF_I280 (Int.toNat v1_8) (by omega)
      refine gv_callV hD rfl (As := [.inl 4]) (st := []) rfl (by decide) rfl rfl (gr_lV hws rfl) (Nat.le_of_ble_eq_true rfl) (gz_Ev_mono (d := 2) (by decide) E279) ?_
      show gv_X _ _ (45, [(2, .inr (.inl (J7 0 75))), (0, .inr (.inr (some 0))), (1, .inl v1_8)], [.inl z279], gr_sh ++ ext, gr_h I280 J281)
      exact gv_zret hD rfl (by omega) ⟨I280, J281, rfl, hI280, FI280, FJ281, KVF_I280, ⟨_, rfl, by omega⟩⟩
  have f295 := (show (-1) ≤ I 0 6 ∧ I 0 6 ≤ 7 from (hI 0 6).1)
  refine gv_run 4 true hD (pc' := 6) (lv' := [(1, .inl (I 0 6)), (0, .inr (.inr (some 0)))]) (st' := [.inr (.inr (some 0))]) (h' := gr_h I J) (C := ((((True ∧ True) ∧ True) ∧ True) ∧ True)) rfl ⟨⟨⟨⟨trivial, trivial⟩, trivial⟩, trivial⟩, trivial⟩ ?_
  obtain ⟨r296, h296, E296, P296⟩ := r_name (ws0 := ws0) (tb := tb) hws htb ext I J hI   
  obtain ⟨I297, J298, rfl, hI297, g296, k296, ⟨z296, rfl, q296⟩⟩ := P296
  have FI297 := gr_frt FI g296 rfl rfl
  have FJ298 := gr_fjt FJ k296 rfl rfl
  have t299 := g296 0 71 rfl
  have t300 := g296 0 72 rfl
  have t301 := g296 0 73 rfl
  have t302 := g296 0 69 rfl
  have t303 := g296 0 6 rfl
  have t304 := g296 13 (Int.toNat ((I 0 6))) rfl
  have t305 := g296 14 (Int.toNat ((I 0 6))) rfl
  have f306 := (show 0 ≤ I297 0 71 ∧ I297 0 71 ≤ 5 from (hI297 0 71).1)
  have f307 := (show 0 ≤ I297 0 72 ∧ I297 0 72 ≤ 1000 from (hI297 0 72).1)
  have f308 := (show 0 ≤ I297 0 73 ∧ I297 0 73 ≤ 1001 from (hI297 0 73).1)
  have f309 := (show 0 ≤ I297 0 69 ∧ I297 0 69 ≤ 1000 from (hI297 0 69).1)
  have f310 := (show (-1) ≤ I297 0 6 ∧ I297 0 6 ≤ 7 from (hI297 0 6).1)
  have KVF_I297 := gr_VF_fr KVF_I (fun k => g296 14 k rfl) (fun k => g296 13 k rfl)
  have t311 := KVF_I297 (Int.toNat ((I 0 6))) (by omega)
  refine gv_callV hD rfl (As := []) (st := []) rfl (by decide) rfl rfl (gr_lV hws rfl) (Nat.le_of_ble_eq_true rfl) (gz_Ev_mono (d := 3) (by decide) E296) ?_
  show gv_X _ _ (9, [(1, .inl (I 0 6)), (0, .inr (.inr (some 0)))], [.inl z296], gr_sh ++ ext, gr_h I297 J298)
  refine gv_if_ne (t := 14) hD rfl rfl ⟨by omega, by omega⟩ (fun c312 => ?_) (fun c312 => ?_)
  · refine gv_pick [1, 0] rfl ?_
    exact L14 I297 J298 (I 0 6) hI297 FI297 FJ298 KVF_I297 (by omega)
  · refine gv_run 1 true hD (pc' := 13) (lv' := [(1, .inl (I 0 6)), (0, .inr (.inr (some 0)))]) (st' := [.inl 0]) (h' := gr_h I297 J298) (C := (True ∧ True)) rfl ⟨trivial, trivial⟩ ?_
    exact gv_zret hD rfl (by omega) ⟨I297, J298, rfl, hI297, FI297, FJ298, KVF_I297, ⟨_, rfl, by omega⟩⟩
