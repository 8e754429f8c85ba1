set_option maxHeartbeats 16000000 in
set_option maxRecDepth 100000 in
theorem r_pattern_p {ws0 : List Cond} {tb : String → gz_T} (hws : ∀ w ∈ gr_ws, w ∈ ws0) (htb : tb RX13 = gr_T) (ext : gz_Sh) (β : Int → Int) (N9 : Int) (p9 : Int) (I : gr_I) (J : gr_J) (hI : gr_Inv I)   (x0 : I 0 71 = 5 ∨ I 0 73 ≤ I 0 69) (x1 : I 0 72 ≤ I 0 69) (x2 : I 0 71 = 0 ∨ (I 0 72 < I 0 73 ∧ I 0 72 < I 0 69)) (x3 : I 0 71 = 3 → 2 ≤ I 0 73 - I 0 72 ∧ I 0 73 - I 0 72 ≤ 14) (x4 : I 0 72 ≤ I 0 73) (x5 : 0 ≤ I 0 6) (x6 : I 0 59 + I 0 69 - I 0 72 ≤ 1900) (x7 : I 0 42 + I 0 69 - I 0 72 ≤ 1900) (x8 : gr_ATp β N9 p9 I J) (x9 : 0 ≤ p9) (x10 : gr_KW J) : ∃ r h', gz_Ev ws0 tb 12 (yX13_pattern, cX13_pattern, 8, (some .boolean)) [.inr (.inr (some 0))] (gr_sh ++ ext) (gr_h I J) r (gr_sh ++ ext) h' 0 0 ∧ (∃ (I' : gr_I) (J' : gr_J), h' = gr_h I' J' ∧ gr_Inv I' ∧ gr_fr [42, 59, 71, 72, 73, 74, 75, 76, 77, 106] [17, 23, 31, 32, 33, 34, 35, 51, 64, 65, 66] I I' ∧ gr_fj [42, 59, 71, 72, 73, 74, 75, 76, 77, 106] [17, 23, 31, 32, 33, 34, 35, 51, 64, 65, 66] J J' ∧ (∃ z : Int, r = some (.inl z) ∧ 0 ≤ z ∧ z ≤ 1 ∧ (I' 0 71 = 5 ∨ I' 0 73 ≤ I' 0 69) ∧ (I' 0 72 ≤ I' 0 69) ∧ (I' 0 71 = 0 ∨ (I' 0 72 < I' 0 73 ∧ I' 0 72 < I' 0 69)) ∧ (I' 0 71 = 3 → 2 ≤ I' 0 73 - I' 0 72 ∧ I' 0 73 - I' 0 72 ≤ 14) ∧ (I' 0 72 ≤ I' 0 73) ∧ (I' 0 69 = I 0 69) ∧ (I 0 73 ≤ I' 0 73) ∧ (I 0 72 ≤ I' 0 72) ∧ (I' 0 59 - I' 0 72 ≤ I 0 59 - I 0 72) ∧ (I' 0 42 - I' 0 72 ≤ I 0 42 - I 0 72) ∧ (gs_Or z (0 ≤ (gs_pat β N9 I J (I 0 78) p9) ∧ gr_ATp β N9 (gs_pat β N9 I J (I 0 78) p9) I' J' ∧ gs_Upat (gs_rn β N9 p9) (gs_ptw β N9 I J p9).2 I J I' J') ((gs_pat β N9 I J (I 0 78) p9) < 0 ∧ I' 0 77 = -1 - (gs_pat β N9 I J (I 0 78) p9) ∧ gs_Spt I J I' J')))) := by
  have FI : gr_fr [42, 59, 71, 72, 73, 74, 75, 76, 77, 106] [17, 23, 31, 32, 33, 34, 35, 51, 64, 65, 66] I I := fun _ _ _ => rfl
  have FJ : gr_fj [42, 59, 71, 72, 73, 74, 75, 76, 77, 106] [17, 23, 31, 32, 33, 34, 35, 51, 64, 65, 66] J J := fun _ _ _ => rfl
  have hD : gv_D (gr_E ws0 tb 11 (yX13_pattern, cX13_pattern, 8, (some .boolean)) kX13_pattern) := gq_ok oX13_pattern
  refine gr_ev (d := 11) (l := kX13_pattern) (Po := fun r h' => (∃ (I' : gr_I) (J' : gr_J), h' = gr_h I' J' ∧ gr_Inv I' ∧ gr_fr [42, 59, 71, 72, 73, 74, 75, 76, 77, 106] [17, 23, 31, 32, 33, 34, 35, 51, 64, 65, 66] I I' ∧ gr_fj [42, 59, 71, 72, 73, 74, 75, 76, 77, 106] [17, 23, 31, 32, 33, 34, 35, 51, 64, 65, 66] J J' ∧ (∃ z : Int, r = some (.inl z) ∧ 0 ≤ z ∧ z ≤ 1 ∧ (I' 0 71 = 5 ∨ I' 0 73 ≤ I' 0 69) ∧ (I' 0 72 ≤ I' 0 69) ∧ (I' 0 71 = 0 ∨ (I' 0 72 < I' 0 73 ∧ I' 0 72 < I' 0 69)) ∧ (I' 0 71 = 3 → 2 ≤ I' 0 73 - I' 0 72 ∧ I' 0 73 - I' 0 72 ≤ 14) ∧ (I' 0 72 ≤ I' 0 73) ∧ (I' 0 69 = I 0 69) ∧ (I 0 73 ≤ I' 0 73) ∧ (I 0 72 ≤ I' 0 72) ∧ (I' 0 59 - I' 0 72 ≤ I 0 59 - I 0 72) ∧ (I' 0 42 - I' 0 72 ≤ I 0 42 - I 0 72) ∧ (gs_Or z (0 ≤ (gs_pat β N9 I J (I 0 78) p9) ∧ gr_ATp β N9 (gs_pat β N9 I J (I 0 78) p9) I' J' ∧ gs_Upat (gs_rn β N9 p9) (gs_ptw β N9 I J p9).2 I J I' J') ((gs_pat β N9 I J (I 0 78) p9) < 0 ∧ I' 0 77 = -1 - (gs_pat β N9 I J (I 0 78) p9) ∧ gs_Spt I J I' J'))))) htb rfl (Nat.le_of_ble_eq_true rfl) ?_
  have tAT := gr_ATp_l x8
  clear x0 x2 x3
  have KW := x10
  have f1 := (show 0 ≤ I 0 71 ∧ I 0 71 ≤ 5 from (hI 0 71).1)
  have f2 := (show 0 ≤ I 0 72 ∧ I 0 72 ≤ 1000 from (hI 0 72).1)
  have f3 := (show 0 ≤ I 0 73 ∧ I 0 73 ≤ 1001 from (hI 0 73).1)
  have f4 := (show 0 ≤ I 0 69 ∧ I 0 69 ≤ 1000 from (hI 0 69).1)
  have f5 := (show (-1) ≤ I 0 6 ∧ I 0 6 ≤ 7 from (hI 0 6).1)
  have f6 := (show 0 ≤ I 0 59 ∧ I 0 59 ≤ 2000 from (hI 0 59).1)
  have f7 := (show 0 ≤ I 0 42 ∧ I 0 42 ≤ 2000 from (hI 0 42).1)
  have f8 := (show 0 ≤ I 0 106 ∧ I 0 106 ≤ 16777215 from (hI 0 106).1)
  have L46 : ∀ (I9 : gr_I) (J10 : gr_J) (v1_11 : Int) (v2_11 : Int64) (p_11 : Int), gr_Inv I9 → gr_fr [42, 59, 71, 72, 73, 74, 75, 76, 77, 106] [17, 23, 31, 32, 33, 34, 35, 51, 64, 65, 66] I I9 → gr_fj [42, 59, 71, 72, 73, 74, 75, 76, 77, 106] [17, 23, 31, 32, 33, 34, 35, 51, 64, 65, 66] J J10 → ((0 ≤ v1_11 ∧ v1_11 ≤ 7) ∧ (I9 0 71 = 1) ∧ (0 ≤ p_11) ∧ (I9 0 72 ≤ I9 0 69) ∧ (I9 0 72 ≤ I9 0 73) ∧ (I9 0 69 = I 0 69) ∧ (I 0 73 ≤ I9 0 73) ∧ (I 0 72 ≤ I9 0 72) ∧ (I9 0 6 = I 0 6) ∧ (I9 0 59 - I9 0 72 ≤ I 0 59 - I 0 72) ∧ (I9 0 42 - I9 0 72 ≤ I 0 42 - I 0 72)) → (gr_ATp β N9 p_11 I9 J10) → (gs_ptw β N9 I J p9 = gs_pt1 β N9 I J (gs_X β N9 p_11)) → (v1_11 = I 0 6) → (v2_11 = (gs_rn β N9 p9)) → ((∀ k, I9 17 k = I 17 k) ∧ (∀ k, I9 31 k = I 31 k) ∧ (∀ k, I9 32 k = I 32 k) ∧ (∀ k, J10 23 k = J 23 k)) → gv_X (gr_E ws0 tb 11 (yX13_pattern, cX13_pattern, 8, (some .boolean)) kX13_pattern) (gv_Q cX13_pattern (some .boolean) (gr_sh ++ ext) (fun r h' => (∃ (I' : gr_I) (J' : gr_J), h' = gr_h I' J' ∧ gr_Inv I' ∧ gr_fr [42, 59, 71, 72, 73, 74, 75, 76, 77, 106] [17, 23, 31, 32, 33, 34, 35, 51, 64, 65, 66] I I' ∧ gr_fj [42, 59, 71, 72, 73, 74, 75, 76, 77, 106] [17, 23, 31, 32, 33, 34, 35, 51, 64, 65, 66] J J' ∧ (∃ z : Int, r = some (.inl z) ∧ 0 ≤ z ∧ z ≤ 1 ∧ (I' 0 71 = 5 ∨ I' 0 73 ≤ I' 0 69) ∧ (I' 0 72 ≤ I' 0 69) ∧ (I' 0 71 = 0 ∨ (I' 0 72 < I' 0 73 ∧ I' 0 72 < I' 0 69)) ∧ (I' 0 71 = 3 → 2 ≤ I' 0 73 - I' 0 72 ∧ I' 0 73 - I' 0 72 ≤ 14) ∧ (I' 0 72 ≤ I' 0 73) ∧ (I' 0 69 = I 0 69) ∧ (I 0 73 ≤ I' 0 73) ∧ (I 0 72 ≤ I' 0 72) ∧ (I' 0 59 - I' 0 72 ≤ I 0 59 - I 0 72) ∧ (I' 0 42 - I' 0 72 ≤ I 0 42 - I 0 72) ∧ (gs_Or z (0 ≤ (gs_pat β N9 I J (I 0 78) p9) ∧ gr_ATp β N9 (gs_pat β N9 I J (I 0 78) p9) I' J' ∧ gs_Upat (gs_rn β N9 p9) (gs_ptw β N9 I J p9).2 I J I' J') ((gs_pat β N9 I J (I 0 78) p9) < 0 ∧ I' 0 77 = -1 - (gs_pat β N9 I J (I 0 78) p9) ∧ gs_Spt I J I' J')))))) (46, [(0, .inr (.inr (some 0))), (1, .inl v1_11), (2, .inr (.inl v2_11))], [], gr_sh ++ ext, gr_h I9 J10) := by
    intro I9 J10 v1_11 v2_11 p_11 hI9 FI9 FJ10 m_11 e2_11 e3_11 e4_11 e5_11 e6_11
    obtain ⟨hv1_11, e0_11, e1_11, e7_11, e8_11, e9_11, e10_11, e11_11, e12_11, e13_11, e14_11⟩ := m_11
    have q9_11 := e4_11
    subst q9_11
    have f12 := (show 0 ≤ I9 0 71 ∧ I9 0 71 ≤ 5 from (hI9 0 71).1)
    have f13 := (show 0 ≤ I9 0 72 ∧ I9 0 72 ≤ 1000 from (hI9 0 72).1)
    have f14 := (show 0 ≤ I9 0 73 ∧ I9 0 73 ≤ 1001 from (hI9 0 73).1)
    have f15 := (show 0 ≤ I9 0 69 ∧ I9 0 69 ≤ 1000 from (hI9 0 69).1)
    have f16 := (show (-1) ≤ I9 0 6 ∧ I9 0 6 ≤ 7 from (hI9 0 6).1)
    have f17 := (show 0 ≤ I9 0 59 ∧ I9 0 59 ≤ 2000 from (hI9 0 59).1)
    have f18 := (show 0 ≤ I9 0 42 ∧ I9 0 42 ≤ 2000 from (hI9 0 42).1)
    have f19 := (show 0 ≤ I9 0 106 ∧ I9 0 106 ≤ 16777215 from (hI9 0 106).1)
    have t20 := gr_ATp_l e2_11
    have L207 : ∀ (I21 : gr_I) (J22 : gr_J) (v4_23 : Int) (p_23 : Int), gr_Inv I21 → gr_fr [42, 59, 71, 72, 73, 74, 75, 76, 77, 106] [17, 23, 31, 32, 33, 34, 35, 51, 64, 65, 66] I I21 → gr_fj [42, 59, 71, 72, 73, 74, 75, 76, 77, 106] [17, 23, 31, 32, 33, 34, 35, 51, 64, 65, 66] J J22 → ((0 ≤ (I 0 6) ∧ (I 0 6) ≤ 7) ∧ (0 ≤ v4_23 ∧ v4_23 ≤ 24) ∧ (v4_23 ≤ 24) ∧ (0 ≤ p_23) ∧ (I21 0 72 ≤ I21 0 69) ∧ (I21 0 72 ≤ I21 0 73) ∧ (I21 0 69 = I 0 69) ∧ (I 0 73 ≤ I21 0 73) ∧ (I 0 72 ≤ I21 0 72) ∧ (I21 0 6 = I 0 6) ∧ (I21 0 59 - I21 0 72 ≤ I 0 59 - I 0 72) ∧ (I21 0 42 - I21 0 72 ≤ I 0 42 - I 0 72)) → (gr_ATp β N9 p_23 I21 J22) → (gs_ptw β N9 I J p9 = gs_pt2 β N9 I J (gs_ll (I21 64) v4_23) p_23) → (v2_11 = (gs_rn β N9 p9)) → ((∀ k, I21 17 k = I 17 k) ∧ (∀ k, I21 31 k = I 31 k) ∧ (∀ k, I21 32 k = I 32 k) ∧ (∀ k, J22 23 k = J 23 k)) → gv_X (gr_E ws0 tb 11 (yX13_pattern, cX13_pattern, 8, (some .boolean)) kX13_pattern) (gv_Q cX13_pattern (some .boolean) (gr_sh ++ ext) (fun r h' => (∃ (I' : gr_I) (J' : gr_J), h' = gr_h I' J' ∧ gr_Inv I' ∧ gr_fr [42, 59, 71, 72, 73, 74, 75, 76, 77, 106] [17, 23, 31, 32, 33, 34, 35, 51, 64, 65, 66] I I' ∧ gr_fj [42, 59, 71, 72, 73, 74, 75, 76, 77, 106] [17, 23, 31, 32, 33, 34, 35, 51, 64, 65, 66] J J' ∧ (∃ z : Int, r = some (.inl z) ∧ 0 ≤ z ∧ z ≤ 1 ∧ (I' 0 71 = 5 ∨ I' 0 73 ≤ I' 0 69) ∧ (I' 0 72 ≤ I' 0 69) ∧ (I' 0 71 = 0 ∨ (I' 0 72 < I' 0 73 ∧ I' 0 72 < I' 0 69)) ∧ (I' 0 71 = 3 → 2 ≤ I' 0 73 - I' 0 72 ∧ I' 0 73 - I' 0 72 ≤ 14) ∧ (I' 0 72 ≤ I' 0 73) ∧ (I' 0 69 = I 0 69) ∧ (I 0 73 ≤ I' 0 73) ∧ (I 0 72 ≤ I' 0 72) ∧ (I' 0 59 - I' 0 72 ≤ I 0 59 - I 0 72) ∧ (I' 0 42 - I' 0 72 ≤ I 0 42 - I 0 72) ∧ (gs_Or z (0 ≤ (gs_pat β N9 I J (I 0 78) p9) ∧ gr_ATp β N9 (gs_pat β N9 I J (I 0 78) p9) I' J' ∧ gs_Upat (gs_rn β N9 p9) (gs_ptw β N9 I J p9).2 I J I' J') ((gs_pat β N9 I J (I 0 78) p9) < 0 ∧ I' 0 77 = -1 - (gs_pat β N9 I J (I 0 78) p9) ∧ gs_Spt I J I' J')))))) (207, [(0, .inr (.inr (some 0))), (1, .inl (I 0 6)), (2, .inr (.inl v2_11)), (4, .inl v4_23)], [], gr_sh ++ ext, gr_h I21 J22) := by
      intro I21 J22 v4_23 p_23 hI21 FI21 FJ22 m_23 e2_23 e3_23 e4_23 e5_23
      clear hv1_11 e0_11 e1_11 e7_11 e8_11 e9_11 e10_11 e11_11 e12_11 e13_11 e14_11 f12 f13 f14 f15 f16 f17 f18 f19 t20
      obtain ⟨h_I_0_6__23, hv4_23, e0_23, e1_23, e6_23, e7_23, e8_23, e9_23, e10_23, e11_23, e12_23, e13_23⟩ := m_23
      have f24 := (show 0 ≤ I21 0 71 ∧ I21 0 71 ≤ 5 from (hI21 0 71).1)
      have f25 := (show 0 ≤ I21 0 72 ∧ I21 0 72 ≤ 1000 from (hI21 0 72).1)
      have f26 := (show 0 ≤ I21 0 73 ∧ I21 0 73 ≤ 1001 from (hI21 0 73).1)
      have f27 := (show 0 ≤ I21 0 69 ∧ I21 0 69 ≤ 1000 from (hI21 0 69).1)
      have f28 := (show (-1) ≤ I21 0 6 ∧ I21 0 6 ≤ 7 from (hI21 0 6).1)
      have f29 := (show 0 ≤ I21 0 59 ∧ I21 0 59 ≤ 2000 from (hI21 0 59).1)
      have f30 := (show 0 ≤ I21 0 42 ∧ I21 0 42 ≤ 2000 from (hI21 0 42).1)
      have f31 := (show 0 ≤ I21 0 106 ∧ I21 0 106 ≤ 16777215 from (hI21 0 106).1)
      have t32 := gr_ATp_l e2_23
      have L218 : ∀ (n : Nat) (I33 : gr_I) (J34 : gr_J) (v4_35 : Int) (p_35 : Int), (1001 - I33 0 72).toNat < n → gr_Inv I33 → gr_fr [42, 59, 71, 72, 73, 74, 75, 76, 77, 106] [17, 23, 31, 32, 33, 34, 35, 51, 64, 65, 66] I I33 → gr_fj [42, 59, 71, 72, 73, 74, 75, 76, 77, 106] [17, 23, 31, 32, 33, 34, 35, 51, 64, 65, 66] J J34 → ((0 ≤ (I 0 6) ∧ (I 0 6) ≤ 7) ∧ (0 ≤ v4_35 ∧ v4_35 ≤ 358) ∧ (3 * v4_35 ≤ 72 + I33 0 72) ∧ (0 ≤ p_35) ∧ (I33 0 72 ≤ I33 0 69) ∧ (I33 0 72 ≤ I33 0 73) ∧ (I33 0 69 = I 0 69) ∧ (I 0 73 ≤ I33 0 73) ∧ (I 0 72 ≤ I33 0 72) ∧ (I33 0 6 = I 0 6) ∧ (I33 0 59 - I33 0 72 ≤ I 0 59 - I 0 72) ∧ (I33 0 42 - I33 0 72 ≤ I 0 42 - I 0 72)) → (gr_ATp β N9 p_35 I33 J34) → (∃ m : Nat, 1001 - gs_A β N9 p_35 < (m : Int) ∧ gs_ptw β N9 I J p9 = gs_pc β N9 I J m (gs_ll (I33 64) v4_35) p_35) → (v2_11 = (gs_rn β N9 p9)) → ((∀ k, I33 17 k = I 17 k) ∧ (∀ k, I33 31 k = I 31 k) ∧ (∀ k, I33 32 k = I 32 k) ∧ (∀ k, J34 23 k = J 23 k)) → gv_X (gr_E ws0 tb 11 (yX13_pattern, cX13_pattern, 8, (some .boolean)) kX13_pattern) (gv_Q cX13_pattern (some .boolean) (gr_sh ++ ext) (fun r h' => (∃ (I' : gr_I) (J' : gr_J), h' = gr_h I' J' ∧ gr_Inv I' ∧ gr_fr [42, 59, 71, 72, 73, 74, 75, 76, 77, 106] [17, 23, 31, 32, 33, 34, 35, 51, 64, 65, 66] I I' ∧ gr_fj [42, 59, 71, 72, 73, 74, 75, 76, 77, 106] [17, 23, 31, 32, 33, 34, 35, 51, 64, 65, 66] J J' ∧ (∃ z : Int, r = some (.inl z) ∧ 0 ≤ z ∧ z ≤ 1 ∧ (I' 0 71 = 5 ∨ I' 0 73 ≤ I' 0 69) ∧ (I' 0 72 ≤ I' 0 69) ∧ (I' 0 71 = 0 ∨ (I' 0 72 < I' 0 73 ∧ I' 0 72 < I' 0 69)) ∧ (I' 0 71 = 3 → 2 ≤ I' 0 73 - I' 0 72 ∧ I' 0 73 - I' 0 72 ≤ 14) ∧ (I' 0 72 ≤ I' 0 73) ∧ (I' 0 69 = I 0 69) ∧ (I 0 73 ≤ I' 0 73) ∧ (I 0 72 ≤ I' 0 72) ∧ (I' 0 59 - I' 0 72 ≤ I 0 59 - I 0 72) ∧ (I' 0 42 - I' 0 72 ≤ I 0 42 - I 0 72) ∧ (gs_Or z (0 ≤ (gs_pat β N9 I J (I 0 78) p9) ∧ gr_ATp β N9 (gs_pat β N9 I J (I 0 78) p9) I' J' ∧ gs_Upat (gs_rn β N9 p9) (gs_ptw β N9 I J p9).2 I J I' J') ((gs_pat β N9 I J (I 0 78) p9) < 0 ∧ I' 0 77 = -1 - (gs_pat β N9 I J (I 0 78) p9) ∧ gs_Spt I J I' J')))))) (218, [(0, .inr (.inr (some 0))), (1, .inl (I 0 6)), (2, .inr (.inl v2_11)), (4, .inl v4_35)], [], gr_sh ++ ext, gr_h I33 J34) := by
        intro n
        induction n with
        | zero => intro I33 J34 v4_35 p_35 hn; omega
        | succ n ih218 =>
          intro I33 J34 v4_35 p_35 hn hI33 FI33 FJ34 m_35 e2_35 e3_35 e4_35 e5_35
          clear h_I_0_6__23 hv4_23 e0_23 e1_23 e6_23 e7_23 e8_23 e9_23 e10_23 e11_23 e12_23 e13_23 f24 f25 f26 f27 f28 f29 f30 f31 t32
          obtain ⟨h_I_0_6__35, hv4_35, e0_35, e1_35, e6_35, e7_35, e8_35, e9_35, e10_35, e11_35, e12_35, e13_35⟩ := m_35
          have f36 := (show 0 ≤ I33 0 71 ∧ I33 0 71 ≤ 5 from (hI33 0 71).1)
          have f37 := (show 0 ≤ I33 0 72 ∧ I33 0 72 ≤ 1000 from (hI33 0 72).1)
          have f38 := (show 0 ≤ I33 0 73 ∧ I33 0 73 ≤ 1001 from (hI33 0 73).1)
          have f39 := (show 0 ≤ I33 0 69 ∧ I33 0 69 ≤ 1000 from (hI33 0 69).1)
          have f40 := (show (-1) ≤ I33 0 6 ∧ I33 0 6 ≤ 7 from (hI33 0 6).1)
          have f41 := (show 0 ≤ I33 0 59 ∧ I33 0 59 ≤ 2000 from (hI33 0 59).1)
          have f42 := (show 0 ≤ I33 0 42 ∧ I33 0 42 ≤ 2000 from (hI33 0 42).1)
          have f43 := (show 0 ≤ I33 0 106 ∧ I33 0 106 ≤ 16777215 from (hI33 0 106).1)
          have t44 := gr_ATp_l e2_35
          have L223 : ∀ (n : Nat) (I45 : gr_I) (J46 : gr_J) (p_47 : Int), (1001 - I45 0 72).toNat < n → gr_Inv I45 → gr_fr [42, 59, 71, 72, 73, 74, 75, 76, 77, 106] [17, 23, 31, 32, 33, 34, 35, 51, 64, 65, 66] I I45 → gr_fj [42, 59, 71, 72, 73, 74, 75, 76, 77, 106] [17, 23, 31, 32, 33, 34, 35, 51, 64, 65, 66] J J46 → ((0 ≤ (I 0 6) ∧ (I 0 6) ≤ 7) ∧ (0 ≤ v4_35 ∧ v4_35 ≤ 358) ∧ (3 * v4_35 ≤ 72 + I45 0 72) ∧ (I33 0 72 ≤ I45 0 72) ∧ (0 ≤ p_47) ∧ (I45 0 72 ≤ I45 0 69) ∧ (I45 0 72 ≤ I45 0 73) ∧ (I45 0 69 = I 0 69) ∧ (I 0 73 ≤ I45 0 73) ∧ (I 0 72 ≤ I45 0 72) ∧ (I45 0 6 = I 0 6) ∧ (I45 0 59 - I45 0 72 ≤ I 0 59 - I 0 72) ∧ (I45 0 42 - I45 0 72 ≤ I 0 42 - I 0 72)) → (gr_ATp β N9 p_47 I45 J46) → (∃ m m2 : Nat, 1001 - gs_A β N9 p_47 ≤ (m : Int) ∧ 1001 - gs_A β N9 p_47 < (m2 : Int) ∧ gs_ptw β N9 I J p9 = gs_pcA β N9 (gs_pc β N9 I J m) (gs_ll (I45 64) v4_35) (gs_ws β N9 I J m2 (I45 0 106) p_47)) → (v2_11 = (gs_rn β N9 p9)) → ((∀ k, I45 17 k = I 17 k) ∧ (∀ k, I45 31 k = I 31 k) ∧ (∀ k, I45 32 k = I 32 k) ∧ (∀ k, J46 23 k = J 23 k)) → gv_X (gr_E ws0 tb 11 (yX13_pattern, cX13_pattern, 8, (some .boolean)) kX13_pattern) (gv_Q cX13_pattern (some .boolean) (gr_sh ++ ext) (fun r h' => (∃ (I' : gr_I) (J' : gr_J), h' = gr_h I' J' ∧ gr_Inv I' ∧ gr_fr [42, 59, 71, 72, 73, 74, 75, 76, 77, 106] [17, 23, 31, 32, 33, 34, 35, 51, 64, 65, 66] I I' ∧ gr_fj [42, 59, 71, 72, 73, 74, 75, 76, 77, 106] [17, 23, 31, 32, 33, 34, 35, 51, 64, 65, 66] J J' ∧ (∃ z : Int, r = some (.inl z) ∧ 0 ≤ z ∧ z ≤ 1 ∧ (I' 0 71 = 5 ∨ I' 0 73 ≤ I' 0 69) ∧ (I' 0 72 ≤ I' 0 69) ∧ (I' 0 71 = 0 ∨ (I' 0 72 < I' 0 73 ∧ I' 0 72 < I' 0 69)) ∧ (I' 0 71 = 3 → 2 ≤ I' 0 73 - I' 0 72 ∧ I' 0 73 - I' 0 72 ≤ 14) ∧ (I' 0 72 ≤ I' 0 73) ∧ (I' 0 69 = I 0 69) ∧ (I 0 73 ≤ I' 0 73) ∧ (I 0 72 ≤ I' 0 72) ∧ (I' 0 59 - I' 0 72 ≤ I 0 59 - I 0 72) ∧ (I' 0 42 - I' 0 72 ≤ I 0 42 - I 0 72) ∧ (gs_Or z (0 ≤ (gs_pat β N9 I J (I 0 78) p9) ∧ gr_ATp β N9 (gs_pat β N9 I J (I 0 78) p9) I' J' ∧ gs_Upat (gs_rn β N9 p9) (gs_ptw β N9 I J p9).2 I J I' J') ((gs_pat β N9 I J (I 0 78) p9) < 0 ∧ I' 0 77 = -1 - (gs_pat β N9 I J (I 0 78) p9) ∧ gs_Spt I J I' J')))))) (223, [(0, .inr (.inr (some 0))), (1, .inl (I 0 6)), (2, .inr (.inl v2_11)), (4, .inl v4_35)], [], gr_sh ++ ext, gr_h I45 J46) := by
            intro n
            induction n with
            | zero => intro I45 J46 p_47 hn; omega
            | succ n ih223 =>
              intro I45 J46 p_47 hn hI45 FI45 FJ46 m_47 e3_47 e4_47 e5_47 e6_47
              clear h_I_0_6__35 hv4_35 e0_35 e1_35 e6_35 e7_35 e8_35 e9_35 e10_35 e11_35 e12_35 e13_35 f36 f37 f38 f39 f40 f41 f42 f43 t44
              obtain ⟨h_I_0_6__47, hv4_35_47, e0_47, e1_47, e2_47, e7_47, e8_47, e9_47, e10_47, e11_47, e12_47, e13_47, e14_47⟩ := m_47
              have f48 := (show 0 ≤ I45 0 71 ∧ I45 0 71 ≤ 5 from (hI45 0 71).1)
              have f49 := (show 0 ≤ I45 0 72 ∧ I45 0 72 ≤ 1000 from (hI45 0 72).1)
              have f50 := (show 0 ≤ I45 0 73 ∧ I45 0 73 ≤ 1001 from (hI45 0 73).1)
              have f51 := (show 0 ≤ I45 0 69 ∧ I45 0 69 ≤ 1000 from (hI45 0 69).1)
              have f52 := (show (-1) ≤ I45 0 6 ∧ I45 0 6 ≤ 7 from (hI45 0 6).1)
              have f53 := (show 0 ≤ I45 0 59 ∧ I45 0 59 ≤ 2000 from (hI45 0 59).1)
              have f54 := (show 0 ≤ I45 0 42 ∧ I45 0 42 ≤ 2000 from (hI45 0 42).1)
              have f55 := (show 0 ≤ I45 0 106 ∧ I45 0 106 ≤ 16777215 from (hI45 0 106).1)
              have t56 := gr_ATp_l e3_47
              have L251 : ∀ (I57 : gr_I) (J58 : gr_J) (p_59 : Int), gr_Inv I57 → gr_fr [42, 59, 71, 72, 73, 74, 75, 76, 77, 106] [17, 23, 31, 32, 33, 34, 35, 51, 64, 65, 66] I I57 → gr_fj [42, 59, 71, 72, 73, 74, 75, 76, 77, 106] [17, 23, 31, 32, 33, 34, 35, 51, 64, 65, 66] J J58 → ((0 ≤ (I 0 6) ∧ (I 0 6) ≤ 7) ∧ (0 ≤ v4_35 ∧ v4_35 ≤ 357) ∧ (3 * v4_35 ≤ 71 + I57 0 72) ∧ (I33 0 72 ≤ I57 0 72) ∧ (0 ≤ p_59) ∧ (I57 0 72 ≤ I57 0 69) ∧ (I57 0 72 ≤ I57 0 73) ∧ (I57 0 69 = I 0 69) ∧ (I 0 73 ≤ I57 0 73) ∧ (I 0 72 ≤ I57 0 72) ∧ (I57 0 6 = I 0 6) ∧ (I57 0 59 - I57 0 72 ≤ I 0 59 - I 0 72) ∧ (I57 0 42 - I57 0 72 ≤ I 0 42 - I 0 72)) → (gr_ATp β N9 p_59 I57 J58) → (∃ m : Nat, 1001 - gs_A β N9 p_59 ≤ (m : Int) ∧ gs_ptw β N9 I J p9 = gs_pcB β N9 (gs_pc β N9 I J m) (gs_ins (gs_ll (I57 64) v4_35) (I57 0 106)) p_59) → (v2_11 = (gs_rn β N9 p9)) → ((∀ k, I57 17 k = I 17 k) ∧ (∀ k, I57 31 k = I 31 k) ∧ (∀ k, I57 32 k = I 32 k) ∧ (∀ k, J58 23 k = J 23 k)) → gv_X (gr_E ws0 tb 11 (yX13_pattern, cX13_pattern, 8, (some .boolean)) kX13_pattern) (gv_Q cX13_pattern (some .boolean) (gr_sh ++ ext) (fun r h' => (∃ (I' : gr_I) (J' : gr_J), h' = gr_h I' J' ∧ gr_Inv I' ∧ gr_fr [42, 59, 71, 72, 73, 74, 75, 76, 77, 106] [17, 23, 31, 32, 33, 34, 35, 51, 64, 65, 66] I I' ∧ gr_fj [42, 59, 71, 72, 73, 74, 75, 76, 77, 106] [17, 23, 31, 32, 33, 34, 35, 51, 64, 65, 66] J J' ∧ (∃ z : Int, r = some (.inl z) ∧ 0 ≤ z ∧ z ≤ 1 ∧ (I' 0 71 = 5 ∨ I' 0 73 ≤ I' 0 69) ∧ (I' 0 72 ≤ I' 0 69) ∧ (I' 0 71 = 0 ∨ (I' 0 72 < I' 0 73 ∧ I' 0 72 < I' 0 69)) ∧ (I' 0 71 = 3 → 2 ≤ I' 0 73 - I' 0 72 ∧ I' 0 73 - I' 0 72 ≤ 14) ∧ (I' 0 72 ≤ I' 0 73) ∧ (I' 0 69 = I 0 69) ∧ (I 0 73 ≤ I' 0 73) ∧ (I 0 72 ≤ I' 0 72) ∧ (I' 0 59 - I' 0 72 ≤ I 0 59 - I 0 72) ∧ (I' 0 42 - I' 0 72 ≤ I 0 42 - I 0 72) ∧ (gs_Or z (0 ≤ (gs_pat β N9 I J (I 0 78) p9) ∧ gr_ATp β N9 (gs_pat β N9 I J (I 0 78) p9) I' J' ∧ gs_Upat (gs_rn β N9 p9) (gs_ptw β N9 I J p9).2 I J I' J') ((gs_pat β N9 I J (I 0 78) p9) < 0 ∧ I' 0 77 = -1 - (gs_pat β N9 I J (I 0 78) p9) ∧ gs_Spt I J I' J')))))) (251, [(0, .inr (.inr (some 0))), (1, .inl (I 0 6)), (2, .inr (.inl v2_11)), (4, .inl v4_35)], [], gr_sh ++ ext, gr_h I57 J58) := by
                intro I57 J58 p_59 hI57 FI57 FJ58 m_59 e3_59 e4_59 e5_59 e6_59
                clear h_I_0_6__47 hv4_35_47 e0_47 e1_47 e2_47 e7_47 e8_47 e9_47 e10_47 e11_47 e12_47 e13_47 e14_47 f48 f49 f50 f51 f52 f53 f54 f55 t56
                obtain ⟨h_I_0_6__59, hv4_35_59, e0_59, e1_59, e2_59, e7_59, e8_59, e9_59, e10_59, e11_59, e12_59, e13_59, e14_59⟩ := m_59
                have f60 := (show 0 ≤ I57 0 71 ∧ I57 0 71 ≤ 5 from (hI57 0 71).1)
                have f61 := (show 0 ≤ I57 0 72 ∧ I57 0 72 ≤ 1000 from (hI57 0 72).1)
                have f62 := (show 0 ≤ I57 0 73 ∧ I57 0 73 ≤ 1001 from (hI57 0 73).1)
                have f63 := (show 0 ≤ I57 0 69 ∧ I57 0 69 ≤ 1000 from (hI57 0 69).1)
                have f64 := (show (-1) ≤ I57 0 6 ∧ I57 0 6 ≤ 7 from (hI57 0 6).1)
                have f65 := (show 0 ≤ I57 0 59 ∧ I57 0 59 ≤ 2000 from (hI57 0 59).1)
                have f66 := (show 0 ≤ I57 0 42 ∧ I57 0 42 ≤ 2000 from (hI57 0 42).1)
                have f67 := (show 0 ≤ I57 0 106 ∧ I57 0 106 ≤ 16777215 from (hI57 0 106).1)
                have t68 := gr_ATp_l e3_59
                have L254 : ∀ (n : Nat) (v5_69 : Int), (358 - v5_69).toNat < n → ((0 ≤ (I 0 6) ∧ (I 0 6) ≤ 7) ∧ (0 ≤ v4_35 ∧ v4_35 ≤ 357) ∧ (0 ≤ v5_69 ∧ v5_69 ≤ 357) ∧ (v5_69 ≤ v4_35) ∧ (I57 0 72 ≤ I57 0 69) ∧ (I57 0 72 ≤ I57 0 73) ∧ (I57 0 69 = I 0 69) ∧ (I 0 73 ≤ I57 0 73) ∧ (I 0 72 ≤ I57 0 72) ∧ (I57 0 6 = I 0 6) ∧ (I57 0 59 - I57 0 72 ≤ I 0 59 - I 0 72) ∧ (I57 0 42 - I57 0 72 ≤ I 0 42 - I 0 72)) → (∀ j : Nat, j < Int.toNat v5_69 → ¬ I57 64 j = I57 0 106) → gv_X (gr_E ws0 tb 11 (yX13_pattern, cX13_pattern, 8, (some .boolean)) kX13_pattern) (gv_Q cX13_pattern (some .boolean) (gr_sh ++ ext) (fun r h' => (∃ (I' : gr_I) (J' : gr_J), h' = gr_h I' J' ∧ gr_Inv I' ∧ gr_fr [42, 59, 71, 72, 73, 74, 75, 76, 77, 106] [17, 23, 31, 32, 33, 34, 35, 51, 64, 65, 66] I I' ∧ gr_fj [42, 59, 71, 72, 73, 74, 75, 76, 77, 106] [17, 23, 31, 32, 33, 34, 35, 51, 64, 65, 66] J J' ∧ (∃ z : Int, r = some (.inl z) ∧ 0 ≤ z ∧ z ≤ 1 ∧ (I' 0 71 = 5 ∨ I' 0 73 ≤ I' 0 69) ∧ (I' 0 72 ≤ I' 0 69) ∧ (I' 0 71 = 0 ∨ (I' 0 72 < I' 0 73 ∧ I' 0 72 < I' 0 69)) ∧ (I' 0 71 = 3 → 2 ≤ I' 0 73 - I' 0 72 ∧ I' 0 73 - I' 0 72 ≤ 14) ∧ (I' 0 72 ≤ I' 0 73) ∧ (I' 0 69 = I 0 69) ∧ (I 0 73 ≤ I' 0 73) ∧ (I 0 72 ≤ I' 0 72) ∧ (I' 0 59 - I' 0 72 ≤ I 0 59 - I 0 72) ∧ (I' 0 42 - I' 0 72 ≤ I 0 42 - I 0 72) ∧ (gs_Or z (0 ≤ (gs_pat β N9 I J (I 0 78) p9) ∧ gr_ATp β N9 (gs_pat β N9 I J (I 0 78) p9) I' J' ∧ gs_Upat (gs_rn β N9 p9) (gs_ptw β N9 I J p9).2 I J I' J') ((gs_pat β N9 I J (I 0 78) p9) < 0 ∧ I' 0 77 = -1 - (gs_pat β N9 I J (I 0 78) p9) ∧ gs_Spt I J I' J')))))) (254, [(0, .inr (.inr (some 0))), (1, .inl (I 0 6)), (2, .inr (.inl v2_11)), (4, .inl v4_35), (5, .inl v5_69)], [], gr_sh ++ ext, gr_h I57 J58) := by
                  intro n
                  induction n with
                  | zero => intro v5_69 hn; omega
                  | succ n ih254 =>
                    intro v5_69 hn m_69 e1_69
                    obtain ⟨h_I_0_6__69, hv4_35_69, hv5_69, e0_69, e2_69, e3_69, e4_69, e5_69, e6_69, e7_69, e8_69, e9_69⟩ := m_69
                    have f70 := (show 0 ≤ I57 0 71 ∧ I57 0 71 ≤ 5 from (hI57 0 71).1)
                    have f71 := (show 0 ≤ I57 0 72 ∧ I57 0 72 ≤ 1000 from (hI57 0 72).1)
                    have f72 := (show 0 ≤ I57 0 73 ∧ I57 0 73 ≤ 1001 from (hI57 0 73).1)
                    have f73 := (show 0 ≤ I57 0 69 ∧ I57 0 69 ≤ 1000 from (hI57 0 69).1)
                    have f74 := (show (-1) ≤ I57 0 6 ∧ I57 0 6 ≤ 7 from (hI57 0 6).1)
                    have f75 := (show 0 ≤ I57 0 59 ∧ I57 0 59 ≤ 2000 from (hI57 0 59).1)
                    have f76 := (show 0 ≤ I57 0 42 ∧ I57 0 42 ≤ 2000 from (hI57 0 42).1)
                    have f77 := (show 0 ≤ I57 0 106 ∧ I57 0 106 ≤ 16777215 from (hI57 0 106).1)
                    have L313 : ∀ (I78 : gr_I) (J79 : gr_J) (v4_80 : Int) (p_80 : Int), gr_Inv I78 → gr_fr [42, 59, 71, 72, 73, 74, 75, 76, 77, 106] [17, 23, 31, 32, 33, 34, 35, 51, 64, 65, 66] I I78 → gr_fj [42, 59, 71, 72, 73, 74, 75, 76, 77, 106] [17, 23, 31, 32, 33, 34, 35, 51, 64, 65, 66] J J79 → ((0 ≤ (I 0 6) ∧ (I 0 6) ≤ 7) ∧ (0 ≤ v4_80 ∧ v4_80 ≤ 358) ∧ (0 ≤ v5_69 ∧ v5_69 ≤ 357) ∧ (3 * v4_80 ≤ 74 + I78 0 72) ∧ (v5_69 < v4_80) ∧ (I33 0 72 ≤ I78 0 72) ∧ (I78 65 (Int.toNat v5_69) = I78 0 42) ∧ (0 ≤ p_80) ∧ (I78 0 72 ≤ I78 0 69) ∧ (I78 0 72 ≤ I78 0 73) ∧ (I78 0 69 = I 0 69) ∧ (I 0 73 ≤ I78 0 73) ∧ (I 0 72 ≤ I78 0 72) ∧ (I78 0 6 = I 0 6) ∧ (I78 0 59 - I78 0 72 ≤ I 0 59 - I 0 72) ∧ (I78 0 42 - I78 0 72 ≤ I 0 42 - I 0 72)) → (gr_ATp β N9 p_80 I78 J79) → (∃ m : Nat, 1001 - gs_A β N9 p_80 ≤ (m : Int) ∧ gs_ptw β N9 I J p9 = gs_pcB β N9 (gs_pc β N9 I J m) (gs_ll (I78 64) v4_80) p_80) → (v2_11 = (gs_rn β N9 p9)) → ((∀ k, I78 17 k = I 17 k) ∧ (∀ k, I78 31 k = I 31 k) ∧ (∀ k, I78 32 k = I 32 k) ∧ (∀ k, J79 23 k = J 23 k)) → gv_X (gr_E ws0 tb 11 (yX13_pattern, cX13_pattern, 8, (some .boolean)) kX13_pattern) (gv_Q cX13_pattern (some .boolean) (gr_sh ++ ext) (fun r h' => (∃ (I' : gr_I) (J' : gr_J), h' = gr_h I' J' ∧ gr_Inv I' ∧ gr_fr [42, 59, 71, 72, 73, 74, 75, 76, 77, 106] [17, 23, 31, 32, 33, 34, 35, 51, 64, 65, 66] I I' ∧ gr_fj [42, 59, 71, 72, 73, 74, 75, 76, 77, 106] [17, 23, 31, 32, 33, 34, 35, 51, 64, 65, 66] J J' ∧ (∃ z : Int, r = some (.inl z) ∧ 0 ≤ z ∧ z ≤ 1 ∧ (I' 0 71 = 5 ∨ I' 0 73 ≤ I' 0 69) ∧ (I' 0 72 ≤ I' 0 69) ∧ (I' 0 71 = 0 ∨ (I' 0 72 < I' 0 73 ∧ I' 0 72 < I' 0 69)) ∧ (I' 0 71 = 3 → 2 ≤ I' 0 73 - I' 0 72 ∧ I' 0 73 - I' 0 72 ≤ 14) ∧ (I' 0 72 ≤ I' 0 73) ∧ (I' 0 69 = I 0 69) ∧ (I 0 73 ≤ I' 0 73) ∧ (I 0 72 ≤ I' 0 72) ∧ (I' 0 59 - I' 0 72 ≤ I 0 59 - I 0 72) ∧ (I' 0 42 - I' 0 72 ≤ I 0 42 - I 0 72) ∧ (gs_Or z (0 ≤ (gs_pat β N9 I J (I 0 78) p9) ∧ gr_ATp β N9 (gs_pat β N9 I J (I 0 78) p9) I' J' ∧ gs_Upat (gs_rn β N9 p9) (gs_ptw β N9 I J p9).2 I J I' J') ((gs_pat β N9 I J (I 0 78) p9) < 0 ∧ I' 0 77 = -1 - (gs_pat β N9 I J (I 0 78) p9) ∧ gs_Spt I J I' J')))))) (313, [(0, .inr (.inr (some 0))), (1, .inl (I 0 6)), (2, .inr (.inl v2_11)), (4, .inl v4_80), (5, .inl v5_69)], [], gr_sh ++ ext, gr_h I78 J79) := by
                      intro I78 J79 v4_80 p_80 hI78 FI78 FJ79 m_80 e5_80 e6_80 e7_80 e8_80
                      clear h_I_0_6__69 hv4_35_69 hv5_69 e0_69 e2_69 e3_69 e4_69 e5_69 e6_69 e7_69 e8_69 e9_69 f70 f71 f72 f73 f74 f75 f76 f77 h_I_0_6__59 hv4_35_59 e0_59 e1_59 e2_59 e7_59 e8_59 e9_59 e10_59 e11_59 e12_59 e13_59 e14_59 f60 f61 f62 f63 f64 f65 f66 f67 t68
                      obtain ⟨h_I_0_6__80, hv4_80, hv5_69_80, e0_80, e1_80, e2_80, e3_80, e4_80, e9_80, e10_80, e11_80, e12_80, e13_80, e14_80, e15_80, e16_80⟩ := m_80
                      have f81 := (show 0 ≤ I78 0 71 ∧ I78 0 71 ≤ 5 from (hI78 0 71).1)
                      have f82 := (show 0 ≤ I78 0 72 ∧ I78 0 72 ≤ 1000 from (hI78 0 72).1)
                      have f83 := (show 0 ≤ I78 0 73 ∧ I78 0 73 ≤ 1001 from (hI78 0 73).1)
                      have f84 := (show 0 ≤ I78 0 69 ∧ I78 0 69 ≤ 1000 from (hI78 0 69).1)
                      have f85 := (show (-1) ≤ I78 0 6 ∧ I78 0 6 ≤ 7 from (hI78 0 6).1)
                      have f86 := (show 0 ≤ I78 0 59 ∧ I78 0 59 ≤ 2000 from (hI78 0 59).1)
                      have f87 := (show 0 ≤ I78 0 42 ∧ I78 0 42 ≤ 2000 from (hI78 0 42).1)
                      have f88 := (show 0 ≤ I78 0 106 ∧ I78 0 106 ≤ 16777215 from (hI78 0 106).1)
                      have t89 := gr_ATp_l e5_80
                      have L365 : ∀ (I90 : gr_I) (J91 : gr_J) (p_92 : Int), gr_Inv I90 → gr_fr [42, 59, 71, 72, 73, 74, 75, 76, 77, 106] [17, 23, 31, 32, 33, 34, 35, 51, 64, 65, 66] I I90 → gr_fj [42, 59, 71, 72, 73, 74, 75, 76, 77, 106] [17, 23, 31, 32, 33, 34, 35, 51, 64, 65, 66] J J91 → ((0 ≤ (I 0 6) ∧ (I 0 6) ≤ 7) ∧ (0 ≤ v4_80 ∧ v4_80 ≤ 358) ∧ (3 * v4_80 ≤ 73 + I90 0 72) ∧ (I33 0 72 ≤ I90 0 72) ∧ (0 ≤ p_92) ∧ (I90 0 72 ≤ I90 0 69) ∧ (I90 0 72 ≤ I90 0 73) ∧ (I90 0 69 = I 0 69) ∧ (I 0 73 ≤ I90 0 73) ∧ (I 0 72 ≤ I90 0 72) ∧ (I90 0 6 = I 0 6) ∧ (I90 0 59 - I90 0 72 ≤ I 0 59 - I 0 72) ∧ (I90 0 42 - I90 0 72 ≤ I 0 42 - I 0 72)) → (gr_ATp β N9 p_92 I90 J91) → (∃ m : Nat, 1001 - gs_A β N9 p_92 ≤ (m : Int) ∧ gs_ptw β N9 I J p9 = gs_pcC β N9 (gs_pc β N9 I J m) (gs_ll (I90 64) v4_80) p_92) → (v2_11 = (gs_rn β N9 p9)) → ((∀ k, I90 17 k = I 17 k) ∧ (∀ k, I90 31 k = I 31 k) ∧ (∀ k, I90 32 k = I 32 k) ∧ (∀ k, J91 23 k = J 23 k)) → gv_X (gr_E ws0 tb 11 (yX13_pattern, cX13_pattern, 8, (some .boolean)) kX13_pattern) (gv_Q cX13_pattern (some .boolean) (gr_sh ++ ext) (fun r h' => (∃ (I' : gr_I) (J' : gr_J), h' = gr_h I' J' ∧ gr_Inv I' ∧ gr_fr [42, 59, 71, 72, 73, 74, 75, 76, 77, 106] [17, 23, 31, 32, 33, 34, 35, 51, 64, 65, 66] I I' ∧ gr_fj [42, 59, 71, 72, 73, 74, 75, 76, 77, 106] [17, 23, 31, 32, 33, 34, 35, 51, 64, 65, 66] J J' ∧ (∃ z : Int, r = some (.inl z) ∧ 0 ≤ z ∧ z ≤ 1 ∧ (I' 0 71 = 5 ∨ I' 0 73 ≤ I' 0 69) ∧ (I' 0 72 ≤ I' 0 69) ∧ (I' 0 71 = 0 ∨ (I' 0 72 < I' 0 73 ∧ I' 0 72 < I' 0 69)) ∧ (I' 0 71 = 3 → 2 ≤ I' 0 73 - I' 0 72 ∧ I' 0 73 - I' 0 72 ≤ 14) ∧ (I' 0 72 ≤ I' 0 73) ∧ (I' 0 69 = I 0 69) ∧ (I 0 73 ≤ I' 0 73) ∧ (I 0 72 ≤ I' 0 72) ∧ (I' 0 59 - I' 0 72 ≤ I 0 59 - I 0 72) ∧ (I' 0 42 - I' 0 72 ≤ I 0 42 - I 0 72) ∧ (gs_Or z (0 ≤ (gs_pat β N9 I J (I 0 78) p9) ∧ gr_ATp β N9 (gs_pat β N9 I J (I 0 78) p9) I' J' ∧ gs_Upat (gs_rn β N9 p9) (gs_ptw β N9 I J p9).2 I J I' J') ((gs_pat β N9 I J (I 0 78) p9) < 0 ∧ I' 0 77 = -1 - (gs_pat β N9 I J (I 0 78) p9) ∧ gs_Spt I J I' J')))))) (365, [(0, .inr (.inr (some 0))), (1, .inl (I 0 6)), (2, .inr (.inl v2_11)), (4, .inl v4_80)], [], gr_sh ++ ext, gr_h I90 J91) := by
                        intro I90 J91 p_92 hI90 FI90 FJ91 m_92 e3_92 e4_92 e5_92 e6_92
                        clear h_I_0_6__80 hv4_80 hv5_69_80 e0_80 e1_80 e2_80 e3_80 e4_80 e9_80 e10_80 e11_80 e12_80 e13_80 e14_80 e15_80 e16_80 f81 f82 f83 f84 f85 f86 f87 f88 t89
                        obtain ⟨h_I_0_6__92, hv4_80_92, e0_92, e1_92, e2_92, e7_92, e8_92, e9_92, e10_92, e11_92, e12_92, e13_92, e14_92⟩ := m_92
                        have f93 := (show 0 ≤ I90 0 71 ∧ I90 0 71 ≤ 5 from (hI90 0 71).1)
                        have f94 := (show 0 ≤ I90 0 72 ∧ I90 0 72 ≤ 1000 from (hI90 0 72).1)
                        have f95 := (show 0 ≤ I90 0 73 ∧ I90 0 73 ≤ 1001 from (hI90 0 73).1)
                        have f96 := (show 0 ≤ I90 0 69 ∧ I90 0 69 ≤ 1000 from (hI90 0 69).1)
                        have f97 := (show (-1) ≤ I90 0 6 ∧ I90 0 6 ≤ 7 from (hI90 0 6).1)
                        have f98 := (show 0 ≤ I90 0 59 ∧ I90 0 59 ≤ 2000 from (hI90 0 59).1)
                        have f99 := (show 0 ≤ I90 0 42 ∧ I90 0 42 ≤ 2000 from (hI90 0 42).1)
                        have f100 := (show 0 ≤ I90 0 106 ∧ I90 0 106 ≤ 16777215 from (hI90 0 106).1)
                        have t101 := gr_ATp_l e3_92
                        have L384 : ((0 ≤ (I 0 6) ∧ (I 0 6) ≤ 7) ∧ (0 ≤ v4_80 ∧ v4_80 ≤ 358) ∧ (0 ≤ p_92) ∧ (I90 0 72 ≤ I90 0 69) ∧ (I90 0 72 ≤ I90 0 73) ∧ (I90 0 69 = I 0 69) ∧ (I 0 73 ≤ I90 0 73) ∧ (I 0 72 ≤ I90 0 72) ∧ (I90 0 6 = I 0 6) ∧ (I90 0 59 - I90 0 72 ≤ I 0 59 - I 0 72) ∧ (I90 0 42 - I90 0 72 ≤ I 0 42 - I 0 72)) → (gr_ATp β N9 p_92 I90 J91) → (gs_ptw β N9 I J p9 = (p_92, gs_ll (I90 64) v4_80)) → (v2_11 = (gs_rn β N9 p9)) → ((∀ k, I90 17 k = I 17 k) ∧ (∀ k, I90 31 k = I 31 k) ∧ (∀ k, I90 32 k = I 32 k) ∧ (∀ k, J91 23 k = J 23 k)) → gv_X (gr_E ws0 tb 11 (yX13_pattern, cX13_pattern, 8, (some .boolean)) kX13_pattern) (gv_Q cX13_pattern (some .boolean) (gr_sh ++ ext) (fun r h' => (∃ (I' : gr_I) (J' : gr_J), h' = gr_h I' J' ∧ gr_Inv I' ∧ gr_fr [42, 59, 71, 72, 73, 74, 75, 76, 77, 106] [17, 23, 31, 32, 33, 34, 35, 51, 64, 65, 66] I I' ∧ gr_fj [42, 59, 71, 72, 73, 74, 75, 76, 77, 106] [17, 23, 31, 32, 33, 34, 35, 51, 64, 65, 66] J J' ∧ (∃ z : Int, r = some (.inl z) ∧ 0 ≤ z ∧ z ≤ 1 ∧ (I' 0 71 = 5 ∨ I' 0 73 ≤ I' 0 69) ∧ (I' 0 72 ≤ I' 0 69) ∧ (I' 0 71 = 0 ∨ (I' 0 72 < I' 0 73 ∧ I' 0 72 < I' 0 69)) ∧ (I' 0 71 = 3 → 2 ≤ I' 0 73 - I' 0 72 ∧ I' 0 73 - I' 0 72 ≤ 14) ∧ (I' 0 72 ≤ I' 0 73) ∧ (I' 0 69 = I 0 69) ∧ (I 0 73 ≤ I' 0 73) ∧ (I 0 72 ≤ I' 0 72) ∧ (I' 0 59 - I' 0 72 ≤ I 0 59 - I 0 72) ∧ (I' 0 42 - I' 0 72 ≤ I 0 42 - I 0 72) ∧ (gs_Or z (0 ≤ (gs_pat β N9 I J (I 0 78) p9) ∧ gr_ATp β N9 (gs_pat β N9 I J (I 0 78) p9) I' J' ∧ gs_Upat (gs_rn β N9 p9) (gs_ptw β N9 I J p9).2 I J I' J') ((gs_pat β N9 I J (I 0 78) p9) < 0 ∧ I' 0 77 = -1 - (gs_pat β N9 I J (I 0 78) p9) ∧ gs_Spt I J I' J')))))) (384, [(0, .inr (.inr (some 0))), (1, .inl (I 0 6)), (2, .inr (.inl v2_11)), (4, .inl v4_80)], [], gr_sh ++ ext, gr_h I90 J91) := by
                          intro m_102 e1_102 e2_102 e3_102 e4_102
                          obtain ⟨h_I_0_6__102, hv4_80_102, e0_102, e5_102, e6_102, e7_102, e8_102, e9_102, e10_102, e11_102, e12_102⟩ := m_102
                          have f103 := (show 0 ≤ I90 0 71 ∧ I90 0 71 ≤ 5 from (hI90 0 71).1)
                          have f104 := (show 0 ≤ I90 0 72 ∧ I90 0 72 ≤ 1000 from (hI90 0 72).1)
                          have f105 := (show 0 ≤ I90 0 73 ∧ I90 0 73 ≤ 1001 from (hI90 0 73).1)
                          have f106 := (show 0 ≤ I90 0 69 ∧ I90 0 69 ≤ 1000 from (hI90 0 69).1)
                          have f107 := (show (-1) ≤ I90 0 6 ∧ I90 0 6 ≤ 7 from (hI90 0 6).1)
                          have f108 := (show 0 ≤ I90 0 59 ∧ I90 0 59 ≤ 2000 from (hI90 0 59).1)
                          have f109 := (show 0 ≤ I90 0 42 ∧ I90 0 42 ≤ 2000 from (hI90 0 42).1)
                          have f110 := (show 0 ≤ I90 0 106 ∧ I90 0 106 ≤ 16777215 from (hI90 0 106).1)
                          have t111 := gr_ATp_l e3_92
                          have L393 : ∀ (I112 : gr_I) (J113 : gr_J) (p_114 : Int), gr_Inv I112 → gr_fr [42, 59, 71, 72, 73, 74, 75, 76, 77, 106] [17, 23, 31, 32, 33, 34, 35, 51, 64, 65, 66] I I112 → gr_fj [42, 59, 71, 72, 73, 74, 75, 76, 77, 106] [17, 23, 31, 32, 33, 34, 35, 51, 64, 65, 66] J J113 → ((0 ≤ (I 0 6) ∧ (I 0 6) ≤ 7) ∧ (0 ≤ v4_80 ∧ v4_80 ≤ 358) ∧ (0 ≤ p_114) ∧ (I112 0 72 ≤ I112 0 69) ∧ (I112 0 72 ≤ I112 0 73) ∧ (I112 0 69 = I 0 69) ∧ (I 0 73 ≤ I112 0 73) ∧ (I 0 72 ≤ I112 0 72) ∧ (I112 0 6 = I 0 6) ∧ (I112 0 59 - I112 0 72 ≤ I 0 59 - I 0 72) ∧ (I112 0 42 - I112 0 72 ≤ I 0 42 - I 0 72)) → (gr_ATp β N9 p_114 I112 J113) → ((gs_pat β N9 I J (I 0 78) p9) = gs_done β N9 (if v4_80 ≤ 24 ∧ I 17 (Int.toNat (I 0 6)) < 24 then 1 else 0) (I 0 78) p_114) → (v2_11 = (gs_rn β N9 p9)) → ((gs_ptw β N9 I J p9).2 = gs_ll (I112 64) v4_80) → ((∀ k, I112 17 k = I 17 k) ∧ (∀ k, I112 31 k = I 31 k) ∧ (∀ k, I112 32 k = I 32 k) ∧ (∀ k, J113 23 k = J 23 k)) → gv_X (gr_E ws0 tb 11 (yX13_pattern, cX13_pattern, 8, (some .boolean)) kX13_pattern) (gv_Q cX13_pattern (some .boolean) (gr_sh ++ ext) (fun r h' => (∃ (I' : gr_I) (J' : gr_J), h' = gr_h I' J' ∧ gr_Inv I' ∧ gr_fr [42, 59, 71, 72, 73, 74, 75, 76, 77, 106] [17, 23, 31, 32, 33, 34, 35, 51, 64, 65, 66] I I' ∧ gr_fj [42, 59, 71, 72, 73, 74, 75, 76, 77, 106] [17, 23, 31, 32, 33, 34, 35, 51, 64, 65, 66] J J' ∧ (∃ z : Int, r = some (.inl z) ∧ 0 ≤ z ∧ z ≤ 1 ∧ (I' 0 71 = 5 ∨ I' 0 73 ≤ I' 0 69) ∧ (I' 0 72 ≤ I' 0 69) ∧ (I' 0 71 = 0 ∨ (I' 0 72 < I' 0 73 ∧ I' 0 72 < I' 0 69)) ∧ (I' 0 71 = 3 → 2 ≤ I' 0 73 - I' 0 72 ∧ I' 0 73 - I' 0 72 ≤ 14) ∧ (I' 0 72 ≤ I' 0 73) ∧ (I' 0 69 = I 0 69) ∧ (I 0 73 ≤ I' 0 73) ∧ (I 0 72 ≤ I' 0 72) ∧ (I' 0 59 - I' 0 72 ≤ I 0 59 - I 0 72) ∧ (I' 0 42 - I' 0 72 ≤ I 0 42 - I 0 72) ∧ (gs_Or z (0 ≤ (gs_pat β N9 I J (I 0 78) p9) ∧ gr_ATp β N9 (gs_pat β N9 I J (I 0 78) p9) I' J' ∧ gs_Upat (gs_rn β N9 p9) (gs_ptw β N9 I J p9).2 I J I' J') ((gs_pat β N9 I J (I 0 78) p9) < 0 ∧ I' 0 77 = -1 - (gs_pat β N9 I J (I 0 78) p9) ∧ gs_Spt I J I' J')))))) (393, [(0, .inr (.inr (some 0))), (1, .inl (I 0 6)), (2, .inr (.inl v2_11)), (4, .inl v4_80)], [], gr_sh ++ ext, gr_h I112 J113) := by
                            intro I112 J113 p_114 hI112 FI112 FJ113 m_114 e1_114 e2_114 e3_114 e4_114 e5_114
                            clear h_I_0_6__102 hv4_80_102 e0_102 e5_102 e6_102 e7_102 e8_102 e9_102 e10_102 e11_102 e12_102 f103 f104 f105 f106 f107 f108 f109 f110 t111 h_I_0_6__92 hv4_80_92 e0_92 e1_92 e2_92 e7_92 e8_92 e9_92 e10_92 e11_92 e12_92 e13_92 e14_92 f93 f94 f95 f96 f97 f98 f99 f100 t101
                            obtain ⟨h_I_0_6__114, hv4_80_114, e0_114, e6_114, e7_114, e8_114, e9_114, e10_114, e11_114, e12_114, e13_114⟩ := m_114
                            have f115 := (show 0 ≤ I112 0 71 ∧ I112 0 71 ≤ 5 from (hI112 0 71).1)
                            have f116 := (show 0 ≤ I112 0 72 ∧ I112 0 72 ≤ 1000 from (hI112 0 72).1)
                            have f117 := (show 0 ≤ I112 0 73 ∧ I112 0 73 ≤ 1001 from (hI112 0 73).1)
                            have f118 := (show 0 ≤ I112 0 69 ∧ I112 0 69 ≤ 1000 from (hI112 0 69).1)
                            have f119 := (show (-1) ≤ I112 0 6 ∧ I112 0 6 ≤ 7 from (hI112 0 6).1)
                            have f120 := (show 0 ≤ I112 0 59 ∧ I112 0 59 ≤ 2000 from (hI112 0 59).1)
                            have f121 := (show 0 ≤ I112 0 42 ∧ I112 0 42 ≤ 2000 from (hI112 0 42).1)
                            have f122 := (show 0 ≤ I112 0 106 ∧ I112 0 106 ≤ 16777215 from (hI112 0 106).1)
                            have t123 := gr_ATp_l e1_114
                            have L425 : ∀ (I124 : gr_I) (J125 : gr_J) (p_126 : Int), gr_Inv I124 → gr_fr [42, 59, 71, 72, 73, 74, 75, 76, 77, 106] [17, 23, 31, 32, 33, 34, 35, 51, 64, 65, 66] I I124 → gr_fj [42, 59, 71, 72, 73, 74, 75, 76, 77, 106] [17, 23, 31, 32, 33, 34, 35, 51, 64, 65, 66] J J125 → ((0 ≤ (I 0 6) ∧ (I 0 6) ≤ 7) ∧ (0 ≤ v4_80 ∧ v4_80 ≤ 24) ∧ (v4_80 ≤ 24) ∧ (I124 17 (Int.toNat (I 0 6)) ≤ 23) ∧ (0 ≤ p_126) ∧ (I124 0 72 ≤ I124 0 69) ∧ (I124 0 72 ≤ I124 0 73) ∧ (I124 0 69 = I 0 69) ∧ (I 0 73 ≤ I124 0 73) ∧ (I 0 72 ≤ I124 0 72) ∧ (I124 0 6 = I 0 6) ∧ (I124 0 59 - I124 0 72 ≤ I 0 59 - I 0 72) ∧ (I124 0 42 - I124 0 72 ≤ I 0 42 - I 0 72)) → (gr_ATp β N9 p_126 I124 J125) → ((gs_pat β N9 I J (I 0 78) p9) = p_126) → (v2_11 = (gs_rn β N9 p9)) → ((gs_ptw β N9 I J p9).2 = gs_ll (I124 64) v4_80) → ((∀ k, I124 17 k = I 17 k) ∧ (∀ k, I124 31 k = I 31 k) ∧ (∀ k, I124 32 k = I 32 k) ∧ (∀ k, J125 23 k = J 23 k)) → gv_X (gr_E ws0 tb 11 (yX13_pattern, cX13_pattern, 8, (some .boolean)) kX13_pattern) (gv_Q cX13_pattern (some .boolean) (gr_sh ++ ext) (fun r h' => (∃ (I' : gr_I) (J' : gr_J), h' = gr_h I' J' ∧ gr_Inv I' ∧ gr_fr [42, 59, 71, 72, 73, 74, 75, 76, 77, 106] [17, 23, 31, 32, 33, 34, 35, 51, 64, 65, 66] I I' ∧ gr_fj [42, 59, 71, 72, 73, 74, 75, 76, 77, 106] [17, 23, 31, 32, 33, 34, 35, 51, 64, 65, 66] J J' ∧ (∃ z : Int, r = some (.inl z) ∧ 0 ≤ z ∧ z ≤ 1 ∧ (I' 0 71 = 5 ∨ I' 0 73 ≤ I' 0 69) ∧ (I' 0 72 ≤ I' 0 69) ∧ (I' 0 71 = 0 ∨ (I' 0 72 < I' 0 73 ∧ I' 0 72 < I' 0 69)) ∧ (I' 0 71 = 3 → 2 ≤ I' 0 73 - I' 0 72 ∧ I' 0 73 - I' 0 72 ≤ 14) ∧ (I' 0 72 ≤ I' 0 73) ∧ (I' 0 69 = I 0 69) ∧ (I 0 73 ≤ I' 0 73) ∧ (I 0 72 ≤ I' 0 72) ∧ (I' 0 59 - I' 0 72 ≤ I 0 59 - I 0 72) ∧ (I' 0 42 - I' 0 72 ≤ I 0 42 - I 0 72) ∧ (gs_Or z (0 ≤ (gs_pat β N9 I J (I 0 78) p9) ∧ gr_ATp β N9 (gs_pat β N9 I J (I 0 78) p9) I' J' ∧ gs_Upat (gs_rn β N9 p9) (gs_ptw β N9 I J p9).2 I J I' J') ((gs_pat β N9 I J (I 0 78) p9) < 0 ∧ I' 0 77 = -1 - (gs_pat β N9 I J (I 0 78) p9) ∧ gs_Spt I J I' J')))))) (425, [(0, .inr (.inr (some 0))), (1, .inl (I 0 6)), (2, .inr (.inl v2_11)), (4, .inl v4_80)], [], gr_sh ++ ext, gr_h I124 J125) := by
                              intro I124 J125 p_126 hI124 FI124 FJ125 m_126 e3_126 e4_126 e5_126 e6_126 e7_126
                              clear h_I_0_6__114 hv4_80_114 e0_114 e6_114 e7_114 e8_114 e9_114 e10_114 e11_114 e12_114 e13_114 f115 f116 f117 f118 f119 f120 f121 f122 t123
                              obtain ⟨h_I_0_6__126, hv4_80_126, e0_126, e1_126, e2_126, e8_126, e9_126, e10_126, e11_126, e12_126, e13_126, e14_126, e15_126⟩ := m_126
                              have f127 := (show 0 ≤ I124 0 71 ∧ I124 0 71 ≤ 5 from (hI124 0 71).1)
                              have f128 := (show 0 ≤ I124 0 72 ∧ I124 0 72 ≤ 1000 from (hI124 0 72).1)
                              have f129 := (show 0 ≤ I124 0 73 ∧ I124 0 73 ≤ 1001 from (hI124 0 73).1)
                              have f130 := (show 0 ≤ I124 0 69 ∧ I124 0 69 ≤ 1000 from (hI124 0 69).1)
                              have f131 := (show (-1) ≤ I124 0 6 ∧ I124 0 6 ≤ 7 from (hI124 0 6).1)
                              have f132 := (show 0 ≤ I124 0 59 ∧ I124 0 59 ≤ 2000 from (hI124 0 59).1)
                              have f133 := (show 0 ≤ I124 0 42 ∧ I124 0 42 ≤ 2000 from (hI124 0 42).1)
                              have f134 := (show 0 ≤ I124 0 106 ∧ I124 0 106 ≤ 16777215 from (hI124 0 106).1)
                              have t135 := gr_ATp_l e3_126
                              have L463 : ∀ (n : Nat) (I136 : gr_I) (J137 : gr_J) (v5_138 : Int) (v6_138 : Int) (p_138 : Int), (25 - v6_138).toNat < n → gr_Inv I136 → gr_fr [42, 59, 71, 72, 73, 74, 75, 76, 77, 106] [17, 23, 31, 32, 33, 34, 35, 51, 64, 65, 66] I I136 → gr_fj [42, 59, 71, 72, 73, 74, 75, 76, 77, 106] [17, 23, 31, 32, 33, 34, 35, 51, 64, 65, 66] J J137 → ((0 ≤ v4_80 ∧ v4_80 ≤ 24) ∧ (0 ≤ v5_138 ∧ v5_138 ≤ 191) ∧ (0 ≤ v6_138 ∧ v6_138 ≤ 24) ∧ (0 ≤ p_138) ∧ (I136 0 72 ≤ I136 0 69) ∧ (I136 0 72 ≤ I136 0 73) ∧ (I136 0 69 = I 0 69) ∧ (I 0 73 ≤ I136 0 73) ∧ (I 0 72 ≤ I136 0 72) ∧ (I136 0 6 = I 0 6) ∧ (I136 0 59 - I136 0 72 ≤ I 0 59 - I 0 72) ∧ (I136 0 42 - I136 0 72 ≤ I 0 42 - I 0 72)) → (gr_ATp β N9 p_138 I136 J137) → ((gs_pat β N9 I J (I 0 78) p9) = p_138) → ((gs_ptw β N9 I J p9).2 = gs_ll (I136 64) v4_80) → (gs_Upm (gs_rn β N9 p9) v4_80 (Int.toNat v6_138) I J I136 J137) → (v6_138 ≤ v4_80) → (v5_138 = 24 * I 0 6 + I 17 (Int.toNat (I 0 6))) → gv_X (gr_E ws0 tb 11 (yX13_pattern, cX13_pattern, 8, (some .boolean)) kX13_pattern) (gv_Q cX13_pattern (some .boolean) (gr_sh ++ ext) (fun r h' => (∃ (I' : gr_I) (J' : gr_J), h' = gr_h I' J' ∧ gr_Inv I' ∧ gr_fr [42, 59, 71, 72, 73, 74, 75, 76, 77, 106] [17, 23, 31, 32, 33, 34, 35, 51, 64, 65, 66] I I' ∧ gr_fj [42, 59, 71, 72, 73, 74, 75, 76, 77, 106] [17, 23, 31, 32, 33, 34, 35, 51, 64, 65, 66] J J' ∧ (∃ z : Int, r = some (.inl z) ∧ 0 ≤ z ∧ z ≤ 1 ∧ (I' 0 71 = 5 ∨ I' 0 73 ≤ I' 0 69) ∧ (I' 0 72 ≤ I' 0 69) ∧ (I' 0 71 = 0 ∨ (I' 0 72 < I' 0 73 ∧ I' 0 72 < I' 0 69)) ∧ (I' 0 71 = 3 → 2 ≤ I' 0 73 - I' 0 72 ∧ I' 0 73 - I' 0 72 ≤ 14) ∧ (I' 0 72 ≤ I' 0 73) ∧ (I' 0 69 = I 0 69) ∧ (I 0 73 ≤ I' 0 73) ∧ (I 0 72 ≤ I' 0 72) ∧ (I' 0 59 - I' 0 72 ≤ I 0 59 - I 0 72) ∧ (I' 0 42 - I' 0 72 ≤ I 0 42 - I 0 72) ∧ (gs_Or z (0 ≤ (gs_pat β N9 I J (I 0 78) p9) ∧ gr_ATp β N9 (gs_pat β N9 I J (I 0 78) p9) I' J' ∧ gs_Upat (gs_rn β N9 p9) (gs_ptw β N9 I J p9).2 I J I' J') ((gs_pat β N9 I J (I 0 78) p9) < 0 ∧ I' 0 77 = -1 - (gs_pat β N9 I J (I 0 78) p9) ∧ gs_Spt I J I' J')))))) (463, [(0, .inr (.inr (some 0))), (4, .inl v4_80), (5, .inl v5_138), (6, .inl v6_138)], [], gr_sh ++ ext, gr_h I136 J137) := by
                                intro n
                                induction n with
                                | zero => intro I136 J137 v5_138 v6_138 p_138 hn; omega
                                | succ n ih463 =>
                                  intro I136 J137 v5_138 v6_138 p_138 hn hI136 FI136 FJ137 m_138 e1_138 e2_138 e3_138 e4_138 e5_138 e6_138
                                  clear h_I_0_6__126 hv4_80_126 e0_126 e1_126 e2_126 e8_126 e9_126 e10_126 e11_126 e12_126 e13_126 e14_126 e15_126 f127 f128 f129 f130 f131 f132 f133 f134 t135
                                  obtain ⟨hv4_80_138, hv5_138, hv6_138, e0_138, e7_138, e8_138, e9_138, e10_138, e11_138, e12_138, e13_138, e14_138⟩ := m_138
                                  have f139 := (show 0 ≤ I136 0 71 ∧ I136 0 71 ≤ 5 from (hI136 0 71).1)
                                  have f140 := (show 0 ≤ I136 0 72 ∧ I136 0 72 ≤ 1000 from (hI136 0 72).1)
                                  have f141 := (show 0 ≤ I136 0 73 ∧ I136 0 73 ≤ 1001 from (hI136 0 73).1)
                                  have f142 := (show 0 ≤ I136 0 69 ∧ I136 0 69 ≤ 1000 from (hI136 0 69).1)
                                  have f143 := (show (-1) ≤ I136 0 6 ∧ I136 0 6 ≤ 7 from (hI136 0 6).1)
                                  have f144 := (show 0 ≤ I136 0 59 ∧ I136 0 59 ≤ 2000 from (hI136 0 59).1)
                                  have f145 := (show 0 ≤ I136 0 42 ∧ I136 0 42 ≤ 2000 from (hI136 0 42).1)
                                  have f146 := (show 0 ≤ I136 0 106 ∧ I136 0 106 ≤ 16777215 from (hI136 0 106).1)
                                  have t147 := gr_ATp_l e1_138
                                  refine gv_run 2 true hD (pc' := 467) (lv' := [(0, .inr (.inr (some 0))), (4, .inl v4_80), (5, .inl v5_138), (6, .inl v6_138)]) (st' := [.inl v4_80, .inl v6_138]) (h' := gr_h I136 J137) (C := ((True ∧ True) ∧ True)) rfl ⟨⟨trivial, trivial⟩, trivial⟩ ?_
                                  refine gv_icmp_ge (t := 536) hD rfl rfl ⟨⟨by omega, by omega⟩, ⟨by omega, by omega⟩⟩ (fun c148 => ?_) (fun c148 => ?_)
                                  · refine gv_run 1 true hD (pc' := 537) (lv' := [(0, .inr (.inr (some 0))), (4, .inl v4_80), (5, .inl v5_138), (6, .inl v6_138)]) (st' := [.inl 1]) (h' := gr_h I136 J137) (C := (True ∧ True)) rfl ⟨trivial, trivial⟩ ?_
                                    have b149 : (I136 0 69 = I 0 69) ∧ (I 0 73 ≤ I136 0 73) ∧ (I 0 72 ≤ I136 0 72) ∧ (I136 0 59 - I136 0 72 ≤ I 0 59 - I 0 72) ∧ (I136 0 42 - I136 0 72 ≤ I 0 42 - I 0 72) := by omega
                                    exact gv_zret hD rfl (by omega) ⟨I136, J137, rfl, hI136, FI136, FJ137, ⟨_, rfl, by omega, by omega, (gr_ATp_rr e1_138).1, (gr_ATp_rr e1_138).2.1, (gr_ATp_rr e1_138).2.2.1, (gr_ATp_rr e1_138).2.2.2.1, (gr_ATp_rr e1_138).2.2.2.2, b149.1, b149.2.1, b149.2.2.1, b149.2.2.2.1, b149.2.2.2.2, (Or.inl ⟨by omega, by rw [e2_138]; exact ⟨by omega, e1_138, gs_Upat_mk e4_138 (by omega) (by omega) (by rw [show gs_ll (I136 64) v4_80 = gs_ll (I136 64) v4_80 from rfl]; exact e3_138)⟩⟩)⟩⟩
                                  · refine gv_run 7 true hD (pc' := 482) (lv' := [(0, .inr (.inr (some 0))), (4, .inl v4_80), (5, .inl v5_138), (6, .inl v6_138)]) (st' := [.inl ((24 * v5_138) + v6_138), .inr (.inr (some 32))]) (h' := gr_h I136 J137) (C := (((((((True ∧ True) ∧ True) ∧ True) ∧ True) ∧ True) ∧ True) ∧ True)) rfl ⟨⟨⟨⟨⟨⟨⟨trivial, trivial⟩, trivial⟩, trivial⟩, trivial⟩, trivial⟩, trivial⟩, trivial⟩ ?_
                                    have f150 := (show 0 ≤ I136 64 (Int.toNat v6_138) ∧ I136 64 (Int.toNat v6_138) ≤ 16777215 from (hI136 64 (Int.toNat v6_138)).1)
                                    refine gv_run 4 true hD (pc' := 489) (lv' := [(0, .inr (.inr (some 0))), (4, .inl v4_80), (5, .inl v5_138), (6, .inl v6_138)]) (st' := [.inl (I136 64 (Int.toNat v6_138)), .inl ((24 * v5_138) + v6_138), .inr (.inr (some 32))]) (h' := gr_h I136 J137) (C := ((((True ∧ True) ∧ True) ∧ True) ∧ (0 ≤ v6_138 ∧ v6_138 < ((420 : Nat) : Int)))) rfl ⟨⟨⟨⟨trivial, trivial⟩, trivial⟩, trivial⟩, ⟨by omega, by omega⟩⟩ ?_
                                    refine gv_run 1 true hD (pc' := 490) (lv' := [(0, .inr (.inr (some 0))), (4, .inl v4_80), (5, .inl v5_138), (6, .inl v6_138)]) (st' := []) (h' := gz_up (gr_h I136 J137) 32 (Int.toNat (((24 * v5_138) + v6_138))) (.inl ((I136 64 (Int.toNat v6_138))))) (C := (True ∧ (0 ≤ (((24 * v5_138) + v6_138)) ∧ (((24 * v5_138) + v6_138)) < ((4608 : Nat) : Int)))) rfl ⟨trivial, ⟨by omega, by omega⟩⟩ ?_
                                    refine gr_st hI136 FI136 rfl rfl ⟨⟨by show 0 ≤ _; omega, by show _ ≤ 16777215; omega⟩, trivial⟩ (fun I151 hI151 FI151 q152 p152 => ?_)
                                    have t153 := p152 0 71 (fun q => absurd q.1 (by decide))
                                    have t154 := p152 0 72 (fun q => absurd q.1 (by decide))
                                    have t155 := p152 0 73 (fun q => absurd q.1 (by decide))
                                    have t156 := p152 0 69 (fun q => absurd q.1 (by decide))
                                    have t157 := p152 0 6 (fun q => absurd q.1 (by decide))
                                    have t158 := p152 0 59 (fun q => absurd q.1 (by decide))
                                    have t159 := p152 0 42 (fun q => absurd q.1 (by decide))
                                    have t160 := p152 0 106 (fun q => absurd q.1 (by decide))
                                    have t161 := p152 65 (Int.toNat v5_138) (fun q => absurd q.1 (by decide))
                                    have f162 := (show 0 ≤ I151 0 71 ∧ I151 0 71 ≤ 5 from (hI151 0 71).1)
                                    have f163 := (show 0 ≤ I151 0 72 ∧ I151 0 72 ≤ 1000 from (hI151 0 72).1)
                                    have f164 := (show 0 ≤ I151 0 73 ∧ I151 0 73 ≤ 1001 from (hI151 0 73).1)
                                    have f165 := (show 0 ≤ I151 0 69 ∧ I151 0 69 ≤ 1000 from (hI151 0 69).1)
                                    have f166 := (show (-1) ≤ I151 0 6 ∧ I151 0 6 ≤ 7 from (hI151 0 6).1)
                                    have f167 := (show 0 ≤ I151 0 59 ∧ I151 0 59 ≤ 2000 from (hI151 0 59).1)
                                    have f168 := (show 0 ≤ I151 0 42 ∧ I151 0 42 ≤ 2000 from (hI151 0 42).1)
                                    have f169 := (show 0 ≤ I151 0 106 ∧ I151 0 106 ≤ 16777215 from (hI151 0 106).1)
                                    have A170 := gr_ATp_sr e1_138 p152 rfl
                                    refine gv_run 7 true hD (pc' := 502) (lv' := [(0, .inr (.inr (some 0))), (4, .inl v4_80), (5, .inl v5_138), (6, .inl v6_138)]) (st' := [.inl ((24 * v5_138) + v6_138), .inr (.inr (some 33))]) (h' := gr_h I151 J137) (C := (((((((True ∧ True) ∧ True) ∧ True) ∧ True) ∧ True) ∧ True) ∧ True)) rfl ⟨⟨⟨⟨⟨⟨⟨trivial, trivial⟩, trivial⟩, trivial⟩, trivial⟩, trivial⟩, trivial⟩, trivial⟩ ?_
                                    have f171 := (show 0 ≤ I151 65 (Int.toNat v6_138) ∧ I151 65 (Int.toNat v6_138) ≤ 2000 from (hI151 65 (Int.toNat v6_138)).1)
                                    refine gv_run 4 true hD (pc' := 509) (lv' := [(0, .inr (.inr (some 0))), (4, .inl v4_80), (5, .inl v5_138), (6, .inl v6_138)]) (st' := [.inl (I151 65 (Int.toNat v6_138)), .inl ((24 * v5_138) + v6_138), .inr (.inr (some 33))]) (h' := gr_h I151 J137) (C := ((((True ∧ True) ∧ True) ∧ True) ∧ (0 ≤ v6_138 ∧ v6_138 < ((420 : Nat) : Int)))) rfl ⟨⟨⟨⟨trivial, trivial⟩, trivial⟩, trivial⟩, ⟨by omega, by omega⟩⟩ ?_
                                    refine gv_run 1 true hD (pc' := 510) (lv' := [(0, .inr (.inr (some 0))), (4, .inl v4_80), (5, .inl v5_138), (6, .inl v6_138)]) (st' := []) (h' := gz_up (gr_h I151 J137) 33 (Int.toNat (((24 * v5_138) + v6_138))) (.inl ((I151 65 (Int.toNat v6_138))))) (C := (True ∧ (0 ≤ (((24 * v5_138) + v6_138)) ∧ (((24 * v5_138) + v6_138)) < ((4608 : Nat) : Int)))) rfl ⟨trivial, ⟨by omega, by omega⟩⟩ ?_
                                    refine gr_st hI151 FI151 rfl rfl ⟨⟨by show 0 ≤ _; omega, by show _ ≤ 2000; omega⟩, trivial⟩ (fun I172 hI172 FI172 q173 p173 => ?_)
                                    have t174 := p173 0 71 (fun q => absurd q.1 (by decide))
                                    have t175 := p173 0 72 (fun q => absurd q.1 (by decide))
                                    have t176 := p173 0 73 (fun q => absurd q.1 (by decide))
                                    have t177 := p173 0 69 (fun q => absurd q.1 (by decide))
                                    have t178 := p173 0 6 (fun q => absurd q.1 (by decide))
                                    have t179 := p173 0 59 (fun q => absurd q.1 (by decide))
                                    have t180 := p173 0 42 (fun q => absurd q.1 (by decide))
                                    have t181 := p173 0 106 (fun q => absurd q.1 (by decide))
                                    have t182 := p173 65 (Int.toNat v5_138) (fun q => absurd q.1 (by decide))
                                    have f183 := (show 0 ≤ I172 0 71 ∧ I172 0 71 ≤ 5 from (hI172 0 71).1)
                                    have f184 := (show 0 ≤ I172 0 72 ∧ I172 0 72 ≤ 1000 from (hI172 0 72).1)
                                    have f185 := (show 0 ≤ I172 0 73 ∧ I172 0 73 ≤ 1001 from (hI172 0 73).1)
                                    have f186 := (show 0 ≤ I172 0 69 ∧ I172 0 69 ≤ 1000 from (hI172 0 69).1)
                                    have f187 := (show (-1) ≤ I172 0 6 ∧ I172 0 6 ≤ 7 from (hI172 0 6).1)
                                    have f188 := (show 0 ≤ I172 0 59 ∧ I172 0 59 ≤ 2000 from (hI172 0 59).1)
                                    have f189 := (show 0 ≤ I172 0 42 ∧ I172 0 42 ≤ 2000 from (hI172 0 42).1)
                                    have f190 := (show 0 ≤ I172 0 106 ∧ I172 0 106 ≤ 16777215 from (hI172 0 106).1)
                                    have A191 := gr_ATp_sr A170 p173 rfl
                                    refine gv_run 7 true hD (pc' := 522) (lv' := [(0, .inr (.inr (some 0))), (4, .inl v4_80), (5, .inl v5_138), (6, .inl v6_138)]) (st' := [.inl ((24 * v5_138) + v6_138), .inr (.inr (some 34))]) (h' := gr_h I172 J137) (C := (((((((True ∧ True) ∧ True) ∧ True) ∧ True) ∧ True) ∧ True) ∧ True)) rfl ⟨⟨⟨⟨⟨⟨⟨trivial, trivial⟩, trivial⟩, trivial⟩, trivial⟩, trivial⟩, trivial⟩, trivial⟩ ?_
                                    have f192 := (show (-1) ≤ I172 66 (Int.toNat v6_138) ∧ I172 66 (Int.toNat v6_138) ≤ 2000 from (hI172 66 (Int.toNat v6_138)).1)
                                    refine gv_run 4 true hD (pc' := 529) (lv' := [(0, .inr (.inr (some 0))), (4, .inl v4_80), (5, .inl v5_138), (6, .inl v6_138)]) (st' := [.inl (I172 66 (Int.toNat v6_138)), .inl ((24 * v5_138) + v6_138), .inr (.inr (some 34))]) (h' := gr_h I172 J137) (C := ((((True ∧ True) ∧ True) ∧ True) ∧ (0 ≤ v6_138 ∧ v6_138 < ((420 : Nat) : Int)))) rfl ⟨⟨⟨⟨trivial, trivial⟩, trivial⟩, trivial⟩, ⟨by omega, by omega⟩⟩ ?_
                                    refine gv_run 1 true hD (pc' := 530) (lv' := [(0, .inr (.inr (some 0))), (4, .inl v4_80), (5, .inl v5_138), (6, .inl v6_138)]) (st' := []) (h' := gz_up (gr_h I172 J137) 34 (Int.toNat (((24 * v5_138) + v6_138))) (.inl ((I172 66 (Int.toNat v6_138))))) (C := (True ∧ (0 ≤ (((24 * v5_138) + v6_138)) ∧ (((24 * v5_138) + v6_138)) < ((4608 : Nat) : Int)))) rfl ⟨trivial, ⟨by omega, by omega⟩⟩ ?_
                                    refine gr_st hI172 FI172 rfl rfl ⟨⟨by show (-1) ≤ _; omega, by show _ ≤ 2000; omega⟩, trivial⟩ (fun I193 hI193 FI193 q194 p194 => ?_)
                                    have t195 := p194 0 71 (fun q => absurd q.1 (by decide))
                                    have t196 := p194 0 72 (fun q => absurd q.1 (by decide))
                                    have t197 := p194 0 73 (fun q => absurd q.1 (by decide))
                                    have t198 := p194 0 69 (fun q => absurd q.1 (by decide))
                                    have t199 := p194 0 6 (fun q => absurd q.1 (by decide))
                                    have t200 := p194 0 59 (fun q => absurd q.1 (by decide))
                                    have t201 := p194 0 42 (fun q => absurd q.1 (by decide))
                                    have t202 := p194 0 106 (fun q => absurd q.1 (by decide))
                                    have t203 := p194 65 (Int.toNat v5_138) (fun q => absurd q.1 (by decide))
                                    have f204 := (show 0 ≤ I193 0 71 ∧ I193 0 71 ≤ 5 from (hI193 0 71).1)
                                    have f205 := (show 0 ≤ I193 0 72 ∧ I193 0 72 ≤ 1000 from (hI193 0 72).1)
                                    have f206 := (show 0 ≤ I193 0 73 ∧ I193 0 73 ≤ 1001 from (hI193 0 73).1)
                                    have f207 := (show 0 ≤ I193 0 69 ∧ I193 0 69 ≤ 1000 from (hI193 0 69).1)
                                    have f208 := (show (-1) ≤ I193 0 6 ∧ I193 0 6 ≤ 7 from (hI193 0 6).1)
                                    have f209 := (show 0 ≤ I193 0 59 ∧ I193 0 59 ≤ 2000 from (hI193 0 59).1)
                                    have f210 := (show 0 ≤ I193 0 42 ∧ I193 0 42 ≤ 2000 from (hI193 0 42).1)
                                    have f211 := (show 0 ≤ I193 0 106 ∧ I193 0 106 ≤ 16777215 from (hI193 0 106).1)
                                    have A212 := gr_ATp_sr A191 p194 rfl
                                    refine gv_run 2 true hD (pc' := 463) (lv' := [(6, .inl (v6_138 + 1)), (0, .inr (.inr (some 0))), (4, .inl v4_80), (5, .inl v5_138)]) (st' := []) (h' := gr_h I193 J137) (C := ((True ∧ True) ∧ True)) rfl ⟨⟨trivial, trivial⟩, trivial⟩ ?_
                                    refine gv_pick [1, 2, 3, 0] rfl ?_
                                    exact ih463 I193 J137 v5_138 (v6_138 + 1) p_138 (by omega) hI193 FI193 FJ137 (by omega) A212 e2_138 (by rw [e3_138, show gs_ll (I193 64) _ = gs_ll (I136 64) _ from gs_ll_eq (fun j _ => (((p194 64 j (fun q => absurd q.1 (by decide))).trans (p173 64 j (fun q => absurd q.1 (by decide)))).trans (p152 64 j (fun q => absurd q.1 (by decide)))))]) (by rw [show Int.toNat (v6_138 + 1) = Int.toNat v6_138 + 1 from by omega]; exact gs_Upm_s e4_138 (by unfold gs_Pn; omega) p152 q152 p173 p194) (by omega) e6_138
                              refine gv_run 7 true hD (pc' := 435) (lv' := [(0, .inr (.inr (some 0))), (1, .inl (I 0 6)), (2, .inr (.inl v2_11)), (4, .inl v4_80)]) (st' := [.inl (I 0 6), .inr (.inr (some 17)), .inl (I 0 6), .inr (.inr (some 17)), .inl (24 * (I 0 6))]) (h' := gr_h I124 J125) (C := (((((((True ∧ True) ∧ True) ∧ True) ∧ True) ∧ True) ∧ True) ∧ True)) rfl ⟨⟨⟨⟨⟨⟨⟨trivial, trivial⟩, trivial⟩, trivial⟩, trivial⟩, trivial⟩, trivial⟩, trivial⟩ ?_
                              have f213 := (show 0 ≤ I124 17 (Int.toNat ((I 0 6))) ∧ I124 17 (Int.toNat ((I 0 6))) ≤ 24 from (hI124 17 (Int.toNat ((I 0 6)))).1)
                              refine gv_run 1 true hD (pc' := 436) (lv' := [(0, .inr (.inr (some 0))), (1, .inl (I 0 6)), (2, .inr (.inl v2_11)), (4, .inl v4_80)]) (st' := [.inl (I124 17 (Int.toNat ((I 0 6)))), .inl (I 0 6), .inr (.inr (some 17)), .inl (24 * (I 0 6))]) (h' := gr_h I124 J125) (C := (True ∧ (0 ≤ (I 0 6) ∧ (I 0 6) < ((8 : Nat) : Int)))) rfl ⟨trivial, ⟨by omega, by omega⟩⟩ ?_
                              refine gv_run 3 true hD (pc' := 439) (lv' := [(0, .inr (.inr (some 0))), (1, .inl (I 0 6)), (2, .inr (.inl v2_11)), (4, .inl v4_80)]) (st' := [.inl ((I124 17 (Int.toNat ((I 0 6)))) + 1), .inl (I 0 6), .inr (.inr (some 17)), .inl (I124 17 (Int.toNat ((I 0 6)))), .inl (24 * (I 0 6))]) (h' := gr_h I124 J125) (C := (((True ∧ True) ∧ True) ∧ True)) rfl ⟨⟨⟨trivial, trivial⟩, trivial⟩, trivial⟩ ?_
                              have t214 := (show I124 17 (Int.toNat (I 0 6)) = I 17 (Int.toNat (I 0 6)) from (e7_126.1 _))
                              refine gv_run 1 true hD (pc' := 440) (lv' := [(0, .inr (.inr (some 0))), (1, .inl (I 0 6)), (2, .inr (.inl v2_11)), (4, .inl v4_80)]) (st' := [.inl (I124 17 (Int.toNat ((I 0 6)))), .inl (24 * (I 0 6))]) (h' := gz_up (gr_h I124 J125) 17 (Int.toNat ((I 0 6))) (.inl (((I124 17 (Int.toNat ((I 0 6)))) + 1)))) (C := (True ∧ (0 ≤ (I 0 6) ∧ (I 0 6) < ((8 : Nat) : Int)))) rfl ⟨trivial, ⟨by omega, by omega⟩⟩ ?_
                              refine gr_st hI124 FI124 rfl rfl ⟨⟨by show 0 ≤ _; omega, by show _ ≤ 24; omega⟩, trivial⟩ (fun I215 hI215 FI215 q216 p216 => ?_)
                              have t217 := p216 0 71 (fun q => absurd q.1 (by decide))
                              have t218 := p216 0 72 (fun q => absurd q.1 (by decide))
                              have t219 := p216 0 73 (fun q => absurd q.1 (by decide))
                              have t220 := p216 0 69 (fun q => absurd q.1 (by decide))
                              have t221 := p216 0 6 (fun q => absurd q.1 (by decide))
                              have t222 := p216 0 59 (fun q => absurd q.1 (by decide))
                              have t223 := p216 0 42 (fun q => absurd q.1 (by decide))
                              have t224 := p216 0 106 (fun q => absurd q.1 (by decide))
                              have f225 := (show 0 ≤ I215 0 71 ∧ I215 0 71 ≤ 5 from (hI215 0 71).1)
                              have f226 := (show 0 ≤ I215 0 72 ∧ I215 0 72 ≤ 1000 from (hI215 0 72).1)
                              have f227 := (show 0 ≤ I215 0 73 ∧ I215 0 73 ≤ 1001 from (hI215 0 73).1)
                              have f228 := (show 0 ≤ I215 0 69 ∧ I215 0 69 ≤ 1000 from (hI215 0 69).1)
                              have f229 := (show (-1) ≤ I215 0 6 ∧ I215 0 6 ≤ 7 from (hI215 0 6).1)
                              have f230 := (show 0 ≤ I215 0 59 ∧ I215 0 59 ≤ 2000 from (hI215 0 59).1)
                              have f231 := (show 0 ≤ I215 0 42 ∧ I215 0 42 ≤ 2000 from (hI215 0 42).1)
                              have f232 := (show 0 ≤ I215 0 106 ∧ I215 0 106 ≤ 16777215 from (hI215 0 106).1)
                              have A233 := gr_ATp_sr e3_126 p216 rfl
                              refine gv_run 6 true hD (pc' := 450) (lv' := [(5, .inl ((24 * (I 0 6)) + (I124 17 (Int.toNat ((I 0 6)))))), (0, .inr (.inr (some 0))), (1, .inl (I 0 6)), (2, .inr (.inl v2_11)), (4, .inl v4_80)]) (st' := [.inr (.inl v2_11), .inl ((24 * (I 0 6)) + (I124 17 (Int.toNat ((I 0 6))))), .inr (.inr (some 23))]) (h' := gr_h I215 J125) (C := ((((((True ∧ True) ∧ True) ∧ True) ∧ True) ∧ True) ∧ True)) rfl ⟨⟨⟨⟨⟨⟨trivial, trivial⟩, trivial⟩, trivial⟩, trivial⟩, trivial⟩, trivial⟩ ?_
                              refine gv_run 1 true hD (pc' := 451) (lv' := [(5, .inl ((24 * (I 0 6)) + (I124 17 (Int.toNat ((I 0 6)))))), (0, .inr (.inr (some 0))), (1, .inl (I 0 6)), (2, .inr (.inl v2_11)), (4, .inl v4_80)]) (st' := []) (h' := gz_up (gr_h I215 J125) 23 (Int.toNat (((24 * (I 0 6)) + (I124 17 (Int.toNat ((I 0 6))))))) (.inr (.inl v2_11))) (C := (True ∧ (0 ≤ (((24 * (I 0 6)) + (I124 17 (Int.toNat ((I 0 6)))))) ∧ (((24 * (I 0 6)) + (I124 17 (Int.toNat ((I 0 6)))))) < ((192 : Nat) : Int)))) rfl ⟨trivial, ⟨by omega, by omega⟩⟩ ?_
                              refine gr_stJq FJ125 rfl rfl (fun J234 FJ234 q235 p235 => ?_)
                              have A236 := gr_ATp_sj' A233 p235 rfl
                              refine gv_run 4 true hD (pc' := 459) (lv' := [(5, .inl ((24 * (I 0 6)) + (I124 17 (Int.toNat ((I 0 6)))))), (0, .inr (.inr (some 0))), (1, .inl (I 0 6)), (2, .inr (.inl v2_11)), (4, .inl v4_80)]) (st' := [.inl v4_80, .inl ((24 * (I 0 6)) + (I124 17 (Int.toNat ((I 0 6))))), .inr (.inr (some 31))]) (h' := gr_h I215 J234) (C := ((((True ∧ True) ∧ True) ∧ True) ∧ True)) rfl ⟨⟨⟨⟨trivial, trivial⟩, trivial⟩, trivial⟩, trivial⟩ ?_
                              refine gv_run 1 true hD (pc' := 460) (lv' := [(5, .inl ((24 * (I 0 6)) + (I124 17 (Int.toNat ((I 0 6)))))), (0, .inr (.inr (some 0))), (1, .inl (I 0 6)), (2, .inr (.inl v2_11)), (4, .inl v4_80)]) (st' := []) (h' := gz_up (gr_h I215 J234) 31 (Int.toNat (((24 * (I 0 6)) + (I124 17 (Int.toNat ((I 0 6))))))) (.inl v4_80)) (C := (True ∧ (0 ≤ (((24 * (I 0 6)) + (I124 17 (Int.toNat ((I 0 6)))))) ∧ (((24 * (I 0 6)) + (I124 17 (Int.toNat ((I 0 6)))))) < ((192 : Nat) : Int)))) rfl ⟨trivial, ⟨by omega, by omega⟩⟩ ?_
                              refine gr_st hI215 FI215 rfl rfl ⟨⟨by show 0 ≤ _; omega, by show _ ≤ 24; omega⟩, trivial⟩ (fun I237 hI237 FI237 q238 p238 => ?_)
                              have t239 := p238 0 71 (fun q => absurd q.1 (by decide))
                              have t240 := p238 0 72 (fun q => absurd q.1 (by decide))
                              have t241 := p238 0 73 (fun q => absurd q.1 (by decide))
                              have t242 := p238 0 69 (fun q => absurd q.1 (by decide))
                              have t243 := p238 0 6 (fun q => absurd q.1 (by decide))
                              have t244 := p238 0 59 (fun q => absurd q.1 (by decide))
                              have t245 := p238 0 42 (fun q => absurd q.1 (by decide))
                              have t246 := p238 0 106 (fun q => absurd q.1 (by decide))
                              have t247 := p238 17 (Int.toNat ((I 0 6))) (fun q => absurd q.1 (by decide))
                              have t248 := p238 65 (Int.toNat (((24 * (I 0 6)) + (I124 17 (Int.toNat ((I 0 6))))))) (fun q => absurd q.1 (by decide))
                              have f249 := (show 0 ≤ I237 0 71 ∧ I237 0 71 ≤ 5 from (hI237 0 71).1)
                              have f250 := (show 0 ≤ I237 0 72 ∧ I237 0 72 ≤ 1000 from (hI237 0 72).1)
                              have f251 := (show 0 ≤ I237 0 73 ∧ I237 0 73 ≤ 1001 from (hI237 0 73).1)
                              have f252 := (show 0 ≤ I237 0 69 ∧ I237 0 69 ≤ 1000 from (hI237 0 69).1)
                              have f253 := (show (-1) ≤ I237 0 6 ∧ I237 0 6 ≤ 7 from (hI237 0 6).1)
                              have f254 := (show 0 ≤ I237 0 59 ∧ I237 0 59 ≤ 2000 from (hI237 0 59).1)
                              have f255 := (show 0 ≤ I237 0 42 ∧ I237 0 42 ≤ 2000 from (hI237 0 42).1)
                              have f256 := (show 0 ≤ I237 0 106 ∧ I237 0 106 ≤ 16777215 from (hI237 0 106).1)
                              have A257 := gr_ATp_sr A236 p238 rfl
                              refine gv_run 2 true hD (pc' := 463) (lv' := [(6, .inl 0), (5, .inl ((24 * (I 0 6)) + (I124 17 (Int.toNat ((I 0 6)))))), (0, .inr (.inr (some 0))), (1, .inl (I 0 6)), (2, .inr (.inl v2_11)), (4, .inl v4_80)]) (st' := []) (h' := gr_h I237 J234) (C := ((True ∧ True) ∧ True)) rfl ⟨⟨trivial, trivial⟩, trivial⟩ ?_
                              refine gv_pick [2, 5, 1, 0] rfl ?_
                              exact L463 _ I237 J234 (((24 * (I 0 6)) + (I124 17 (Int.toNat ((I 0 6)))))) 0 p_126 (Nat.lt_succ_self _) hI237 FI237 FJ234 (by omega) A257 e4_126 (by rw [e6_126, show gs_ll (I237 64) _ = gs_ll (I124 64) _ from gs_ll_eq (fun j _ => ((p238 64 j (fun q => absurd q.1 (by decide))).trans (p216 64 j (fun q => absurd q.1 (by decide)))))]) (by have v9 : I124 17 (Int.toNat (I 0 6)) = I 17 (Int.toNat (I 0 6)) := (e7_126.1 _); exact gs_Upm_0 (fun j => ⟨(e7_126.1 j), (e7_126.2.2.2 j), (e7_126.2.1 j), (e7_126.2.2.1 j)⟩) (by omega) p216 (q216.trans (by omega)) (by unfold gs_Pn; omega) p235 (q235.trans e5_126) (by unfold gs_Pn; omega) p238 q238 rfl) (by omega) (by omega)
                            refine gv_run 3 true hD (pc' := 398) (lv' := [(0, .inr (.inr (some 0))), (1, .inl (I 0 6)), (2, .inr (.inl v2_11)), (4, .inl v4_80)]) (st' := [.inl 24, .inl v4_80, .inr (.inr (some 0))]) (h' := gr_h I112 J113) (C := (((True ∧ True) ∧ True) ∧ True)) rfl ⟨⟨⟨trivial, trivial⟩, trivial⟩, trivial⟩ ?_
                            refine gv_icmp_gt (t := 416) hD rfl rfl ⟨⟨by omega, by omega⟩, ⟨by omega, by omega⟩⟩ (fun c258 => ?_) (fun c258 => ?_)
                            · refine gv_run 1 true hD (pc' := 417) (lv' := [(0, .inr (.inr (some 0))), (1, .inl (I 0 6)), (2, .inr (.inl v2_11)), (4, .inl v4_80)]) (st' := [.inl 0, .inr (.inr (some 0))]) (h' := gr_h I112 J113) (C := (True ∧ True)) rfl ⟨trivial, trivial⟩ ?_
                              obtain ⟨r259, h259, E259, P259⟩ := r_done_p (ws0 := ws0) (tb := tb) hws htb ext β N9 p_114 I112 J113 hI112 0 ⟨by omega, by omega⟩ (gr_ATp_rr e1_114).1 (gr_ATp_rr e1_114).2.1 (gr_ATp_rr e1_114).2.2.1 (gr_ATp_rr e1_114).2.2.2.1 (gr_ATp_rr e1_114).2.2.2.2 e1_114 (by omega)
                              obtain ⟨I260, J261, rfl, hI260, g259, k259, ⟨z259, rfl, q259⟩⟩ := P259
                              have FI260 := gr_frt FI112 g259 rfl rfl
                              have FJ261 := gr_fjt FJ113 k259 rfl rfl
                              have t262 := g259 0 69 rfl
                              have t263 := g259 0 6 rfl
                              have t264 := g259 0 59 rfl
                              have t265 := g259 0 42 rfl
                              have t266 := g259 0 106 rfl
                              have t267 := g259 17 (Int.toNat ((I 0 6))) rfl
                              have f268 := (show 0 ≤ I260 0 71 ∧ I260 0 71 ≤ 5 from (hI260 0 71).1)
                              have f269 := (show 0 ≤ I260 0 72 ∧ I260 0 72 ≤ 1000 from (hI260 0 72).1)
                              have f270 := (show 0 ≤ I260 0 73 ∧ I260 0 73 ≤ 1001 from (hI260 0 73).1)
                              have f271 := (show 0 ≤ I260 0 69 ∧ I260 0 69 ≤ 1000 from (hI260 0 69).1)
                              have f272 := (show (-1) ≤ I260 0 6 ∧ I260 0 6 ≤ 7 from (hI260 0 6).1)
                              have f273 := (show 0 ≤ I260 0 59 ∧ I260 0 59 ≤ 2000 from (hI260 0 59).1)
                              have f274 := (show 0 ≤ I260 0 42 ∧ I260 0 42 ≤ 2000 from (hI260 0 42).1)
                              have f275 := (show 0 ≤ I260 0 106 ∧ I260 0 106 ≤ 16777215 from (hI260 0 106).1)
                              refine gv_callV hD rfl (As := [.inl 0]) (st := []) rfl (by decide) rfl rfl (gr_lV hws rfl) (Nat.le_of_ble_eq_true rfl) (gz_Ev_mono (d := 11) (by decide) E259) ?_
                              show gv_X _ _ (420, [(0, .inr (.inr (some 0))), (1, .inl (I 0 6)), (2, .inr (.inl v2_11)), (4, .inl v4_80)], [.inl z259], gr_sh ++ ext, gr_h I260 J261)
                              refine gv_if_ne (t := 425) hD rfl rfl ⟨by omega, by omega⟩ (fun c276 => ?_) (fun c276 => ?_)
                              · have Q277 := q259.2.2.2.2.2.2.2.2.2.2.2.2
                                rw [FI112 0 78 rfl] at Q277
                                obtain ⟨u277, A277⟩ := gs_or1 Q277 (by omega)
                                have t278 := gr_ATp_l A277
                                have t279 := (q259.2.2.2.2.2.2.2.2.2.2.1).resolve_left (by omega)
                                have t280 := (q259.2.2.2.2.2.2.2.2.2.2.2.1).resolve_left (by omega)
                                obtain ⟨_, _, -, _, -, -, _, _, _, _, -, -, -⟩ := q259
                                have t281 := (gr_ATp_rr e1_114).2.2.1.resolve_left (by omega)
                                exact L425 I260 J261 ((gs_done β N9 0 (I 0 78) p_114)) hI260 FI260 FJ261 (by omega) A277 (by first | (exfalso; omega) | (rw [e2_114]; (repeat first | rw [if_pos (by omega)] | rw [if_neg (by omega)]))) e3_114 (by rw [e4_114, show gs_ll (I260 64) _ = gs_ll (I112 64) _ from gs_ll_eq (fun j _ => (g259 64 j rfl))]) ⟨(fun k => ((g259 17 k rfl).trans (e5_114.1 k))), (fun k => ((g259 31 k rfl).trans (e5_114.2.1 k))), (fun k => ((g259 32 k rfl).trans (e5_114.2.2.1 k))), (fun k => ((k259 23 k rfl).trans (e5_114.2.2.2 k)))⟩
                              · have Q282 := q259.2.2.2.2.2.2.2.2.2.2.2.2
                                rw [FI112 0 78 rfl] at Q282
                                obtain ⟨u282, u282_⟩ := gs_or0 Q282 (by omega)
                                refine gv_run 1 true hD (pc' := 424) (lv' := [(0, .inr (.inr (some 0))), (1, .inl (I 0 6)), (2, .inr (.inl v2_11)), (4, .inl v4_80)]) (st' := [.inl 0]) (h' := gr_h I260 J261) (C := (True ∧ True)) rfl ⟨trivial, trivial⟩ ?_
                                have b283 : (I260 0 71 = 5 ∨ I260 0 73 ≤ I260 0 69) ∧ (I260 0 72 ≤ I260 0 69) ∧ (I260 0 71 = 0 ∨ (I260 0 72 < I260 0 73 ∧ I260 0 72 < I260 0 69)) ∧ (I260 0 71 = 3 → 2 ≤ I260 0 73 - I260 0 72 ∧ I260 0 73 - I260 0 72 ≤ 14) ∧ (I260 0 72 ≤ I260 0 73) ∧ (I260 0 69 = I 0 69) ∧ (I 0 73 ≤ I260 0 73) ∧ (I 0 72 ≤ I260 0 72) ∧ (I260 0 59 - I260 0 72 ≤ I 0 59 - I 0 72) ∧ (I260 0 42 - I260 0 72 ≤ I 0 42 - I 0 72) := by omega
                                exact gv_zret hD rfl (by omega) ⟨I260, J261, rfl, hI260, FI260, FJ261, ⟨_, rfl, by omega, by omega, b283.1, b283.2.1, b283.2.2.1, b283.2.2.2.1, b283.2.2.2.2.1, b283.2.2.2.2.2.1, b283.2.2.2.2.2.2.1, b283.2.2.2.2.2.2.2.1, b283.2.2.2.2.2.2.2.2.1, b283.2.2.2.2.2.2.2.2.2, (Or.inr ⟨by omega, by first | (exfalso; omega) | (rw [e2_114]; (repeat first | rw [if_pos (by omega)] | rw [if_neg (by omega)]); exact ⟨by omega, by omega, (fun j => ⟨((g259 17 j rfl).trans (e5_114.1 j)), ((k259 23 j rfl).trans (e5_114.2.2.2 j)), ((g259 31 j rfl).trans (e5_114.2.1 j)), ((g259 32 j rfl).trans (e5_114.2.2.1 j))⟩)⟩)⟩)⟩⟩
                            · have f284 := (show 0 ≤ I112 17 (Int.toNat ((I 0 6))) ∧ I112 17 (Int.toNat ((I 0 6))) ≤ 24 from (hI112 17 (Int.toNat ((I 0 6)))).1)
                              refine gv_run 4 true hD (pc' := 407) (lv' := [(0, .inr (.inr (some 0))), (1, .inl (I 0 6)), (2, .inr (.inl v2_11)), (4, .inl v4_80)]) (st' := [.inl (I112 17 (Int.toNat ((I 0 6)))), .inr (.inr (some 0))]) (h' := gr_h I112 J113) (C := ((((True ∧ True) ∧ True) ∧ True) ∧ (0 ≤ (I 0 6) ∧ (I 0 6) < ((8 : Nat) : Int)))) rfl ⟨⟨⟨⟨trivial, trivial⟩, trivial⟩, trivial⟩, ⟨by omega, by omega⟩⟩ ?_
                              refine gv_run 1 true hD (pc' := 409) (lv' := [(0, .inr (.inr (some 0))), (1, .inl (I 0 6)), (2, .inr (.inl v2_11)), (4, .inl v4_80)]) (st' := [.inl 24, .inl (I112 17 (Int.toNat ((I 0 6)))), .inr (.inr (some 0))]) (h' := gr_h I112 J113) (C := (True ∧ True)) rfl ⟨trivial, trivial⟩ ?_
                              have t285 := (show I112 17 (Int.toNat (I 0 6)) = I 17 (Int.toNat (I 0 6)) from (e5_114.1 _))
                              refine gv_icmp_ge (t := 416) hD rfl rfl ⟨⟨by omega, by omega⟩, ⟨by omega, by omega⟩⟩ (fun c286 => ?_) (fun c286 => ?_)
                              · refine gv_run 1 true hD (pc' := 417) (lv' := [(0, .inr (.inr (some 0))), (1, .inl (I 0 6)), (2, .inr (.inl v2_11)), (4, .inl v4_80)]) (st' := [.inl 0, .inr (.inr (some 0))]) (h' := gr_h I112 J113) (C := (True ∧ True)) rfl ⟨trivial, trivial⟩ ?_
                                obtain ⟨r287, h287, E287, P287⟩ := r_done_p (ws0 := ws0) (tb := tb) hws htb ext β N9 p_114 I112 J113 hI112 0 ⟨by omega, by omega⟩ (gr_ATp_rr e1_114).1 (gr_ATp_rr e1_114).2.1 (gr_ATp_rr e1_114).2.2.1 (gr_ATp_rr e1_114).2.2.2.1 (gr_ATp_rr e1_114).2.2.2.2 e1_114 (by omega)
                                obtain ⟨I288, J289, rfl, hI288, g287, k287, ⟨z287, rfl, q287⟩⟩ := P287
                                have FI288 := gr_frt FI112 g287 rfl rfl
                                have FJ289 := gr_fjt FJ113 k287 rfl rfl
                                have t290 := g287 0 69 rfl
                                have t291 := g287 0 6 rfl
                                have t292 := g287 0 59 rfl
                                have t293 := g287 0 42 rfl
                                have t294 := g287 0 106 rfl
                                have t295 := g287 17 (Int.toNat ((I 0 6))) rfl
                                have f296 := (show 0 ≤ I288 0 71 ∧ I288 0 71 ≤ 5 from (hI288 0 71).1)
                                have f297 := (show 0 ≤ I288 0 72 ∧ I288 0 72 ≤ 1000 from (hI288 0 72).1)
                                have f298 := (show 0 ≤ I288 0 73 ∧ I288 0 73 ≤ 1001 from (hI288 0 73).1)
                                have f299 := (show 0 ≤ I288 0 69 ∧ I288 0 69 ≤ 1000 from (hI288 0 69).1)
                                have f300 := (show (-1) ≤ I288 0 6 ∧ I288 0 6 ≤ 7 from (hI288 0 6).1)
                                have f301 := (show 0 ≤ I288 0 59 ∧ I288 0 59 ≤ 2000 from (hI288 0 59).1)
                                have f302 := (show 0 ≤ I288 0 42 ∧ I288 0 42 ≤ 2000 from (hI288 0 42).1)
                                have f303 := (show 0 ≤ I288 0 106 ∧ I288 0 106 ≤ 16777215 from (hI288 0 106).1)
                                refine gv_callV hD rfl (As := [.inl 0]) (st := []) rfl (by decide) rfl rfl (gr_lV hws rfl) (Nat.le_of_ble_eq_true rfl) (gz_Ev_mono (d := 11) (by decide) E287) ?_
                                show gv_X _ _ (420, [(0, .inr (.inr (some 0))), (1, .inl (I 0 6)), (2, .inr (.inl v2_11)), (4, .inl v4_80)], [.inl z287], gr_sh ++ ext, gr_h I288 J289)
                                refine gv_if_ne (t := 425) hD rfl rfl ⟨by omega, by omega⟩ (fun c304 => ?_) (fun c304 => ?_)
                                · have Q305 := q287.2.2.2.2.2.2.2.2.2.2.2.2
                                  rw [FI112 0 78 rfl] at Q305
                                  obtain ⟨u305, A305⟩ := gs_or1 Q305 (by omega)
                                  have t306 := gr_ATp_l A305
                                  have t307 := (q287.2.2.2.2.2.2.2.2.2.2.1).resolve_left (by omega)
                                  have t308 := (q287.2.2.2.2.2.2.2.2.2.2.2.1).resolve_left (by omega)
                                  obtain ⟨_, _, -, _, -, -, _, _, _, _, -, -, -⟩ := q287
                                  have t309 := (gr_ATp_rr e1_114).2.2.1.resolve_left (by omega)
                                  exact L425 I288 J289 ((gs_done β N9 0 (I 0 78) p_114)) hI288 FI288 FJ289 (by omega) A305 (by first | (exfalso; omega) | (rw [e2_114]; (repeat first | rw [if_pos (by omega)] | rw [if_neg (by omega)]))) e3_114 (by rw [e4_114, show gs_ll (I288 64) _ = gs_ll (I112 64) _ from gs_ll_eq (fun j _ => (g287 64 j rfl))]) ⟨(fun k => ((g287 17 k rfl).trans (e5_114.1 k))), (fun k => ((g287 31 k rfl).trans (e5_114.2.1 k))), (fun k => ((g287 32 k rfl).trans (e5_114.2.2.1 k))), (fun k => ((k287 23 k rfl).trans (e5_114.2.2.2 k)))⟩
                                · have Q310 := q287.2.2.2.2.2.2.2.2.2.2.2.2
                                  rw [FI112 0 78 rfl] at Q310
                                  obtain ⟨u310, u310_⟩ := gs_or0 Q310 (by omega)
                                  refine gv_run 1 true hD (pc' := 424) (lv' := [(0, .inr (.inr (some 0))), (1, .inl (I 0 6)), (2, .inr (.inl v2_11)), (4, .inl v4_80)]) (st' := [.inl 0]) (h' := gr_h I288 J289) (C := (True ∧ True)) rfl ⟨trivial, trivial⟩ ?_
                                  have b311 : (I288 0 71 = 5 ∨ I288 0 73 ≤ I288 0 69) ∧ (I288 0 72 ≤ I288 0 69) ∧ (I288 0 71 = 0 ∨ (I288 0 72 < I288 0 73 ∧ I288 0 72 < I288 0 69)) ∧ (I288 0 71 = 3 → 2 ≤ I288 0 73 - I288 0 72 ∧ I288 0 73 - I288 0 72 ≤ 14) ∧ (I288 0 72 ≤ I288 0 73) ∧ (I288 0 69 = I 0 69) ∧ (I 0 73 ≤ I288 0 73) ∧ (I 0 72 ≤ I288 0 72) ∧ (I288 0 59 - I288 0 72 ≤ I 0 59 - I 0 72) ∧ (I288 0 42 - I288 0 72 ≤ I 0 42 - I 0 72) := by omega
                                  exact gv_zret hD rfl (by omega) ⟨I288, J289, rfl, hI288, FI288, FJ289, ⟨_, rfl, by omega, by omega, b311.1, b311.2.1, b311.2.2.1, b311.2.2.2.1, b311.2.2.2.2.1, b311.2.2.2.2.2.1, b311.2.2.2.2.2.2.1, b311.2.2.2.2.2.2.2.1, b311.2.2.2.2.2.2.2.2.1, b311.2.2.2.2.2.2.2.2.2, (Or.inr ⟨by omega, by first | (exfalso; omega) | (rw [e2_114]; (repeat first | rw [if_pos (by omega)] | rw [if_neg (by omega)]); exact ⟨by omega, by omega, (fun j => ⟨((g287 17 j rfl).trans (e5_114.1 j)), ((k287 23 j rfl).trans (e5_114.2.2.2 j)), ((g287 31 j rfl).trans (e5_114.2.1 j)), ((g287 32 j rfl).trans (e5_114.2.2.1 j))⟩)⟩)⟩)⟩⟩
                              · refine gv_run 2 true hD (pc' := 417) (lv' := [(0, .inr (.inr (some 0))), (1, .inl (I 0 6)), (2, .inr (.inl v2_11)), (4, .inl v4_80)]) (st' := [.inl 1, .inr (.inr (some 0))]) (h' := gr_h I112 J113) (C := ((True ∧ True) ∧ True)) rfl ⟨⟨trivial, trivial⟩, trivial⟩ ?_
                                obtain ⟨r312, h312, E312, P312⟩ := r_done_p (ws0 := ws0) (tb := tb) hws htb ext β N9 p_114 I112 J113 hI112 1 ⟨by omega, by omega⟩ (gr_ATp_rr e1_114).1 (gr_ATp_rr e1_114).2.1 (gr_ATp_rr e1_114).2.2.1 (gr_ATp_rr e1_114).2.2.2.1 (gr_ATp_rr e1_114).2.2.2.2 e1_114 (by omega)
                                obtain ⟨I313, J314, rfl, hI313, g312, k312, ⟨z312, rfl, q312⟩⟩ := P312
                                have FI313 := gr_frt FI112 g312 rfl rfl
                                have FJ314 := gr_fjt FJ113 k312 rfl rfl
                                have t315 := g312 0 69 rfl
                                have t316 := g312 0 6 rfl
                                have t317 := g312 0 59 rfl
                                have t318 := g312 0 42 rfl
                                have t319 := g312 0 106 rfl
                                have t320 := g312 17 (Int.toNat ((I 0 6))) rfl
                                have f321 := (show 0 ≤ I313 0 71 ∧ I313 0 71 ≤ 5 from (hI313 0 71).1)
                                have f322 := (show 0 ≤ I313 0 72 ∧ I313 0 72 ≤ 1000 from (hI313 0 72).1)
                                have f323 := (show 0 ≤ I313 0 73 ∧ I313 0 73 ≤ 1001 from (hI313 0 73).1)
                                have f324 := (show 0 ≤ I313 0 69 ∧ I313 0 69 ≤ 1000 from (hI313 0 69).1)
                                have f325 := (show (-1) ≤ I313 0 6 ∧ I313 0 6 ≤ 7 from (hI313 0 6).1)
                                have f326 := (show 0 ≤ I313 0 59 ∧ I313 0 59 ≤ 2000 from (hI313 0 59).1)
                                have f327 := (show 0 ≤ I313 0 42 ∧ I313 0 42 ≤ 2000 from (hI313 0 42).1)
                                have f328 := (show 0 ≤ I313 0 106 ∧ I313 0 106 ≤ 16777215 from (hI313 0 106).1)
                                refine gv_callV hD rfl (As := [.inl 1]) (st := []) rfl (by decide) rfl rfl (gr_lV hws rfl) (Nat.le_of_ble_eq_true rfl) (gz_Ev_mono (d := 11) (by decide) E312) ?_
                                show gv_X _ _ (420, [(0, .inr (.inr (some 0))), (1, .inl (I 0 6)), (2, .inr (.inl v2_11)), (4, .inl v4_80)], [.inl z312], gr_sh ++ ext, gr_h I313 J314)
                                refine gv_if_ne (t := 425) hD rfl rfl ⟨by omega, by omega⟩ (fun c329 => ?_) (fun c329 => ?_)
                                · have Q330 := q312.2.2.2.2.2.2.2.2.2.2.2.2
                                  rw [FI112 0 78 rfl] at Q330
                                  obtain ⟨u330, A330⟩ := gs_or1 Q330 (by omega)
                                  have t331 := gr_ATp_l A330
                                  have t332 := (q312.2.2.2.2.2.2.2.2.2.2.1).resolve_left (by omega)
                                  have t333 := (q312.2.2.2.2.2.2.2.2.2.2.2.1).resolve_left (by omega)
                                  obtain ⟨_, _, -, _, -, -, _, _, _, _, -, -, -⟩ := q312
                                  have t334 := (gr_ATp_rr e1_114).2.2.1.resolve_left (by omega)
                                  exact L425 I313 J314 ((gs_done β N9 1 (I 0 78) p_114)) hI313 FI313 FJ314 (by omega) A330 (by first | (exfalso; omega) | (rw [e2_114]; (repeat first | rw [if_pos (by omega)] | rw [if_neg (by omega)]))) e3_114 (by rw [e4_114, show gs_ll (I313 64) _ = gs_ll (I112 64) _ from gs_ll_eq (fun j _ => (g312 64 j rfl))]) ⟨(fun k => ((g312 17 k rfl).trans (e5_114.1 k))), (fun k => ((g312 31 k rfl).trans (e5_114.2.1 k))), (fun k => ((g312 32 k rfl).trans (e5_114.2.2.1 k))), (fun k => ((k312 23 k rfl).trans (e5_114.2.2.2 k)))⟩
                                · have Q335 := q312.2.2.2.2.2.2.2.2.2.2.2.2
                                  rw [FI112 0 78 rfl] at Q335
                                  obtain ⟨u335, u335_⟩ := gs_or0 Q335 (by omega)
                                  refine gv_run 1 true hD (pc' := 424) (lv' := [(0, .inr (.inr (some 0))), (1, .inl (I 0 6)), (2, .inr (.inl v2_11)), (4, .inl v4_80)]) (st' := [.inl 0]) (h' := gr_h I313 J314) (C := (True ∧ True)) rfl ⟨trivial, trivial⟩ ?_
                                  have b336 : (I313 0 71 = 5 ∨ I313 0 73 ≤ I313 0 69) ∧ (I313 0 72 ≤ I313 0 69) ∧ (I313 0 71 = 0 ∨ (I313 0 72 < I313 0 73 ∧ I313 0 72 < I313 0 69)) ∧ (I313 0 71 = 3 → 2 ≤ I313 0 73 - I313 0 72 ∧ I313 0 73 - I313 0 72 ≤ 14) ∧ (I313 0 72 ≤ I313 0 73) ∧ (I313 0 69 = I 0 69) ∧ (I 0 73 ≤ I313 0 73) ∧ (I 0 72 ≤ I313 0 72) ∧ (I313 0 59 - I313 0 72 ≤ I 0 59 - I 0 72) ∧ (I313 0 42 - I313 0 72 ≤ I 0 42 - I 0 72) := by omega
                                  exact gv_zret hD rfl (by omega) ⟨I313, J314, rfl, hI313, FI313, FJ314, ⟨_, rfl, by omega, by omega, b336.1, b336.2.1, b336.2.2.1, b336.2.2.2.1, b336.2.2.2.2.1, b336.2.2.2.2.2.1, b336.2.2.2.2.2.2.1, b336.2.2.2.2.2.2.2.1, b336.2.2.2.2.2.2.2.2.1, b336.2.2.2.2.2.2.2.2.2, (Or.inr ⟨by omega, by first | (exfalso; omega) | (rw [e2_114]; (repeat first | rw [if_pos (by omega)] | rw [if_neg (by omega)]); exact ⟨by omega, by omega, (fun j => ⟨((g312 17 j rfl).trans (e5_114.1 j)), ((k312 23 j rfl).trans (e5_114.2.2.2 j)), ((g312 31 j rfl).trans (e5_114.2.1 j)), ((g312 32 j rfl).trans (e5_114.2.2.1 j))⟩)⟩)⟩)⟩⟩
                          refine gv_run 2 true hD (pc' := 387) (lv' := [(0, .inr (.inr (some 0))), (1, .inl (I 0 6)), (2, .inr (.inl v2_11)), (4, .inl v4_80)]) (st' := [.inl 125, .inr (.inr (some 0))]) (h' := gr_h I90 J91) (C := ((True ∧ True) ∧ True)) rfl ⟨⟨trivial, trivial⟩, trivial⟩ ?_
                          obtain ⟨r337, h337, E337, P337⟩ := r_need_p (ws0 := ws0) (tb := tb) hws htb ext β N9 p_92 I90 J91 hI90 125 ⟨by omega, by omega⟩ (gr_ATp_rr e3_92).1 (gr_ATp_rr e3_92).2.1 (gr_ATp_rr e3_92).2.2.1 (gr_ATp_rr e3_92).2.2.2.1 (gr_ATp_rr e3_92).2.2.2.2 e3_92 (by omega)
                          obtain ⟨I338, J339, rfl, hI338, g337, k337, ⟨z337, rfl, q337⟩⟩ := P337
                          have FI338 := gr_frt FI90 g337 rfl rfl
                          have FJ339 := gr_fjt FJ91 k337 rfl rfl
                          have t340 := g337 0 69 rfl
                          have t341 := g337 0 6 rfl
                          have t342 := g337 0 59 rfl
                          have t343 := g337 0 42 rfl
                          have t344 := g337 0 106 rfl
                          have t345 := g337 17 (Int.toNat ((I 0 6))) rfl
                          have f346 := (show 0 ≤ I338 0 71 ∧ I338 0 71 ≤ 5 from (hI338 0 71).1)
                          have f347 := (show 0 ≤ I338 0 72 ∧ I338 0 72 ≤ 1000 from (hI338 0 72).1)
                          have f348 := (show 0 ≤ I338 0 73 ∧ I338 0 73 ≤ 1001 from (hI338 0 73).1)
                          have f349 := (show 0 ≤ I338 0 69 ∧ I338 0 69 ≤ 1000 from (hI338 0 69).1)
                          have f350 := (show (-1) ≤ I338 0 6 ∧ I338 0 6 ≤ 7 from (hI338 0 6).1)
                          have f351 := (show 0 ≤ I338 0 59 ∧ I338 0 59 ≤ 2000 from (hI338 0 59).1)
                          have f352 := (show 0 ≤ I338 0 42 ∧ I338 0 42 ≤ 2000 from (hI338 0 42).1)
                          have f353 := (show 0 ≤ I338 0 106 ∧ I338 0 106 ≤ 16777215 from (hI338 0 106).1)
                          refine gv_callV hD rfl (As := [.inl 125]) (st := []) rfl (by decide) rfl rfl (gr_lV hws rfl) (Nat.le_of_ble_eq_true rfl) (gz_Ev_mono (d := 11) (by decide) E337) ?_
                          show gv_X _ _ (390, [(0, .inr (.inr (some 0))), (1, .inl (I 0 6)), (2, .inr (.inl v2_11)), (4, .inl v4_80)], [.inl z337], gr_sh ++ ext, gr_h I338 J339)
                          refine gv_if_eq (t := 423) hD rfl rfl ⟨by omega, by omega⟩ (fun c354 => ?_) (fun c354 => ?_)
                          · obtain ⟨u355, u355_⟩ := gs_or0 q337.2.2.2.2.2.2.2.2.2.2.2 (by omega)
                            refine gv_run 1 true hD (pc' := 424) (lv' := [(0, .inr (.inr (some 0))), (1, .inl (I 0 6)), (2, .inr (.inl v2_11)), (4, .inl v4_80)]) (st' := [.inl 0]) (h' := gr_h I338 J339) (C := (True ∧ True)) rfl ⟨trivial, trivial⟩ ?_
                            have b356 : (I338 0 71 = 5 ∨ I338 0 73 ≤ I338 0 69) ∧ (I338 0 72 ≤ I338 0 69) ∧ (I338 0 71 = 0 ∨ (I338 0 72 < I338 0 73 ∧ I338 0 72 < I338 0 69)) ∧ (I338 0 71 = 3 → 2 ≤ I338 0 73 - I338 0 72 ∧ I338 0 73 - I338 0 72 ≤ 14) ∧ (I338 0 72 ≤ I338 0 73) ∧ (I338 0 69 = I 0 69) ∧ (I 0 73 ≤ I338 0 73) ∧ (I 0 72 ≤ I338 0 72) ∧ (I338 0 59 - I338 0 72 ≤ I 0 59 - I 0 72) ∧ (I338 0 42 - I338 0 72 ≤ I 0 42 - I 0 72) := by omega
                            exact gv_zret hD rfl (by omega) ⟨I338, J339, rfl, hI338, FI338, FJ339, ⟨_, rfl, by omega, by omega, b356.1, b356.2.1, b356.2.2.1, b356.2.2.2.1, b356.2.2.2.2.1, b356.2.2.2.2.2.1, b356.2.2.2.2.2.2.1, b356.2.2.2.2.2.2.2.1, b356.2.2.2.2.2.2.2.2.1, b356.2.2.2.2.2.2.2.2.2, (Or.inr ⟨by omega, by first | (exfalso; omega) | (rw [gs_pat_e e2_102 (by omega) (gs_ll_len (by omega))]; unfold gs_pt4; (repeat first | rw [if_pos (by omega)] | rw [if_neg (by omega)]); exact ⟨by omega, by omega, (fun j => ⟨((g337 17 j rfl).trans (e4_102.1 j)), ((k337 23 j rfl).trans (e4_102.2.2.2 j)), ((g337 31 j rfl).trans (e4_102.2.1 j)), ((g337 32 j rfl).trans (e4_102.2.2.1 j))⟩)⟩)⟩)⟩⟩
                          · obtain ⟨u357, A357⟩ := gs_or1 q337.2.2.2.2.2.2.2.2.2.2.2 (by omega)
                            have t358 := gr_ATp_l A357
                            have t359 := (q337.2.2.2.2.2.2.2.2.2.2.1).resolve_left (by omega)
                            obtain ⟨_, _, -, _, -, -, _, _, _, _, -, -⟩ := q337
                            have t360 := (gr_ATp_rr e3_92).2.2.1.resolve_left (by omega)
                            exact L393 I338 J339 (gs_need β N9 125 p_92) hI338 FI338 FJ339 (by omega) A357 (by rw [gs_pat_e e2_102 (by omega) (gs_ll_len (by omega))]; unfold gs_pt4; (repeat first | rw [if_pos (by omega)] | rw [if_neg (by omega)])) e3_102 (by rw [e2_102, show gs_ll (I338 64) _ = gs_ll (I90 64) _ from gs_ll_eq (fun j _ => (g337 64 j rfl))]) ⟨(fun k => ((g337 17 k rfl).trans (e4_102.1 k))), (fun k => ((g337 31 k rfl).trans (e4_102.2.1 k))), (fun k => ((g337 32 k rfl).trans (e4_102.2.2.1 k))), (fun k => ((k337 23 k rfl).trans (e4_102.2.2.2 k)))⟩
                        refine gv_run 2 true hD (pc' := 368) (lv' := [(0, .inr (.inr (some 0))), (1, .inl (I 0 6)), (2, .inr (.inl v2_11)), (4, .inl v4_80)]) (st' := [.inl 44, .inr (.inr (some 0))]) (h' := gr_h I90 J91) (C := ((True ∧ True) ∧ True)) rfl ⟨⟨trivial, trivial⟩, trivial⟩ ?_
                        obtain ⟨r361, h361, E361, P361⟩ := r_sign_p (ws0 := ws0) (tb := tb) hws htb ext β N9 p_92 I90 J91 hI90 44 ⟨by omega, by omega⟩ (fun h9 => by have g9 := (gr_ATp_rr e3_92).2.2.1; omega) e3_92 (by omega)
                        obtain ⟨rfl, ⟨z361, rfl, q361⟩⟩ := P361
                        have V361 := gs_or_mk q361.2.2.2
                        obtain ⟨_, _, o361, -⟩ := q361
                        refine gv_callV hD rfl (As := [.inl 44]) (st := []) rfl (by decide) rfl rfl (gr_lV hws rfl) (Nat.le_of_ble_eq_true rfl) (gz_Ev_mono (d := 1) (by decide) E361) ?_
                        show gv_X _ _ (371, [(0, .inr (.inr (some 0))), (1, .inl (I 0 6)), (2, .inr (.inl v2_11)), (4, .inl v4_80)], [.inl z361], gr_sh ++ ext, gr_h I90 J91)
                        refine gv_if_ne (t := 377) hD rfl rfl ⟨by omega, by omega⟩ (fun c362 => ?_) (fun c362 => ?_)
                        · have u363 := gs_or1 V361 (by omega)
                          have t364 := o361.resolve_left (by omega)
                          have t365 := (gr_ATp_rr e3_92).2.2.1.resolve_left (by omega)
                          clear o361 V361
                          refine gv_run 1 true hD (pc' := 378) (lv' := [(0, .inr (.inr (some 0))), (1, .inl (I 0 6)), (2, .inr (.inl v2_11)), (4, .inl v4_80)]) (st' := [.inr (.inr (some 0))]) (h' := gr_h I90 J91) (C := (True ∧ True)) rfl ⟨trivial, trivial⟩ ?_
                          obtain ⟨r366, h366, E366, P366⟩ := r_next_p (ws0 := ws0) (tb := tb) hws htb ext β N9 I90 J91 hI90   ((gr_ATp_rr e3_92).1.resolve_left (by omega)) e3_92.1.1 e3_92.1.2
                          obtain ⟨I367, J368, rfl, hI367, g366, k366, ⟨rfl, q366⟩⟩ := P366
                          have FI367 := gr_frt FI90 g366 rfl rfl
                          have FJ368 := gr_fjt FJ91 k366 rfl rfl
                          have t369 := g366 0 69 rfl
                          have t370 := g366 0 6 rfl
                          have t371 := g366 0 59 rfl
                          have t372 := g366 0 42 rfl
                          have t373 := g366 0 106 rfl
                          have t374 := g366 17 (Int.toNat ((I 0 6))) rfl
                          have f375 := (show 0 ≤ I367 0 71 ∧ I367 0 71 ≤ 5 from (hI367 0 71).1)
                          have f376 := (show 0 ≤ I367 0 72 ∧ I367 0 72 ≤ 1000 from (hI367 0 72).1)
                          have f377 := (show 0 ≤ I367 0 73 ∧ I367 0 73 ≤ 1001 from (hI367 0 73).1)
                          have f378 := (show 0 ≤ I367 0 69 ∧ I367 0 69 ≤ 1000 from (hI367 0 69).1)
                          have f379 := (show (-1) ≤ I367 0 6 ∧ I367 0 6 ≤ 7 from (hI367 0 6).1)
                          have f380 := (show 0 ≤ I367 0 59 ∧ I367 0 59 ≤ 2000 from (hI367 0 59).1)
                          have f381 := (show 0 ≤ I367 0 42 ∧ I367 0 42 ≤ 2000 from (hI367 0 42).1)
                          have f382 := (show 0 ≤ I367 0 106 ∧ I367 0 106 ≤ 16777215 from (hI367 0 106).1)
                          have t383 := (gr_ATp_rr e3_92).2.2.1.resolve_left (by omega)
                          have A384 := gr_ATp_nx e3_92 q366.2.2.2.2.2
                          have t385 := gr_ATp_l A384
                          obtain ⟨_, _, -, -, -, -⟩ := q366
                          refine gv_callV hD rfl (As := []) (st := []) rfl (by decide) rfl rfl (gr_lV hws rfl) (Nat.le_of_ble_eq_true rfl) (gz_Ev_mono (d := 10) (by decide) E366) ?_
                          show gv_X _ _ (381, [(0, .inr (.inr (some 0))), (1, .inl (I 0 6)), (2, .inr (.inl v2_11)), (4, .inl v4_80)], [], gr_sh ++ ext, gr_h I367 J368)
                          refine gv_run 1 true hD (pc' := 218) (lv' := [(0, .inr (.inr (some 0))), (1, .inl (I 0 6)), (2, .inr (.inl v2_11)), (4, .inl v4_80)]) (st' := []) (h' := gr_h I367 J368) (C := (True ∧ True)) rfl ⟨trivial, trivial⟩ ?_
                          exact ih218 I367 J368 v4_80 (gs_X β N9 p_92) (by omega) hI367 FI367 FJ368 (by omega) A384 (by obtain ⟨m, hm, em⟩ := e4_92; exact ⟨m, by omega, em.trans (by rw [show gs_ll (I367 64) _ = gs_ll (I90 64) _ from gs_ll_eq (fun j _ => (g366 64 j rfl))]; unfold gs_pcC; (repeat first | rw [if_pos (by omega)] | rw [if_neg (by omega)]))⟩) e5_92 ⟨(fun k => ((g366 17 k rfl).trans (e6_92.1 k))), (fun k => ((g366 31 k rfl).trans (e6_92.2.1 k))), (fun k => ((g366 32 k rfl).trans (e6_92.2.2.1 k))), (fun k => ((k366 23 k rfl).trans (e6_92.2.2.2 k)))⟩
                        · have u386 := gs_or0 V361 (by omega)
                          clear o361 V361
                          refine gv_run 1 true hD (pc' := 384) (lv' := [(0, .inr (.inr (some 0))), (1, .inl (I 0 6)), (2, .inr (.inl v2_11)), (4, .inl v4_80)]) (st' := []) (h' := gr_h I90 J91) (C := (True ∧ True)) rfl ⟨trivial, trivial⟩ ?_
                          exact L384 (by omega) e3_92 (by obtain ⟨m, hm, em⟩ := e4_92; exact em.trans (by unfold gs_pcC; (repeat first | rw [if_pos (by omega)] | rw [if_neg (by omega)]))) e5_92 ⟨(fun k => (e6_92.1 k)), (fun k => (e6_92.2.1 k)), (fun k => (e6_92.2.2.1 k)), (fun k => (e6_92.2.2.2 k))⟩
                      refine gv_run 2 true hD (pc' := 316) (lv' := [(0, .inr (.inr (some 0))), (1, .inl (I 0 6)), (2, .inr (.inl v2_11)), (4, .inl v4_80), (5, .inl v5_69)]) (st' := [.inl 45, .inr (.inr (some 0))]) (h' := gr_h I78 J79) (C := ((True ∧ True) ∧ True)) rfl ⟨⟨trivial, trivial⟩, trivial⟩ ?_
                      obtain ⟨r387, h387, E387, P387⟩ := r_sign_p (ws0 := ws0) (tb := tb) hws htb ext β N9 p_80 I78 J79 hI78 45 ⟨by omega, by omega⟩ (fun h9 => by have g9 := (gr_ATp_rr e5_80).2.2.1; omega) e5_80 (by omega)
                      obtain ⟨rfl, ⟨z387, rfl, q387⟩⟩ := P387
                      have V387 := gs_or_mk q387.2.2.2
                      obtain ⟨_, _, o387, -⟩ := q387
                      refine gv_callV hD rfl (As := [.inl 45]) (st := []) rfl (by decide) rfl rfl (gr_lV hws rfl) (Nat.le_of_ble_eq_true rfl) (gz_Ev_mono (d := 1) (by decide) E387) ?_
                      show gv_X _ _ (319, [(0, .inr (.inr (some 0))), (1, .inl (I 0 6)), (2, .inr (.inl v2_11)), (4, .inl v4_80), (5, .inl v5_69)], [.inl z387], gr_sh ++ ext, gr_h I78 J79)
                      refine gv_if_eq (t := 337) hD rfl rfl ⟨by omega, by omega⟩ (fun c388 => ?_) (fun c388 => ?_)
                      · have u389 := gs_or0 V387 (by omega)
                        clear o387 V387
                        refine gv_run 1 true hD (pc' := 338) (lv' := [(0, .inr (.inr (some 0))), (1, .inl (I 0 6)), (2, .inr (.inl v2_11)), (4, .inl v4_80), (5, .inl v5_69)]) (st' := [.inr (.inr (some 0))]) (h' := gr_h I78 J79) (C := (True ∧ True)) rfl ⟨trivial, trivial⟩ ?_
                        obtain ⟨r390, h390, E390, P390⟩ := r_form_p (ws0 := ws0) (tb := tb) hws htb ext β N9 p_80 I78 J79 hI78   (gr_ATp_rr e5_80).1 (gr_ATp_rr e5_80).2.1 (gr_ATp_rr e5_80).2.2.1 (gr_ATp_rr e5_80).2.2.2.1 (gr_ATp_rr e5_80).2.2.2.2 (by omega) (by omega) e5_80 (by omega)
                        obtain ⟨I391, J392, rfl, hI391, g390, k390, ⟨z390, rfl, q390⟩⟩ := P390
                        have FI391 := gr_frt FI78 g390 rfl rfl
                        have FJ392 := gr_fjt FJ79 k390 rfl rfl
                        have t393 := g390 0 69 rfl
                        have t394 := g390 0 6 rfl
                        have t395 := g390 0 106 rfl
                        have t396 := g390 17 (Int.toNat ((I 0 6))) rfl
                        have t397 := g390 65 (Int.toNat v5_69) rfl
                        have f398 := (show 0 ≤ I391 0 71 ∧ I391 0 71 ≤ 5 from (hI391 0 71).1)
                        have f399 := (show 0 ≤ I391 0 72 ∧ I391 0 72 ≤ 1000 from (hI391 0 72).1)
                        have f400 := (show 0 ≤ I391 0 73 ∧ I391 0 73 ≤ 1001 from (hI391 0 73).1)
                        have f401 := (show 0 ≤ I391 0 69 ∧ I391 0 69 ≤ 1000 from (hI391 0 69).1)
                        have f402 := (show (-1) ≤ I391 0 6 ∧ I391 0 6 ≤ 7 from (hI391 0 6).1)
                        have f403 := (show 0 ≤ I391 0 59 ∧ I391 0 59 ≤ 2000 from (hI391 0 59).1)
                        have f404 := (show 0 ≤ I391 0 42 ∧ I391 0 42 ≤ 2000 from (hI391 0 42).1)
                        have f405 := (show 0 ≤ I391 0 106 ∧ I391 0 106 ≤ 16777215 from (hI391 0 106).1)
                        refine gv_callV hD rfl (As := []) (st := []) rfl (by decide) rfl rfl (gr_lV hws rfl) (Nat.le_of_ble_eq_true rfl) (gz_Ev_mono (d := 11) (by decide) E390) ?_
                        show gv_X _ _ (341, [(0, .inr (.inr (some 0))), (1, .inl (I 0 6)), (2, .inr (.inl v2_11)), (4, .inl v4_80), (5, .inl v5_69)], [.inl z390], gr_sh ++ ext, gr_h I391 J392)
                        refine gv_if_ne (t := 346) hD rfl rfl ⟨by omega, by omega⟩ (fun c406 => ?_) (fun c406 => ?_)
                        · obtain ⟨u407, A407⟩ := gs_or1 q390.2.2.2.2.2.2.2.2.2.2.2.2.2.2 (by omega)
                          have t408 := gr_ATp_l A407
                          have t409 := (q390.2.2.2.2.2.2.2.2.2.2.2.2.2.1).resolve_left (by omega)
                          obtain ⟨_, _, -, _, -, -, _, _, _, _, _, _, _, -, -⟩ := q390
                          have f410 := (show 0 ≤ I391 0 42 ∧ I391 0 42 ≤ 2000 from (hI391 0 42).1)
                          refine gv_run 7 true hD (pc' := 360) (lv' := [(0, .inr (.inr (some 0))), (1, .inl (I 0 6)), (2, .inr (.inl v2_11)), (4, .inl v4_80), (5, .inl v5_69)]) (st' := [.inr (.inr (some 65)), .inl (I391 0 42), .inl v5_69, .inr (.inr (some 66))]) (h' := gr_h I391 J392) (C := (((((((True ∧ True) ∧ True) ∧ True) ∧ True) ∧ True) ∧ True) ∧ True)) rfl ⟨⟨⟨⟨⟨⟨⟨trivial, trivial⟩, trivial⟩, trivial⟩, trivial⟩, trivial⟩, trivial⟩, trivial⟩ ?_
                          have f411 := (show 0 ≤ I391 65 (Int.toNat v5_69) ∧ I391 65 (Int.toNat v5_69) ≤ 2000 from (hI391 65 (Int.toNat v5_69)).1)
                          refine gv_run 2 true hD (pc' := 363) (lv' := [(0, .inr (.inr (some 0))), (1, .inl (I 0 6)), (2, .inr (.inl v2_11)), (4, .inl v4_80), (5, .inl v5_69)]) (st' := [.inl (I391 65 (Int.toNat v5_69)), .inl (I391 0 42), .inl v5_69, .inr (.inr (some 66))]) (h' := gr_h I391 J392) (C := ((True ∧ True) ∧ (0 ≤ v5_69 ∧ v5_69 < ((420 : Nat) : Int)))) rfl ⟨⟨trivial, trivial⟩, ⟨by omega, by omega⟩⟩ ?_
                          refine gv_run 2 true hD (pc' := 365) (lv' := [(0, .inr (.inr (some 0))), (1, .inl (I 0 6)), (2, .inr (.inl v2_11)), (4, .inl v4_80), (5, .inl v5_69)]) (st' := []) (h' := gz_up (gr_h I391 J392) 66 (Int.toNat v5_69) (.inl (((I391 0 42) - (I391 65 (Int.toNat v5_69)))))) (C := ((True ∧ True) ∧ (0 ≤ v5_69 ∧ v5_69 < ((420 : Nat) : Int)))) rfl ⟨⟨trivial, trivial⟩, ⟨by omega, by omega⟩⟩ ?_
                          refine gr_st hI391 FI391 rfl rfl ⟨⟨by show (-1) ≤ _; omega, by show _ ≤ 2000; omega⟩, trivial⟩ (fun I412 hI412 FI412 q413 p413 => ?_)
                          have t414 := p413 0 71 (fun q => absurd q.1 (by decide))
                          have t415 := p413 0 72 (fun q => absurd q.1 (by decide))
                          have t416 := p413 0 73 (fun q => absurd q.1 (by decide))
                          have t417 := p413 0 69 (fun q => absurd q.1 (by decide))
                          have t418 := p413 0 6 (fun q => absurd q.1 (by decide))
                          have t419 := p413 0 59 (fun q => absurd q.1 (by decide))
                          have t420 := p413 0 42 (fun q => absurd q.1 (by decide))
                          have t421 := p413 0 106 (fun q => absurd q.1 (by decide))
                          have t422 := p413 17 (Int.toNat ((I 0 6))) (fun q => absurd q.1 (by decide))
                          have t423 := p413 65 (Int.toNat v5_69) (fun q => absurd q.1 (by decide))
                          have f424 := (show 0 ≤ I412 0 71 ∧ I412 0 71 ≤ 5 from (hI412 0 71).1)
                          have f425 := (show 0 ≤ I412 0 72 ∧ I412 0 72 ≤ 1000 from (hI412 0 72).1)
                          have f426 := (show 0 ≤ I412 0 73 ∧ I412 0 73 ≤ 1001 from (hI412 0 73).1)
                          have f427 := (show 0 ≤ I412 0 69 ∧ I412 0 69 ≤ 1000 from (hI412 0 69).1)
                          have f428 := (show (-1) ≤ I412 0 6 ∧ I412 0 6 ≤ 7 from (hI412 0 6).1)
                          have f429 := (show 0 ≤ I412 0 59 ∧ I412 0 59 ≤ 2000 from (hI412 0 59).1)
                          have f430 := (show 0 ≤ I412 0 42 ∧ I412 0 42 ≤ 2000 from (hI412 0 42).1)
                          have f431 := (show 0 ≤ I412 0 106 ∧ I412 0 106 ≤ 16777215 from (hI412 0 106).1)
                          have A432 := gr_ATp_sr A407 p413 rfl
                          refine gv_pick [0, 1, 2, 3] rfl ?_
                          exact L365 I412 J392 (gs_fm β N9 1002 p_80) hI412 FI412 FJ392 (by omega) A432 (by obtain ⟨m, hm, em⟩ := e6_80; exact ⟨m, by omega, em.trans (by rw [show gs_ll (I412 64) _ = gs_ll (I78 64) _ from gs_ll_eq (fun j _ => ((p413 64 j (fun q => absurd q.1 (by decide))).trans (g390 64 j rfl)))]; unfold gs_pcB gs_pf; (repeat first | rw [if_pos (by omega)] | rw [if_neg (by omega)]))⟩) e7_80 ⟨(fun k => (((p413 17 k (fun q => absurd q.1 (by decide))).trans (g390 17 k rfl)).trans (e8_80.1 k))), (fun k => (((p413 31 k (fun q => absurd q.1 (by decide))).trans (g390 31 k rfl)).trans (e8_80.2.1 k))), (fun k => (((p413 32 k (fun q => absurd q.1 (by decide))).trans (g390 32 k rfl)).trans (e8_80.2.2.1 k))), (fun k => ((k390 23 k rfl).trans (e8_80.2.2.2 k)))⟩
                        · obtain ⟨u433, u433_⟩ := gs_or0 q390.2.2.2.2.2.2.2.2.2.2.2.2.2.2 (by omega)
                          refine gv_run 1 true hD (pc' := 345) (lv' := [(0, .inr (.inr (some 0))), (1, .inl (I 0 6)), (2, .inr (.inl v2_11)), (4, .inl v4_80), (5, .inl v5_69)]) (st' := [.inl 0]) (h' := gr_h I391 J392) (C := (True ∧ True)) rfl ⟨trivial, trivial⟩ ?_
                          have b434 : (I391 0 71 = 5 ∨ I391 0 73 ≤ I391 0 69) ∧ (I391 0 72 ≤ I391 0 69) ∧ (I391 0 71 = 0 ∨ (I391 0 72 < I391 0 73 ∧ I391 0 72 < I391 0 69)) ∧ (I391 0 71 = 3 → 2 ≤ I391 0 73 - I391 0 72 ∧ I391 0 73 - I391 0 72 ≤ 14) ∧ (I391 0 72 ≤ I391 0 73) ∧ (I391 0 69 = I 0 69) ∧ (I 0 73 ≤ I391 0 73) ∧ (I 0 72 ≤ I391 0 72) ∧ (I391 0 59 - I391 0 72 ≤ I 0 59 - I 0 72) ∧ (I391 0 42 - I391 0 72 ≤ I 0 42 - I 0 72) := by omega
                          exact gv_zret hD rfl (by omega) ⟨I391, J392, rfl, hI391, FI391, FJ392, ⟨_, rfl, by omega, by omega, b434.1, b434.2.1, b434.2.2.1, b434.2.2.2.1, b434.2.2.2.2.1, b434.2.2.2.2.2.1, b434.2.2.2.2.2.2.1, b434.2.2.2.2.2.2.2.1, b434.2.2.2.2.2.2.2.2.1, b434.2.2.2.2.2.2.2.2.2, (Or.inr ⟨by omega, by first | (exfalso; omega) | (obtain ⟨m, hm, em⟩ := e6_80; rw [gs_pat_x (show gs_ptw β N9 I J p9 = (gs_fm β N9 1002 p_80, []) from (em.trans (by unfold gs_pcB gs_pf gs_pcC; (repeat first | rw [if_pos (by omega)] | rw [if_neg (by omega)])))) (by omega)]; exact ⟨by omega, by omega, (fun j => ⟨((g390 17 j rfl).trans (e8_80.1 j)), ((k390 23 j rfl).trans (e8_80.2.2.2 j)), ((g390 31 j rfl).trans (e8_80.2.1 j)), ((g390 32 j rfl).trans (e8_80.2.2.1 j))⟩)⟩)⟩)⟩⟩
                      · have u435 := gs_or1 V387 (by omega)
                        have t436 := o387.resolve_left (by omega)
                        have t437 := (gr_ATp_rr e5_80).2.2.1.resolve_left (by omega)
                        clear o387 V387
                        refine gv_run 4 true hD (pc' := 329) (lv' := [(0, .inr (.inr (some 0))), (1, .inl (I 0 6)), (2, .inr (.inl v2_11)), (4, .inl v4_80), (5, .inl v5_69)]) (st' := [.inl (-1), .inl v5_69, .inr (.inr (some 66))]) (h' := gr_h I78 J79) (C := ((((True ∧ True) ∧ True) ∧ True) ∧ True)) rfl ⟨⟨⟨⟨trivial, trivial⟩, trivial⟩, trivial⟩, trivial⟩ ?_
                        refine gv_run 1 true hD (pc' := 330) (lv' := [(0, .inr (.inr (some 0))), (1, .inl (I 0 6)), (2, .inr (.inl v2_11)), (4, .inl v4_80), (5, .inl v5_69)]) (st' := []) (h' := gz_up (gr_h I78 J79) 66 (Int.toNat v5_69) (.inl (-1))) (C := (True ∧ (0 ≤ v5_69 ∧ v5_69 < ((420 : Nat) : Int)))) rfl ⟨trivial, ⟨by omega, by omega⟩⟩ ?_
                        refine gr_st hI78 FI78 rfl rfl ⟨⟨by show (-1) ≤ _; omega, by show _ ≤ 2000; omega⟩, trivial⟩ (fun I438 hI438 FI438 q439 p439 => ?_)
                        have t440 := p439 0 71 (fun q => absurd q.1 (by decide))
                        have t441 := p439 0 72 (fun q => absurd q.1 (by decide))
                        have t442 := p439 0 73 (fun q => absurd q.1 (by decide))
                        have t443 := p439 0 69 (fun q => absurd q.1 (by decide))
                        have t444 := p439 0 6 (fun q => absurd q.1 (by decide))
                        have t445 := p439 0 59 (fun q => absurd q.1 (by decide))
                        have t446 := p439 0 42 (fun q => absurd q.1 (by decide))
                        have t447 := p439 0 106 (fun q => absurd q.1 (by decide))
                        have t448 := p439 17 (Int.toNat ((I 0 6))) (fun q => absurd q.1 (by decide))
                        have t449 := p439 65 (Int.toNat v5_69) (fun q => absurd q.1 (by decide))
                        have f450 := (show 0 ≤ I438 0 71 ∧ I438 0 71 ≤ 5 from (hI438 0 71).1)
                        have f451 := (show 0 ≤ I438 0 72 ∧ I438 0 72 ≤ 1000 from (hI438 0 72).1)
                        have f452 := (show 0 ≤ I438 0 73 ∧ I438 0 73 ≤ 1001 from (hI438 0 73).1)
                        have f453 := (show 0 ≤ I438 0 69 ∧ I438 0 69 ≤ 1000 from (hI438 0 69).1)
                        have f454 := (show (-1) ≤ I438 0 6 ∧ I438 0 6 ≤ 7 from (hI438 0 6).1)
                        have f455 := (show 0 ≤ I438 0 59 ∧ I438 0 59 ≤ 2000 from (hI438 0 59).1)
                        have f456 := (show 0 ≤ I438 0 42 ∧ I438 0 42 ≤ 2000 from (hI438 0 42).1)
                        have f457 := (show 0 ≤ I438 0 106 ∧ I438 0 106 ≤ 16777215 from (hI438 0 106).1)
                        have A458 := gr_ATp_sr e5_80 p439 rfl
                        refine gv_run 1 true hD (pc' := 331) (lv' := [(0, .inr (.inr (some 0))), (1, .inl (I 0 6)), (2, .inr (.inl v2_11)), (4, .inl v4_80), (5, .inl v5_69)]) (st' := [.inr (.inr (some 0))]) (h' := gr_h I438 J79) (C := (True ∧ True)) rfl ⟨trivial, trivial⟩ ?_
                        obtain ⟨r459, h459, E459, P459⟩ := r_next_p (ws0 := ws0) (tb := tb) hws htb ext β N9 I438 J79 hI438   ((gr_ATp_rr A458).1.resolve_left (by omega)) A458.1.1 A458.1.2
                        obtain ⟨I460, J461, rfl, hI460, g459, k459, ⟨rfl, q459⟩⟩ := P459
                        have FI460 := gr_frt FI438 g459 rfl rfl
                        have FJ461 := gr_fjt FJ79 k459 rfl rfl
                        have t462 := g459 0 69 rfl
                        have t463 := g459 0 6 rfl
                        have t464 := g459 0 59 rfl
                        have t465 := g459 0 42 rfl
                        have t466 := g459 0 106 rfl
                        have t467 := g459 17 (Int.toNat ((I 0 6))) rfl
                        have t468 := g459 65 (Int.toNat v5_69) rfl
                        have f469 := (show 0 ≤ I460 0 71 ∧ I460 0 71 ≤ 5 from (hI460 0 71).1)
                        have f470 := (show 0 ≤ I460 0 72 ∧ I460 0 72 ≤ 1000 from (hI460 0 72).1)
                        have f471 := (show 0 ≤ I460 0 73 ∧ I460 0 73 ≤ 1001 from (hI460 0 73).1)
                        have f472 := (show 0 ≤ I460 0 69 ∧ I460 0 69 ≤ 1000 from (hI460 0 69).1)
                        have f473 := (show (-1) ≤ I460 0 6 ∧ I460 0 6 ≤ 7 from (hI460 0 6).1)
                        have f474 := (show 0 ≤ I460 0 59 ∧ I460 0 59 ≤ 2000 from (hI460 0 59).1)
                        have f475 := (show 0 ≤ I460 0 42 ∧ I460 0 42 ≤ 2000 from (hI460 0 42).1)
                        have f476 := (show 0 ≤ I460 0 106 ∧ I460 0 106 ≤ 16777215 from (hI460 0 106).1)
                        have t477 := (gr_ATp_rr A458).2.2.1.resolve_left (by omega)
                        have A478 := gr_ATp_nx A458 q459.2.2.2.2.2
                        have t479 := gr_ATp_l A478
                        obtain ⟨_, _, -, -, -, -⟩ := q459
                        refine gv_callV hD rfl (As := []) (st := []) rfl (by decide) rfl rfl (gr_lV hws rfl) (Nat.le_of_ble_eq_true rfl) (gz_Ev_mono (d := 10) (by decide) E459) ?_
                        show gv_X _ _ (334, [(0, .inr (.inr (some 0))), (1, .inl (I 0 6)), (2, .inr (.inl v2_11)), (4, .inl v4_80), (5, .inl v5_69)], [], gr_sh ++ ext, gr_h I460 J461)
                        refine gv_run 1 true hD (pc' := 365) (lv' := [(0, .inr (.inr (some 0))), (1, .inl (I 0 6)), (2, .inr (.inl v2_11)), (4, .inl v4_80), (5, .inl v5_69)]) (st' := []) (h' := gr_h I460 J461) (C := (True ∧ True)) rfl ⟨trivial, trivial⟩ ?_
                        refine gv_pick [0, 1, 2, 3] rfl ?_
                        exact L365 I460 J461 (gs_X β N9 p_80) hI460 FI460 FJ461 (by omega) A478 (by obtain ⟨m, hm, em⟩ := e6_80; exact ⟨m, by omega, em.trans (by rw [show gs_ll (I460 64) _ = gs_ll (I78 64) _ from gs_ll_eq (fun j _ => ((g459 64 j rfl).trans (p439 64 j (fun q => absurd q.1 (by decide)))))]; unfold gs_pcB gs_pf; (repeat first | rw [if_pos (by omega)] | rw [if_neg (by omega)]))⟩) e7_80 ⟨(fun k => (((g459 17 k rfl).trans (p439 17 k (fun q => absurd q.1 (by decide)))).trans (e8_80.1 k))), (fun k => (((g459 31 k rfl).trans (p439 31 k (fun q => absurd q.1 (by decide)))).trans (e8_80.2.1 k))), (fun k => (((g459 32 k rfl).trans (p439 32 k (fun q => absurd q.1 (by decide)))).trans (e8_80.2.2.1 k))), (fun k => ((k459 23 k rfl).trans (e8_80.2.2.2 k)))⟩
                    refine gv_run 2 true hD (pc' := 258) (lv' := [(0, .inr (.inr (some 0))), (1, .inl (I 0 6)), (2, .inr (.inl v2_11)), (4, .inl v4_35), (5, .inl v5_69)]) (st' := [.inl v4_35, .inl v5_69]) (h' := gr_h I57 J58) (C := ((True ∧ True) ∧ True)) rfl ⟨⟨trivial, trivial⟩, trivial⟩ ?_
                    refine gv_icmp_ge (t := 281) hD rfl rfl ⟨⟨by omega, by omega⟩, ⟨by omega, by omega⟩⟩ (fun c480 => ?_) (fun c480 => ?_)
                    · refine gv_run 2 true hD (pc' := 285) (lv' := [(0, .inr (.inr (some 0))), (1, .inl (I 0 6)), (2, .inr (.inl v2_11)), (4, .inl v4_35), (5, .inl v5_69)]) (st' := [.inl v4_35, .inl v5_69]) (h' := gr_h I57 J58) (C := ((True ∧ True) ∧ True)) rfl ⟨⟨trivial, trivial⟩, trivial⟩ ?_
                      refine gv_icmp_ne (t := 291) hD rfl rfl ⟨⟨by omega, by omega⟩, ⟨by omega, by omega⟩⟩ (fun c481 => ?_) (fun c481 => ?_)
                      · have f482 := (show 0 ≤ I57 0 106 ∧ I57 0 106 ≤ 16777215 from (hI57 0 106).1)
                        refine gv_run 5 true hD (pc' := 301) (lv' := [(0, .inr (.inr (some 0))), (1, .inl (I 0 6)), (2, .inr (.inl v2_11)), (4, .inl v4_35), (5, .inl v5_69)]) (st' := [.inl (I57 0 106), .inl v5_69, .inr (.inr (some 64))]) (h' := gr_h I57 J58) (C := (((((True ∧ True) ∧ True) ∧ True) ∧ True) ∧ True)) rfl ⟨⟨⟨⟨⟨trivial, trivial⟩, trivial⟩, trivial⟩, trivial⟩, trivial⟩ ?_
                        refine gv_run 1 true hD (pc' := 302) (lv' := [(0, .inr (.inr (some 0))), (1, .inl (I 0 6)), (2, .inr (.inl v2_11)), (4, .inl v4_35), (5, .inl v5_69)]) (st' := []) (h' := gz_up (gr_h I57 J58) 64 (Int.toNat v5_69) (.inl (I57 0 106))) (C := (True ∧ (0 ≤ v5_69 ∧ v5_69 < ((420 : Nat) : Int)))) rfl ⟨trivial, ⟨by omega, by omega⟩⟩ ?_
                        refine gr_st hI57 FI57 rfl rfl ⟨⟨by show 0 ≤ _; omega, by show _ ≤ 16777215; omega⟩, trivial⟩ (fun I483 hI483 FI483 q484 p484 => ?_)
                        have t485 := p484 0 71 (fun q => absurd q.1 (by decide))
                        have t486 := p484 0 72 (fun q => absurd q.1 (by decide))
                        have t487 := p484 0 73 (fun q => absurd q.1 (by decide))
                        have t488 := p484 0 69 (fun q => absurd q.1 (by decide))
                        have t489 := p484 0 6 (fun q => absurd q.1 (by decide))
                        have t490 := p484 0 59 (fun q => absurd q.1 (by decide))
                        have t491 := p484 0 42 (fun q => absurd q.1 (by decide))
                        have t492 := p484 0 106 (fun q => absurd q.1 (by decide))
                        have t493 := p484 17 (Int.toNat ((I 0 6))) (fun q => absurd q.1 (by decide))
                        have t494 := p484 65 (Int.toNat v5_69) (fun q => absurd q.1 (by decide))
                        have f495 := (show 0 ≤ I483 0 71 ∧ I483 0 71 ≤ 5 from (hI483 0 71).1)
                        have f496 := (show 0 ≤ I483 0 72 ∧ I483 0 72 ≤ 1000 from (hI483 0 72).1)
                        have f497 := (show 0 ≤ I483 0 73 ∧ I483 0 73 ≤ 1001 from (hI483 0 73).1)
                        have f498 := (show 0 ≤ I483 0 69 ∧ I483 0 69 ≤ 1000 from (hI483 0 69).1)
                        have f499 := (show (-1) ≤ I483 0 6 ∧ I483 0 6 ≤ 7 from (hI483 0 6).1)
                        have f500 := (show 0 ≤ I483 0 59 ∧ I483 0 59 ≤ 2000 from (hI483 0 59).1)
                        have f501 := (show 0 ≤ I483 0 42 ∧ I483 0 42 ≤ 2000 from (hI483 0 42).1)
                        have f502 := (show 0 ≤ I483 0 106 ∧ I483 0 106 ≤ 16777215 from (hI483 0 106).1)
                        have A503 := gr_ATp_sr e3_59 p484 rfl
                        have f504 := (show 0 ≤ I483 0 42 ∧ I483 0 42 ≤ 2000 from (hI483 0 42).1)
                        refine gv_run 5 true hD (pc' := 312) (lv' := [(0, .inr (.inr (some 0))), (1, .inl (I 0 6)), (2, .inr (.inl v2_11)), (4, .inl v4_35), (5, .inl v5_69)]) (st' := [.inl (I483 0 42), .inl v5_69, .inr (.inr (some 65))]) (h' := gr_h I483 J58) (C := (((((True ∧ True) ∧ True) ∧ True) ∧ True) ∧ True)) rfl ⟨⟨⟨⟨⟨trivial, trivial⟩, trivial⟩, trivial⟩, trivial⟩, trivial⟩ ?_
                        refine gv_run 1 true hD (pc' := 313) (lv' := [(0, .inr (.inr (some 0))), (1, .inl (I 0 6)), (2, .inr (.inl v2_11)), (4, .inl v4_35), (5, .inl v5_69)]) (st' := []) (h' := gz_up (gr_h I483 J58) 65 (Int.toNat v5_69) (.inl (I483 0 42))) (C := (True ∧ (0 ≤ v5_69 ∧ v5_69 < ((420 : Nat) : Int)))) rfl ⟨trivial, ⟨by omega, by omega⟩⟩ ?_
                        refine gr_st hI483 FI483 rfl rfl ⟨⟨by show 0 ≤ _; omega, by show _ ≤ 2000; omega⟩, trivial⟩ (fun I505 hI505 FI505 q506 p506 => ?_)
                        have t507 := p506 0 71 (fun q => absurd q.1 (by decide))
                        have t508 := p506 0 72 (fun q => absurd q.1 (by decide))
                        have t509 := p506 0 73 (fun q => absurd q.1 (by decide))
                        have t510 := p506 0 69 (fun q => absurd q.1 (by decide))
                        have t511 := p506 0 6 (fun q => absurd q.1 (by decide))
                        have t512 := p506 0 59 (fun q => absurd q.1 (by decide))
                        have t513 := p506 0 42 (fun q => absurd q.1 (by decide))
                        have t514 := p506 0 106 (fun q => absurd q.1 (by decide))
                        have t515 := p506 17 (Int.toNat ((I 0 6))) (fun q => absurd q.1 (by decide))
                        have f516 := (show 0 ≤ I505 0 71 ∧ I505 0 71 ≤ 5 from (hI505 0 71).1)
                        have f517 := (show 0 ≤ I505 0 72 ∧ I505 0 72 ≤ 1000 from (hI505 0 72).1)
                        have f518 := (show 0 ≤ I505 0 73 ∧ I505 0 73 ≤ 1001 from (hI505 0 73).1)
                        have f519 := (show 0 ≤ I505 0 69 ∧ I505 0 69 ≤ 1000 from (hI505 0 69).1)
                        have f520 := (show (-1) ≤ I505 0 6 ∧ I505 0 6 ≤ 7 from (hI505 0 6).1)
                        have f521 := (show 0 ≤ I505 0 59 ∧ I505 0 59 ≤ 2000 from (hI505 0 59).1)
                        have f522 := (show 0 ≤ I505 0 42 ∧ I505 0 42 ≤ 2000 from (hI505 0 42).1)
                        have f523 := (show 0 ≤ I505 0 106 ∧ I505 0 106 ≤ 16777215 from (hI505 0 106).1)
                        have A524 := gr_ATp_sr A503 p506 rfl
                        exact L313 I505 J58 v4_35 p_59 hI505 FI505 FJ58 (by omega) A524 (by obtain ⟨m, hm, em⟩ := e4_59; exact ⟨m, by omega, em.trans (by rw [show gs_ins (gs_ll (I57 64) _) (I57 0 106) = gs_ll (I505 64) v4_35 from gs_ins_old (k := v5_69) (a := (Int.toNat v5_69)) ⟨by omega, by omega⟩ rfl (by omega) (((p506 64 _ (fun q => absurd q.1 (by decide)))).trans q484) (fun j hj => ((p506 64 j (fun q => absurd q.1 (by decide)))).trans (p484 64 j (fun h => hj h.2)))])⟩) e5_59 ⟨(fun k => (((p506 17 k (fun q => absurd q.1 (by decide))).trans (p484 17 k (fun q => absurd q.1 (by decide)))).trans (e6_59.1 k))), (fun k => (((p506 31 k (fun q => absurd q.1 (by decide))).trans (p484 31 k (fun q => absurd q.1 (by decide)))).trans (e6_59.2.1 k))), (fun k => (((p506 32 k (fun q => absurd q.1 (by decide))).trans (p484 32 k (fun q => absurd q.1 (by decide)))).trans (e6_59.2.2.1 k))), (fun k => (e6_59.2.2.2 k))⟩
                      · have f525 := (show 0 ≤ I57 0 106 ∧ I57 0 106 ≤ 16777215 from (hI57 0 106).1)
                        refine gv_run 6 true hD (pc' := 301) (lv' := [(4, .inl (v4_35 + 1)), (0, .inr (.inr (some 0))), (1, .inl (I 0 6)), (2, .inr (.inl v2_11)), (5, .inl v5_69)]) (st' := [.inl (I57 0 106), .inl v5_69, .inr (.inr (some 64))]) (h' := gr_h I57 J58) (C := ((((((True ∧ True) ∧ True) ∧ True) ∧ True) ∧ True) ∧ True)) rfl ⟨⟨⟨⟨⟨⟨trivial, trivial⟩, trivial⟩, trivial⟩, trivial⟩, trivial⟩, trivial⟩ ?_
                        refine gv_run 1 true hD (pc' := 302) (lv' := [(4, .inl (v4_35 + 1)), (0, .inr (.inr (some 0))), (1, .inl (I 0 6)), (2, .inr (.inl v2_11)), (5, .inl v5_69)]) (st' := []) (h' := gz_up (gr_h I57 J58) 64 (Int.toNat v5_69) (.inl (I57 0 106))) (C := (True ∧ (0 ≤ v5_69 ∧ v5_69 < ((420 : Nat) : Int)))) rfl ⟨trivial, ⟨by omega, by omega⟩⟩ ?_
                        refine gr_st hI57 FI57 rfl rfl ⟨⟨by show 0 ≤ _; omega, by show _ ≤ 16777215; omega⟩, trivial⟩ (fun I526 hI526 FI526 q527 p527 => ?_)
                        have t528 := p527 0 71 (fun q => absurd q.1 (by decide))
                        have t529 := p527 0 72 (fun q => absurd q.1 (by decide))
                        have t530 := p527 0 73 (fun q => absurd q.1 (by decide))
                        have t531 := p527 0 69 (fun q => absurd q.1 (by decide))
                        have t532 := p527 0 6 (fun q => absurd q.1 (by decide))
                        have t533 := p527 0 59 (fun q => absurd q.1 (by decide))
                        have t534 := p527 0 42 (fun q => absurd q.1 (by decide))
                        have t535 := p527 0 106 (fun q => absurd q.1 (by decide))
                        have t536 := p527 17 (Int.toNat ((I 0 6))) (fun q => absurd q.1 (by decide))
                        have t537 := p527 65 (Int.toNat v5_69) (fun q => absurd q.1 (by decide))
                        have f538 := (show 0 ≤ I526 0 71 ∧ I526 0 71 ≤ 5 from (hI526 0 71).1)
                        have f539 := (show 0 ≤ I526 0 72 ∧ I526 0 72 ≤ 1000 from (hI526 0 72).1)
                        have f540 := (show 0 ≤ I526 0 73 ∧ I526 0 73 ≤ 1001 from (hI526 0 73).1)
                        have f541 := (show 0 ≤ I526 0 69 ∧ I526 0 69 ≤ 1000 from (hI526 0 69).1)
                        have f542 := (show (-1) ≤ I526 0 6 ∧ I526 0 6 ≤ 7 from (hI526 0 6).1)
                        have f543 := (show 0 ≤ I526 0 59 ∧ I526 0 59 ≤ 2000 from (hI526 0 59).1)
                        have f544 := (show 0 ≤ I526 0 42 ∧ I526 0 42 ≤ 2000 from (hI526 0 42).1)
                        have f545 := (show 0 ≤ I526 0 106 ∧ I526 0 106 ≤ 16777215 from (hI526 0 106).1)
                        have A546 := gr_ATp_sr e3_59 p527 rfl
                        have f547 := (show 0 ≤ I526 0 42 ∧ I526 0 42 ≤ 2000 from (hI526 0 42).1)
                        refine gv_run 5 true hD (pc' := 312) (lv' := [(4, .inl (v4_35 + 1)), (0, .inr (.inr (some 0))), (1, .inl (I 0 6)), (2, .inr (.inl v2_11)), (5, .inl v5_69)]) (st' := [.inl (I526 0 42), .inl v5_69, .inr (.inr (some 65))]) (h' := gr_h I526 J58) (C := (((((True ∧ True) ∧ True) ∧ True) ∧ True) ∧ True)) rfl ⟨⟨⟨⟨⟨trivial, trivial⟩, trivial⟩, trivial⟩, trivial⟩, trivial⟩ ?_
                        refine gv_run 1 true hD (pc' := 313) (lv' := [(4, .inl (v4_35 + 1)), (0, .inr (.inr (some 0))), (1, .inl (I 0 6)), (2, .inr (.inl v2_11)), (5, .inl v5_69)]) (st' := []) (h' := gz_up (gr_h I526 J58) 65 (Int.toNat v5_69) (.inl (I526 0 42))) (C := (True ∧ (0 ≤ v5_69 ∧ v5_69 < ((420 : Nat) : Int)))) rfl ⟨trivial, ⟨by omega, by omega⟩⟩ ?_
                        refine gr_st hI526 FI526 rfl rfl ⟨⟨by show 0 ≤ _; omega, by show _ ≤ 2000; omega⟩, trivial⟩ (fun I548 hI548 FI548 q549 p549 => ?_)
                        have t550 := p549 0 71 (fun q => absurd q.1 (by decide))
                        have t551 := p549 0 72 (fun q => absurd q.1 (by decide))
                        have t552 := p549 0 73 (fun q => absurd q.1 (by decide))
                        have t553 := p549 0 69 (fun q => absurd q.1 (by decide))
                        have t554 := p549 0 6 (fun q => absurd q.1 (by decide))
                        have t555 := p549 0 59 (fun q => absurd q.1 (by decide))
                        have t556 := p549 0 42 (fun q => absurd q.1 (by decide))
                        have t557 := p549 0 106 (fun q => absurd q.1 (by decide))
                        have t558 := p549 17 (Int.toNat ((I 0 6))) (fun q => absurd q.1 (by decide))
                        have f559 := (show 0 ≤ I548 0 71 ∧ I548 0 71 ≤ 5 from (hI548 0 71).1)
                        have f560 := (show 0 ≤ I548 0 72 ∧ I548 0 72 ≤ 1000 from (hI548 0 72).1)
                        have f561 := (show 0 ≤ I548 0 73 ∧ I548 0 73 ≤ 1001 from (hI548 0 73).1)
                        have f562 := (show 0 ≤ I548 0 69 ∧ I548 0 69 ≤ 1000 from (hI548 0 69).1)
                        have f563 := (show (-1) ≤ I548 0 6 ∧ I548 0 6 ≤ 7 from (hI548 0 6).1)
                        have f564 := (show 0 ≤ I548 0 59 ∧ I548 0 59 ≤ 2000 from (hI548 0 59).1)
                        have f565 := (show 0 ≤ I548 0 42 ∧ I548 0 42 ≤ 2000 from (hI548 0 42).1)
                        have f566 := (show 0 ≤ I548 0 106 ∧ I548 0 106 ≤ 16777215 from (hI548 0 106).1)
                        have A567 := gr_ATp_sr A546 p549 rfl
                        refine gv_pick [1, 2, 3, 0, 4] rfl ?_
                        exact L313 I548 J58 (v4_35 + 1) p_59 hI548 FI548 FJ58 (by omega) A567 (by obtain ⟨m, hm, em⟩ := e4_59; exact ⟨m, by omega, em.trans (by rw [show gs_ins (gs_ll (I57 64) _) (I57 0 106) = gs_ll (I548 64) (v4_35 + 1) from gs_ins_new (k := v5_69) (a := (Int.toNat v5_69)) (by omega) (by omega) rfl e1_69 (((p549 64 _ (fun q => absurd q.1 (by decide)))).trans q527) (fun j hj => ((p549 64 j (fun q => absurd q.1 (by decide)))).trans (p527 64 j (fun h => hj h.2)))])⟩) e5_59 ⟨(fun k => (((p549 17 k (fun q => absurd q.1 (by decide))).trans (p527 17 k (fun q => absurd q.1 (by decide)))).trans (e6_59.1 k))), (fun k => (((p549 31 k (fun q => absurd q.1 (by decide))).trans (p527 31 k (fun q => absurd q.1 (by decide)))).trans (e6_59.2.1 k))), (fun k => (((p549 32 k (fun q => absurd q.1 (by decide))).trans (p527 32 k (fun q => absurd q.1 (by decide)))).trans (e6_59.2.2.1 k))), (fun k => (e6_59.2.2.2 k))⟩
                    · have f568 := (show 0 ≤ I57 64 (Int.toNat v5_69) ∧ I57 64 (Int.toNat v5_69) ≤ 16777215 from (hI57 64 (Int.toNat v5_69)).1)
                      refine gv_run 4 true hD (pc' := 268) (lv' := [(0, .inr (.inr (some 0))), (1, .inl (I 0 6)), (2, .inr (.inl v2_11)), (4, .inl v4_35), (5, .inl v5_69)]) (st' := [.inl (I57 64 (Int.toNat v5_69))]) (h' := gr_h I57 J58) (C := ((((True ∧ True) ∧ True) ∧ True) ∧ (0 ≤ v5_69 ∧ v5_69 < ((420 : Nat) : Int)))) rfl ⟨⟨⟨⟨trivial, trivial⟩, trivial⟩, trivial⟩, ⟨by omega, by omega⟩⟩ ?_
                      have f569 := (show 0 ≤ I57 0 106 ∧ I57 0 106 ≤ 16777215 from (hI57 0 106).1)
                      refine gv_run 2 true hD (pc' := 272) (lv' := [(0, .inr (.inr (some 0))), (1, .inl (I 0 6)), (2, .inr (.inl v2_11)), (4, .inl v4_35), (5, .inl v5_69)]) (st' := [.inl (I57 0 106), .inl (I57 64 (Int.toNat v5_69))]) (h' := gr_h I57 J58) (C := ((True ∧ True) ∧ True)) rfl ⟨⟨trivial, trivial⟩, trivial⟩ ?_
                      refine gv_icmp_eq (t := 281) hD rfl rfl ⟨⟨by omega, by omega⟩, ⟨by omega, by omega⟩⟩ (fun c570 => ?_) (fun c570 => ?_)
                      · refine gv_run 2 true hD (pc' := 285) (lv' := [(0, .inr (.inr (some 0))), (1, .inl (I 0 6)), (2, .inr (.inl v2_11)), (4, .inl v4_35), (5, .inl v5_69)]) (st' := [.inl v4_35, .inl v5_69]) (h' := gr_h I57 J58) (C := ((True ∧ True) ∧ True)) rfl ⟨⟨trivial, trivial⟩, trivial⟩ ?_
                        refine gv_icmp_ne (t := 291) hD rfl rfl ⟨⟨by omega, by omega⟩, ⟨by omega, by omega⟩⟩ (fun c571 => ?_) (fun c571 => ?_)
                        · have f572 := (show 0 ≤ I57 0 106 ∧ I57 0 106 ≤ 16777215 from (hI57 0 106).1)
                          refine gv_run 5 true hD (pc' := 301) (lv' := [(0, .inr (.inr (some 0))), (1, .inl (I 0 6)), (2, .inr (.inl v2_11)), (4, .inl v4_35), (5, .inl v5_69)]) (st' := [.inl (I57 0 106), .inl v5_69, .inr (.inr (some 64))]) (h' := gr_h I57 J58) (C := (((((True ∧ True) ∧ True) ∧ True) ∧ True) ∧ True)) rfl ⟨⟨⟨⟨⟨trivial, trivial⟩, trivial⟩, trivial⟩, trivial⟩, trivial⟩ ?_
                          refine gv_run 1 true hD (pc' := 302) (lv' := [(0, .inr (.inr (some 0))), (1, .inl (I 0 6)), (2, .inr (.inl v2_11)), (4, .inl v4_35), (5, .inl v5_69)]) (st' := []) (h' := gz_up (gr_h I57 J58) 64 (Int.toNat v5_69) (.inl (I57 0 106))) (C := (True ∧ (0 ≤ v5_69 ∧ v5_69 < ((420 : Nat) : Int)))) rfl ⟨trivial, ⟨by omega, by omega⟩⟩ ?_
                          refine gr_st hI57 FI57 rfl rfl ⟨⟨by show 0 ≤ _; omega, by show _ ≤ 16777215; omega⟩, trivial⟩ (fun I573 hI573 FI573 q574 p574 => ?_)
                          have t575 := p574 0 71 (fun q => absurd q.1 (by decide))
                          have t576 := p574 0 72 (fun q => absurd q.1 (by decide))
                          have t577 := p574 0 73 (fun q => absurd q.1 (by decide))
                          have t578 := p574 0 69 (fun q => absurd q.1 (by decide))
                          have t579 := p574 0 6 (fun q => absurd q.1 (by decide))
                          have t580 := p574 0 59 (fun q => absurd q.1 (by decide))
                          have t581 := p574 0 42 (fun q => absurd q.1 (by decide))
                          have t582 := p574 0 106 (fun q => absurd q.1 (by decide))
                          have t583 := p574 17 (Int.toNat ((I 0 6))) (fun q => absurd q.1 (by decide))
                          have t584 := p574 65 (Int.toNat v5_69) (fun q => absurd q.1 (by decide))
                          have f585 := (show 0 ≤ I573 0 71 ∧ I573 0 71 ≤ 5 from (hI573 0 71).1)
                          have f586 := (show 0 ≤ I573 0 72 ∧ I573 0 72 ≤ 1000 from (hI573 0 72).1)
                          have f587 := (show 0 ≤ I573 0 73 ∧ I573 0 73 ≤ 1001 from (hI573 0 73).1)
                          have f588 := (show 0 ≤ I573 0 69 ∧ I573 0 69 ≤ 1000 from (hI573 0 69).1)
                          have f589 := (show (-1) ≤ I573 0 6 ∧ I573 0 6 ≤ 7 from (hI573 0 6).1)
                          have f590 := (show 0 ≤ I573 0 59 ∧ I573 0 59 ≤ 2000 from (hI573 0 59).1)
                          have f591 := (show 0 ≤ I573 0 42 ∧ I573 0 42 ≤ 2000 from (hI573 0 42).1)
                          have f592 := (show 0 ≤ I573 0 106 ∧ I573 0 106 ≤ 16777215 from (hI573 0 106).1)
                          have A593 := gr_ATp_sr e3_59 p574 rfl
                          have f594 := (show 0 ≤ I573 0 42 ∧ I573 0 42 ≤ 2000 from (hI573 0 42).1)
                          refine gv_run 5 true hD (pc' := 312) (lv' := [(0, .inr (.inr (some 0))), (1, .inl (I 0 6)), (2, .inr (.inl v2_11)), (4, .inl v4_35), (5, .inl v5_69)]) (st' := [.inl (I573 0 42), .inl v5_69, .inr (.inr (some 65))]) (h' := gr_h I573 J58) (C := (((((True ∧ True) ∧ True) ∧ True) ∧ True) ∧ True)) rfl ⟨⟨⟨⟨⟨trivial, trivial⟩, trivial⟩, trivial⟩, trivial⟩, trivial⟩ ?_
                          refine gv_run 1 true hD (pc' := 313) (lv' := [(0, .inr (.inr (some 0))), (1, .inl (I 0 6)), (2, .inr (.inl v2_11)), (4, .inl v4_35), (5, .inl v5_69)]) (st' := []) (h' := gz_up (gr_h I573 J58) 65 (Int.toNat v5_69) (.inl (I573 0 42))) (C := (True ∧ (0 ≤ v5_69 ∧ v5_69 < ((420 : Nat) : Int)))) rfl ⟨trivial, ⟨by omega, by omega⟩⟩ ?_
                          refine gr_st hI573 FI573 rfl rfl ⟨⟨by show 0 ≤ _; omega, by show _ ≤ 2000; omega⟩, trivial⟩ (fun I595 hI595 FI595 q596 p596 => ?_)
                          have t597 := p596 0 71 (fun q => absurd q.1 (by decide))
                          have t598 := p596 0 72 (fun q => absurd q.1 (by decide))
                          have t599 := p596 0 73 (fun q => absurd q.1 (by decide))
                          have t600 := p596 0 69 (fun q => absurd q.1 (by decide))
                          have t601 := p596 0 6 (fun q => absurd q.1 (by decide))
                          have t602 := p596 0 59 (fun q => absurd q.1 (by decide))
                          have t603 := p596 0 42 (fun q => absurd q.1 (by decide))
                          have t604 := p596 0 106 (fun q => absurd q.1 (by decide))
                          have t605 := p596 17 (Int.toNat ((I 0 6))) (fun q => absurd q.1 (by decide))
                          have f606 := (show 0 ≤ I595 0 71 ∧ I595 0 71 ≤ 5 from (hI595 0 71).1)
                          have f607 := (show 0 ≤ I595 0 72 ∧ I595 0 72 ≤ 1000 from (hI595 0 72).1)
                          have f608 := (show 0 ≤ I595 0 73 ∧ I595 0 73 ≤ 1001 from (hI595 0 73).1)
                          have f609 := (show 0 ≤ I595 0 69 ∧ I595 0 69 ≤ 1000 from (hI595 0 69).1)
                          have f610 := (show (-1) ≤ I595 0 6 ∧ I595 0 6 ≤ 7 from (hI595 0 6).1)
                          have f611 := (show 0 ≤ I595 0 59 ∧ I595 0 59 ≤ 2000 from (hI595 0 59).1)
                          have f612 := (show 0 ≤ I595 0 42 ∧ I595 0 42 ≤ 2000 from (hI595 0 42).1)
                          have f613 := (show 0 ≤ I595 0 106 ∧ I595 0 106 ≤ 16777215 from (hI595 0 106).1)
                          have A614 := gr_ATp_sr A593 p596 rfl
                          exact L313 I595 J58 v4_35 p_59 hI595 FI595 FJ58 (by omega) A614 (by obtain ⟨m, hm, em⟩ := e4_59; exact ⟨m, by omega, em.trans (by rw [show gs_ins (gs_ll (I57 64) _) (I57 0 106) = gs_ll (I595 64) v4_35 from gs_ins_old (k := v5_69) (a := (Int.toNat v5_69)) ⟨by omega, by omega⟩ rfl (by omega) (((p596 64 _ (fun q => absurd q.1 (by decide)))).trans q574) (fun j hj => ((p596 64 j (fun q => absurd q.1 (by decide)))).trans (p574 64 j (fun h => hj h.2)))])⟩) e5_59 ⟨(fun k => (((p596 17 k (fun q => absurd q.1 (by decide))).trans (p574 17 k (fun q => absurd q.1 (by decide)))).trans (e6_59.1 k))), (fun k => (((p596 31 k (fun q => absurd q.1 (by decide))).trans (p574 31 k (fun q => absurd q.1 (by decide)))).trans (e6_59.2.1 k))), (fun k => (((p596 32 k (fun q => absurd q.1 (by decide))).trans (p574 32 k (fun q => absurd q.1 (by decide)))).trans (e6_59.2.2.1 k))), (fun k => (e6_59.2.2.2 k))⟩
                        · have f615 := (show 0 ≤ I57 0 106 ∧ I57 0 106 ≤ 16777215 from (hI57 0 106).1)
                          refine gv_run 6 true hD (pc' := 301) (lv' := [(4, .inl (v4_35 + 1)), (0, .inr (.inr (some 0))), (1, .inl (I 0 6)), (2, .inr (.inl v2_11)), (5, .inl v5_69)]) (st' := [.inl (I57 0 106), .inl v5_69, .inr (.inr (some 64))]) (h' := gr_h I57 J58) (C := ((((((True ∧ True) ∧ True) ∧ True) ∧ True) ∧ True) ∧ True)) rfl ⟨⟨⟨⟨⟨⟨trivial, trivial⟩, trivial⟩, trivial⟩, trivial⟩, trivial⟩, trivial⟩ ?_
                          refine gv_run 1 true hD (pc' := 302) (lv' := [(4, .inl (v4_35 + 1)), (0, .inr (.inr (some 0))), (1, .inl (I 0 6)), (2, .inr (.inl v2_11)), (5, .inl v5_69)]) (st' := []) (h' := gz_up (gr_h I57 J58) 64 (Int.toNat v5_69) (.inl (I57 0 106))) (C := (True ∧ (0 ≤ v5_69 ∧ v5_69 < ((420 : Nat) : Int)))) rfl ⟨trivial, ⟨by omega, by omega⟩⟩ ?_
                          refine gr_st hI57 FI57 rfl rfl ⟨⟨by show 0 ≤ _; omega, by show _ ≤ 16777215; omega⟩, trivial⟩ (fun I616 hI616 FI616 q617 p617 => ?_)
                          have t618 := p617 0 71 (fun q => absurd q.1 (by decide))
                          have t619 := p617 0 72 (fun q => absurd q.1 (by decide))
                          have t620 := p617 0 73 (fun q => absurd q.1 (by decide))
                          have t621 := p617 0 69 (fun q => absurd q.1 (by decide))
                          have t622 := p617 0 6 (fun q => absurd q.1 (by decide))
                          have t623 := p617 0 59 (fun q => absurd q.1 (by decide))
                          have t624 := p617 0 42 (fun q => absurd q.1 (by decide))
                          have t625 := p617 0 106 (fun q => absurd q.1 (by decide))
                          have t626 := p617 17 (Int.toNat ((I 0 6))) (fun q => absurd q.1 (by decide))
                          have t627 := p617 65 (Int.toNat v5_69) (fun q => absurd q.1 (by decide))
                          have f628 := (show 0 ≤ I616 0 71 ∧ I616 0 71 ≤ 5 from (hI616 0 71).1)
                          have f629 := (show 0 ≤ I616 0 72 ∧ I616 0 72 ≤ 1000 from (hI616 0 72).1)
                          have f630 := (show 0 ≤ I616 0 73 ∧ I616 0 73 ≤ 1001 from (hI616 0 73).1)
                          have f631 := (show 0 ≤ I616 0 69 ∧ I616 0 69 ≤ 1000 from (hI616 0 69).1)
                          have f632 := (show (-1) ≤ I616 0 6 ∧ I616 0 6 ≤ 7 from (hI616 0 6).1)
                          have f633 := (show 0 ≤ I616 0 59 ∧ I616 0 59 ≤ 2000 from (hI616 0 59).1)
                          have f634 := (show 0 ≤ I616 0 42 ∧ I616 0 42 ≤ 2000 from (hI616 0 42).1)
                          have f635 := (show 0 ≤ I616 0 106 ∧ I616 0 106 ≤ 16777215 from (hI616 0 106).1)
                          have A636 := gr_ATp_sr e3_59 p617 rfl
                          have f637 := (show 0 ≤ I616 0 42 ∧ I616 0 42 ≤ 2000 from (hI616 0 42).1)
                          refine gv_run 5 true hD (pc' := 312) (lv' := [(4, .inl (v4_35 + 1)), (0, .inr (.inr (some 0))), (1, .inl (I 0 6)), (2, .inr (.inl v2_11)), (5, .inl v5_69)]) (st' := [.inl (I616 0 42), .inl v5_69, .inr (.inr (some 65))]) (h' := gr_h I616 J58) (C := (((((True ∧ True) ∧ True) ∧ True) ∧ True) ∧ True)) rfl ⟨⟨⟨⟨⟨trivial, trivial⟩, trivial⟩, trivial⟩, trivial⟩, trivial⟩ ?_
                          refine gv_run 1 true hD (pc' := 313) (lv' := [(4, .inl (v4_35 + 1)), (0, .inr (.inr (some 0))), (1, .inl (I 0 6)), (2, .inr (.inl v2_11)), (5, .inl v5_69)]) (st' := []) (h' := gz_up (gr_h I616 J58) 65 (Int.toNat v5_69) (.inl (I616 0 42))) (C := (True ∧ (0 ≤ v5_69 ∧ v5_69 < ((420 : Nat) : Int)))) rfl ⟨trivial, ⟨by omega, by omega⟩⟩ ?_
                          refine gr_st hI616 FI616 rfl rfl ⟨⟨by show 0 ≤ _; omega, by show _ ≤ 2000; omega⟩, trivial⟩ (fun I638 hI638 FI638 q639 p639 => ?_)
                          have t640 := p639 0 71 (fun q => absurd q.1 (by decide))
                          have t641 := p639 0 72 (fun q => absurd q.1 (by decide))
                          have t642 := p639 0 73 (fun q => absurd q.1 (by decide))
                          have t643 := p639 0 69 (fun q => absurd q.1 (by decide))
                          have t644 := p639 0 6 (fun q => absurd q.1 (by decide))
                          have t645 := p639 0 59 (fun q => absurd q.1 (by decide))
                          have t646 := p639 0 42 (fun q => absurd q.1 (by decide))
                          have t647 := p639 0 106 (fun q => absurd q.1 (by decide))
                          have t648 := p639 17 (Int.toNat ((I 0 6))) (fun q => absurd q.1 (by decide))
                          have f649 := (show 0 ≤ I638 0 71 ∧ I638 0 71 ≤ 5 from (hI638 0 71).1)
                          have f650 := (show 0 ≤ I638 0 72 ∧ I638 0 72 ≤ 1000 from (hI638 0 72).1)
                          have f651 := (show 0 ≤ I638 0 73 ∧ I638 0 73 ≤ 1001 from (hI638 0 73).1)
                          have f652 := (show 0 ≤ I638 0 69 ∧ I638 0 69 ≤ 1000 from (hI638 0 69).1)
                          have f653 := (show (-1) ≤ I638 0 6 ∧ I638 0 6 ≤ 7 from (hI638 0 6).1)
                          have f654 := (show 0 ≤ I638 0 59 ∧ I638 0 59 ≤ 2000 from (hI638 0 59).1)
                          have f655 := (show 0 ≤ I638 0 42 ∧ I638 0 42 ≤ 2000 from (hI638 0 42).1)
                          have f656 := (show 0 ≤ I638 0 106 ∧ I638 0 106 ≤ 16777215 from (hI638 0 106).1)
                          have A657 := gr_ATp_sr A636 p639 rfl
                          refine gv_pick [1, 2, 3, 0, 4] rfl ?_
                          exact L313 I638 J58 (v4_35 + 1) p_59 hI638 FI638 FJ58 (by omega) A657 (by obtain ⟨m, hm, em⟩ := e4_59; exact ⟨m, by omega, em.trans (by rw [show gs_ins (gs_ll (I57 64) _) (I57 0 106) = gs_ll (I638 64) (v4_35 + 1) from gs_ins_new (k := v5_69) (a := (Int.toNat v5_69)) (by omega) (by omega) rfl e1_69 (((p639 64 _ (fun q => absurd q.1 (by decide)))).trans q617) (fun j hj => ((p639 64 j (fun q => absurd q.1 (by decide)))).trans (p617 64 j (fun h => hj h.2)))])⟩) e5_59 ⟨(fun k => (((p639 17 k (fun q => absurd q.1 (by decide))).trans (p617 17 k (fun q => absurd q.1 (by decide)))).trans (e6_59.1 k))), (fun k => (((p639 31 k (fun q => absurd q.1 (by decide))).trans (p617 31 k (fun q => absurd q.1 (by decide)))).trans (e6_59.2.1 k))), (fun k => (((p639 32 k (fun q => absurd q.1 (by decide))).trans (p617 32 k (fun q => absurd q.1 (by decide)))).trans (e6_59.2.2.1 k))), (fun k => (e6_59.2.2.2 k))⟩
                      · refine gv_run 2 true hD (pc' := 254) (lv' := [(5, .inl (v5_69 + 1)), (0, .inr (.inr (some 0))), (1, .inl (I 0 6)), (2, .inr (.inl v2_11)), (4, .inl v4_35)]) (st' := []) (h' := gr_h I57 J58) (C := ((True ∧ True) ∧ True)) rfl ⟨⟨trivial, trivial⟩, trivial⟩ ?_
                        refine gv_pick [1, 2, 3, 4, 0] rfl ?_
                        exact ih254 (v5_69 + 1) (by omega) (by omega) (fun j hj => by by_cases c : j = Int.toNat v5_69; (rw [c]; omega); exact e1_69 j (by omega))
                refine gv_run 2 true hD (pc' := 254) (lv' := [(5, .inl 0), (0, .inr (.inr (some 0))), (1, .inl (I 0 6)), (2, .inr (.inl v2_11)), (4, .inl v4_35)]) (st' := []) (h' := gr_h I57 J58) (C := ((True ∧ True) ∧ True)) rfl ⟨⟨trivial, trivial⟩, trivial⟩ ?_
                refine gv_pick [1, 2, 3, 4, 0] rfl ?_
                exact L254 _ 0 (Nat.lt_succ_self _) (by omega) (fun j hj => absurd hj (by omega))
              have f658 := (show 0 ≤ I45 0 71 ∧ I45 0 71 ≤ 5 from (hI45 0 71).1)
              refine gv_run 3 true hD (pc' := 228) (lv' := [(0, .inr (.inr (some 0))), (1, .inl (I 0 6)), (2, .inr (.inl v2_11)), (4, .inl v4_35)]) (st' := [.inl 1, .inl (I45 0 71)]) (h' := gr_h I45 J46) (C := (((True ∧ True) ∧ True) ∧ True)) rfl ⟨⟨⟨trivial, trivial⟩, trivial⟩, trivial⟩ ?_
              refine gv_icmp_ne (t := 240) hD rfl rfl ⟨⟨by omega, by omega⟩, ⟨by omega, by omega⟩⟩ (fun c659 => ?_) (fun c659 => ?_)
              · have t660 := gr_ATp_ne e3_47 (c := 1) (by omega) (by omega)
                refine gv_run 2 true hD (pc' := 243) (lv' := [(0, .inr (.inr (some 0))), (1, .inl (I 0 6)), (2, .inr (.inl v2_11)), (4, .inl v4_35)]) (st' := [.inl 61, .inr (.inr (some 0))]) (h' := gr_h I45 J46) (C := ((True ∧ True) ∧ True)) rfl ⟨⟨trivial, trivial⟩, trivial⟩ ?_
                obtain ⟨r661, h661, E661, P661⟩ := r_need_p (ws0 := ws0) (tb := tb) hws htb ext β N9 p_47 I45 J46 hI45 61 ⟨by omega, by omega⟩ (gr_ATp_rr e3_47).1 (gr_ATp_rr e3_47).2.1 (gr_ATp_rr e3_47).2.2.1 (gr_ATp_rr e3_47).2.2.2.1 (gr_ATp_rr e3_47).2.2.2.2 e3_47 (by omega)
                obtain ⟨I662, J663, rfl, hI662, g661, k661, ⟨z661, rfl, q661⟩⟩ := P661
                have FI662 := gr_frt FI45 g661 rfl rfl
                have FJ663 := gr_fjt FJ46 k661 rfl rfl
                have t664 := g661 0 69 rfl
                have t665 := g661 0 6 rfl
                have t666 := g661 0 59 rfl
                have t667 := g661 0 42 rfl
                have t668 := g661 0 106 rfl
                have t669 := g661 17 (Int.toNat ((I 0 6))) rfl
                have f670 := (show 0 ≤ I662 0 71 ∧ I662 0 71 ≤ 5 from (hI662 0 71).1)
                have f671 := (show 0 ≤ I662 0 72 ∧ I662 0 72 ≤ 1000 from (hI662 0 72).1)
                have f672 := (show 0 ≤ I662 0 73 ∧ I662 0 73 ≤ 1001 from (hI662 0 73).1)
                have f673 := (show 0 ≤ I662 0 69 ∧ I662 0 69 ≤ 1000 from (hI662 0 69).1)
                have f674 := (show (-1) ≤ I662 0 6 ∧ I662 0 6 ≤ 7 from (hI662 0 6).1)
                have f675 := (show 0 ≤ I662 0 59 ∧ I662 0 59 ≤ 2000 from (hI662 0 59).1)
                have f676 := (show 0 ≤ I662 0 42 ∧ I662 0 42 ≤ 2000 from (hI662 0 42).1)
                have f677 := (show 0 ≤ I662 0 106 ∧ I662 0 106 ≤ 16777215 from (hI662 0 106).1)
                refine gv_callV hD rfl (As := [.inl 61]) (st := []) rfl (by decide) rfl rfl (gr_lV hws rfl) (Nat.le_of_ble_eq_true rfl) (gz_Ev_mono (d := 11) (by decide) E661) ?_
                show gv_X _ _ (246, [(0, .inr (.inr (some 0))), (1, .inl (I 0 6)), (2, .inr (.inl v2_11)), (4, .inl v4_35)], [.inl z661], gr_sh ++ ext, gr_h I662 J663)
                refine gv_if_ne (t := 251) hD rfl rfl ⟨by omega, by omega⟩ (fun c678 => ?_) (fun c678 => ?_)
                · obtain ⟨u679, A679⟩ := gs_or1 q661.2.2.2.2.2.2.2.2.2.2.2 (by omega)
                  have t680 := gr_ATp_l A679
                  have t681 := (q661.2.2.2.2.2.2.2.2.2.2.1).resolve_left (by omega)
                  obtain ⟨_, _, -, _, -, -, _, _, _, _, -, -⟩ := q661
                  have t682 := (gr_ATp_rr e3_47).2.2.1.resolve_left (by omega)
                  exact L251 I662 J663 (gs_need β N9 61 p_47) hI662 FI662 FJ663 (by omega) A679 (by obtain ⟨m, m2, hm, hm2, em⟩ := e4_47; obtain ⟨m2, rfl⟩ : ∃ n, m2 = n + 1 := ⟨m2 - 1, by omega⟩; exact ⟨m, by omega, em.trans (by rw [gs_ws_e (by omega), gs_pcA_e (by omega) (by omega), show gs_ll (I662 64) _ = gs_ll (I45 64) _ from gs_ll_eq (fun j _ => (g661 64 j rfl)), show I662 0 106 = I45 0 106 from by omega])⟩) e5_47 ⟨(fun k => ((g661 17 k rfl).trans (e6_47.1 k))), (fun k => ((g661 31 k rfl).trans (e6_47.2.1 k))), (fun k => ((g661 32 k rfl).trans (e6_47.2.2.1 k))), (fun k => ((k661 23 k rfl).trans (e6_47.2.2.2 k)))⟩
                · obtain ⟨u683, u683_⟩ := gs_or0 q661.2.2.2.2.2.2.2.2.2.2.2 (by omega)
                  refine gv_run 1 true hD (pc' := 250) (lv' := [(0, .inr (.inr (some 0))), (1, .inl (I 0 6)), (2, .inr (.inl v2_11)), (4, .inl v4_35)]) (st' := [.inl 0]) (h' := gr_h I662 J663) (C := (True ∧ True)) rfl ⟨trivial, trivial⟩ ?_
                  have b684 : (I662 0 71 = 5 ∨ I662 0 73 ≤ I662 0 69) ∧ (I662 0 72 ≤ I662 0 69) ∧ (I662 0 71 = 0 ∨ (I662 0 72 < I662 0 73 ∧ I662 0 72 < I662 0 69)) ∧ (I662 0 71 = 3 → 2 ≤ I662 0 73 - I662 0 72 ∧ I662 0 73 - I662 0 72 ≤ 14) ∧ (I662 0 72 ≤ I662 0 73) ∧ (I662 0 69 = I 0 69) ∧ (I 0 73 ≤ I662 0 73) ∧ (I 0 72 ≤ I662 0 72) ∧ (I662 0 59 - I662 0 72 ≤ I 0 59 - I 0 72) ∧ (I662 0 42 - I662 0 72 ≤ I 0 42 - I 0 72) := by omega
                  exact gv_zret hD rfl (by omega) ⟨I662, J663, rfl, hI662, FI662, FJ663, ⟨_, rfl, by omega, by omega, b684.1, b684.2.1, b684.2.2.1, b684.2.2.2.1, b684.2.2.2.2.1, b684.2.2.2.2.2.1, b684.2.2.2.2.2.2.1, b684.2.2.2.2.2.2.2.1, b684.2.2.2.2.2.2.2.2.1, b684.2.2.2.2.2.2.2.2.2, (Or.inr ⟨by omega, by first | (exfalso; omega) | (obtain ⟨m, m2, hm, hm2, em⟩ := e4_47; obtain ⟨m2, rfl⟩ : ∃ n, m2 = n + 1 := ⟨m2 - 1, by omega⟩; rw [gs_pat_x (show gs_ptw β N9 I J p9 = (gs_need β N9 61 p_47, []) from (em.trans (by rw [gs_ws_e (by omega)]; exact gs_pcA_n (by omega) (by omega)))) (by omega)]; exact ⟨by omega, by omega, (fun j => ⟨((g661 17 j rfl).trans (e6_47.1 j)), ((k661 23 j rfl).trans (e6_47.2.2.2 j)), ((g661 31 j rfl).trans (e6_47.2.1 j)), ((g661 32 j rfl).trans (e6_47.2.2.1 j))⟩)⟩)⟩)⟩⟩
              · have t685 := (gr_ATp_k e3_47 (c := 1) (by omega)).mp (by omega)
                have t686 := (gr_ATp_rr e3_47).2.2.1.resolve_left (by omega)
                refine gv_run 1 true hD (pc' := 232) (lv' := [(0, .inr (.inr (some 0))), (1, .inl (I 0 6)), (2, .inr (.inl v2_11)), (4, .inl v4_35)]) (st' := [.inr (.inr (some 0))]) (h' := gr_h I45 J46) (C := (True ∧ True)) rfl ⟨trivial, trivial⟩ ?_
                obtain ⟨r687, h687, E687, P687⟩ := r_oneValue_p (ws0 := ws0) (tb := tb) hws htb ext β N9 p_47 I45 J46 hI45   (gr_ATp_rr e3_47).1 (gr_ATp_rr e3_47).2.1 (gr_ATp_rr e3_47).2.2.1 (gr_ATp_rr e3_47).2.2.2.1 (gr_ATp_rr e3_47).2.2.2.2 (by omega) (by omega) e3_47 (by omega)
                obtain ⟨I688, J689, rfl, hI688, g687, k687, ⟨z687, rfl, q687⟩⟩ := P687
                have FI688 := gr_frt FI45 g687 rfl rfl
                have FJ689 := gr_fjt FJ46 k687 rfl rfl
                have t690 := g687 0 69 rfl
                have t691 := g687 0 6 rfl
                have t692 := g687 0 59 rfl
                have t693 := g687 0 42 rfl
                have t694 := g687 17 (Int.toNat ((I 0 6))) rfl
                have f695 := (show 0 ≤ I688 0 71 ∧ I688 0 71 ≤ 5 from (hI688 0 71).1)
                have f696 := (show 0 ≤ I688 0 72 ∧ I688 0 72 ≤ 1000 from (hI688 0 72).1)
                have f697 := (show 0 ≤ I688 0 73 ∧ I688 0 73 ≤ 1001 from (hI688 0 73).1)
                have f698 := (show 0 ≤ I688 0 69 ∧ I688 0 69 ≤ 1000 from (hI688 0 69).1)
                have f699 := (show (-1) ≤ I688 0 6 ∧ I688 0 6 ≤ 7 from (hI688 0 6).1)
                have f700 := (show 0 ≤ I688 0 59 ∧ I688 0 59 ≤ 2000 from (hI688 0 59).1)
                have f701 := (show 0 ≤ I688 0 42 ∧ I688 0 42 ≤ 2000 from (hI688 0 42).1)
                have f702 := (show 0 ≤ I688 0 106 ∧ I688 0 106 ≤ 16777215 from (hI688 0 106).1)
                refine gv_callV hD rfl (As := []) (st := []) rfl (by decide) rfl rfl (gr_lV hws rfl) (Nat.le_of_ble_eq_true rfl) (gz_Ev_mono (d := 11) (by decide) E687) ?_
                show gv_X _ _ (235, [(0, .inr (.inr (some 0))), (1, .inl (I 0 6)), (2, .inr (.inl v2_11)), (4, .inl v4_35)], [.inl z687], gr_sh ++ ext, gr_h I688 J689)
                refine gv_if_ne (t := 223) hD rfl rfl ⟨by omega, by omega⟩ (fun c703 => ?_) (fun c703 => ?_)
                · have Q704 := q687.2.2.2.2.2.2.2.2.2.2.2
                  rw [(gs_ov_eq (FI45 0 6 rfl) (fun k => (FI45 14 k rfl)) (fun k => (FI45 24 k rfl)) (fun k => (FI45 25 k rfl)) (fun k => (FJ46 21 k rfl))).1, (gs_ov_eq (FI45 0 6 rfl) (fun k => (FI45 14 k rfl)) (fun k => (FI45 24 k rfl)) (fun k => (FI45 25 k rfl)) (fun k => (FJ46 21 k rfl))).2] at Q704
                  obtain ⟨u704, A704, U704⟩ := gs_or1 Q704 (by omega)
                  have t705 := gr_ATp_l A704
                  have t706 := (q687.2.2.2.2.2.2.2.2.2.2.1).resolve_left (by omega)
                  obtain ⟨_, _, -, _, -, -, _, _, _, _, -, -⟩ := q687
                  exact ih223 I688 J689 ((gs_ov β N9 I J (I45 0 106) p_47)) (by omega) hI688 FI688 FJ689 (by omega) A704 (by obtain ⟨m, m2, hm, hm2, em⟩ := e4_47; obtain ⟨m2, rfl⟩ : ∃ n, m2 = n + 1 := ⟨m2 - 1, by omega⟩; exact ⟨m, m2, by omega, by omega, em.trans (by rw [show gs_ll (I688 64) _ = gs_ll (I45 64) _ from gs_ll_eq (fun j _ => (g687 64 j rfl)), gs_ws_s (by omega) (by omega), U704])⟩) e5_47 ⟨(fun k => ((g687 17 k rfl).trans (e6_47.1 k))), (fun k => ((g687 31 k rfl).trans (e6_47.2.1 k))), (fun k => ((g687 32 k rfl).trans (e6_47.2.2.1 k))), (fun k => ((k687 23 k rfl).trans (e6_47.2.2.2 k)))⟩
                · have Q707 := q687.2.2.2.2.2.2.2.2.2.2.2
                  rw [(gs_ov_eq (FI45 0 6 rfl) (fun k => (FI45 14 k rfl)) (fun k => (FI45 24 k rfl)) (fun k => (FI45 25 k rfl)) (fun k => (FJ46 21 k rfl))).1, (gs_ov_eq (FI45 0 6 rfl) (fun k => (FI45 14 k rfl)) (fun k => (FI45 24 k rfl)) (fun k => (FI45 25 k rfl)) (fun k => (FJ46 21 k rfl))).2] at Q707
                  obtain ⟨u707, u707_⟩ := gs_or0 Q707 (by omega)
                  refine gv_run 1 true hD (pc' := 239) (lv' := [(0, .inr (.inr (some 0))), (1, .inl (I 0 6)), (2, .inr (.inl v2_11)), (4, .inl v4_35)]) (st' := [.inl 0]) (h' := gr_h I688 J689) (C := (True ∧ True)) rfl ⟨trivial, trivial⟩ ?_
                  have b708 : (I688 0 71 = 5 ∨ I688 0 73 ≤ I688 0 69) ∧ (I688 0 72 ≤ I688 0 69) ∧ (I688 0 71 = 0 ∨ (I688 0 72 < I688 0 73 ∧ I688 0 72 < I688 0 69)) ∧ (I688 0 71 = 3 → 2 ≤ I688 0 73 - I688 0 72 ∧ I688 0 73 - I688 0 72 ≤ 14) ∧ (I688 0 72 ≤ I688 0 73) ∧ (I688 0 69 = I 0 69) ∧ (I 0 73 ≤ I688 0 73) ∧ (I 0 72 ≤ I688 0 72) ∧ (I688 0 59 - I688 0 72 ≤ I 0 59 - I 0 72) ∧ (I688 0 42 - I688 0 72 ≤ I 0 42 - I 0 72) := by omega
                  exact gv_zret hD rfl (by omega) ⟨I688, J689, rfl, hI688, FI688, FJ689, ⟨_, rfl, by omega, by omega, b708.1, b708.2.1, b708.2.2.1, b708.2.2.2.1, b708.2.2.2.2.1, b708.2.2.2.2.2.1, b708.2.2.2.2.2.2.1, b708.2.2.2.2.2.2.2.1, b708.2.2.2.2.2.2.2.2.1, b708.2.2.2.2.2.2.2.2.2, (Or.inr ⟨by omega, by first | (exfalso; omega) | (obtain ⟨m, m2, hm, hm2, em⟩ := e4_47; obtain ⟨m2, rfl⟩ : ∃ n, m2 = n + 1 := ⟨m2 - 1, by omega⟩; rw [gs_pat_x (show gs_ptw β N9 I J p9 = (gs_ov β N9 I J (I45 0 106) p_47, []) from (em.trans (by rw [gs_ws_x (by omega) (by omega)]; exact gs_pcA_x (by omega)))) (by omega)]; exact ⟨by omega, by omega, (fun j => ⟨((g687 17 j rfl).trans (e6_47.1 j)), ((k687 23 j rfl).trans (e6_47.2.2.2 j)), ((g687 31 j rfl).trans (e6_47.2.1 j)), ((g687 32 j rfl).trans (e6_47.2.2.1 j))⟩)⟩)⟩)⟩⟩
          refine gv_run 3 true hD (pc' := 223) (lv' := [(0, .inr (.inr (some 0))), (1, .inl (I 0 6)), (2, .inr (.inl v2_11)), (4, .inl v4_35)]) (st' := []) (h' := gz_up (gr_h I33 J34) 0 106 (.inl 0)) (C := (((True ∧ True) ∧ True) ∧ True)) rfl ⟨⟨⟨trivial, trivial⟩, trivial⟩, trivial⟩ ?_
          refine gr_st hI33 FI33 rfl rfl ⟨⟨by show 0 ≤ _; omega, by show _ ≤ 16777215; omega⟩, trivial⟩ (fun I709 hI709 FI709 q710 p710 => ?_)
          have t711 := p710 0 71 (by decide)
          have t712 := p710 0 72 (by decide)
          have t713 := p710 0 73 (by decide)
          have t714 := p710 0 69 (by decide)
          have t715 := p710 0 6 (by decide)
          have t716 := p710 0 59 (by decide)
          have t717 := p710 0 42 (by decide)
          have t718 := p710 17 (Int.toNat ((I 0 6))) (fun q => absurd q.1 (by decide))
          have f719 := (show 0 ≤ I709 0 71 ∧ I709 0 71 ≤ 5 from (hI709 0 71).1)
          have f720 := (show 0 ≤ I709 0 72 ∧ I709 0 72 ≤ 1000 from (hI709 0 72).1)
          have f721 := (show 0 ≤ I709 0 73 ∧ I709 0 73 ≤ 1001 from (hI709 0 73).1)
          have f722 := (show 0 ≤ I709 0 69 ∧ I709 0 69 ≤ 1000 from (hI709 0 69).1)
          have f723 := (show (-1) ≤ I709 0 6 ∧ I709 0 6 ≤ 7 from (hI709 0 6).1)
          have f724 := (show 0 ≤ I709 0 59 ∧ I709 0 59 ≤ 2000 from (hI709 0 59).1)
          have f725 := (show 0 ≤ I709 0 42 ∧ I709 0 42 ≤ 2000 from (hI709 0 42).1)
          have f726 := (show 0 ≤ I709 0 106 ∧ I709 0 106 ≤ 16777215 from (hI709 0 106).1)
          have A727 := gr_ATp_sf e2_35 p710 rfl
          exact L223 _ I709 J34 p_35 (Nat.lt_succ_self _) hI709 FI709 FJ34 (by omega) A727 (by obtain ⟨m, hm, em⟩ := e3_35; obtain ⟨m, rfl⟩ : ∃ n, m = n + 1 := ⟨m - 1, by omega⟩; exact ⟨m, 1002, by omega, by omega, em.trans (by rw [show gs_ll (I709 64) _ = gs_ll (I33 64) _ from gs_ll_eq (fun j _ => (p710 64 j (fun q => absurd q.1 (by decide)))), show I709 0 106 = 0 from by omega]; rfl)⟩) e4_35 ⟨(fun k => ((p710 17 k (fun q => absurd q.1 (by decide))).trans (e5_35.1 k))), (fun k => ((p710 31 k (fun q => absurd q.1 (by decide))).trans (e5_35.2.1 k))), (fun k => ((p710 32 k (fun q => absurd q.1 (by decide))).trans (e5_35.2.2.1 k))), (fun k => (e5_35.2.2.2 k))⟩
      refine gv_run 2 true hD (pc' := 210) (lv' := [(0, .inr (.inr (some 0))), (1, .inl (I 0 6)), (2, .inr (.inl v2_11)), (4, .inl v4_23)]) (st' := [.inl 123, .inr (.inr (some 0))]) (h' := gr_h I21 J22) (C := ((True ∧ True) ∧ True)) rfl ⟨⟨trivial, trivial⟩, trivial⟩ ?_
      obtain ⟨r728, h728, E728, P728⟩ := r_need_p (ws0 := ws0) (tb := tb) hws htb ext β N9 p_23 I21 J22 hI21 123 ⟨by omega, by omega⟩ (gr_ATp_rr e2_23).1 (gr_ATp_rr e2_23).2.1 (gr_ATp_rr e2_23).2.2.1 (gr_ATp_rr e2_23).2.2.2.1 (gr_ATp_rr e2_23).2.2.2.2 e2_23 (by omega)
      obtain ⟨I729, J730, rfl, hI729, g728, k728, ⟨z728, rfl, q728⟩⟩ := P728
      have FI729 := gr_frt FI21 g728 rfl rfl
      have FJ730 := gr_fjt FJ22 k728 rfl rfl
      have t731 := g728 0 69 rfl
      have t732 := g728 0 6 rfl
      have t733 := g728 0 59 rfl
      have t734 := g728 0 42 rfl
      have t735 := g728 0 106 rfl
      have t736 := g728 17 (Int.toNat ((I 0 6))) rfl
      have f737 := (show 0 ≤ I729 0 71 ∧ I729 0 71 ≤ 5 from (hI729 0 71).1)
      have f738 := (show 0 ≤ I729 0 72 ∧ I729 0 72 ≤ 1000 from (hI729 0 72).1)
      have f739 := (show 0 ≤ I729 0 73 ∧ I729 0 73 ≤ 1001 from (hI729 0 73).1)
      have f740 := (show 0 ≤ I729 0 69 ∧ I729 0 69 ≤ 1000 from (hI729 0 69).1)
      have f741 := (show (-1) ≤ I729 0 6 ∧ I729 0 6 ≤ 7 from (hI729 0 6).1)
      have f742 := (show 0 ≤ I729 0 59 ∧ I729 0 59 ≤ 2000 from (hI729 0 59).1)
      have f743 := (show 0 ≤ I729 0 42 ∧ I729 0 42 ≤ 2000 from (hI729 0 42).1)
      have f744 := (show 0 ≤ I729 0 106 ∧ I729 0 106 ≤ 16777215 from (hI729 0 106).1)
      refine gv_callV hD rfl (As := [.inl 123]) (st := []) rfl (by decide) rfl rfl (gr_lV hws rfl) (Nat.le_of_ble_eq_true rfl) (gz_Ev_mono (d := 11) (by decide) E728) ?_
      show gv_X _ _ (213, [(0, .inr (.inr (some 0))), (1, .inl (I 0 6)), (2, .inr (.inl v2_11)), (4, .inl v4_23)], [.inl z728], gr_sh ++ ext, gr_h I729 J730)
      refine gv_if_ne (t := 218) hD rfl rfl ⟨by omega, by omega⟩ (fun c745 => ?_) (fun c745 => ?_)
      · obtain ⟨u746, A746⟩ := gs_or1 q728.2.2.2.2.2.2.2.2.2.2.2 (by omega)
        have t747 := gr_ATp_l A746
        have t748 := (q728.2.2.2.2.2.2.2.2.2.2.1).resolve_left (by omega)
        obtain ⟨_, _, -, _, -, -, _, _, _, _, -, -⟩ := q728
        have t749 := (gr_ATp_rr e2_23).2.2.1.resolve_left (by omega)
        exact L218 _ I729 J730 v4_23 (gs_need β N9 123 p_23) (Nat.lt_succ_self _) hI729 FI729 FJ730 (by omega) A746 ⟨1002, by omega, (e3_23.trans (by rw [show gs_ll (I729 64) _ = gs_ll (I21 64) _ from gs_ll_eq (fun j _ => (g728 64 j rfl))]; unfold gs_pt2; (repeat first | rw [if_pos (by omega)] | rw [if_neg (by omega)])))⟩ e4_23 ⟨(fun k => ((g728 17 k rfl).trans (e5_23.1 k))), (fun k => ((g728 31 k rfl).trans (e5_23.2.1 k))), (fun k => ((g728 32 k rfl).trans (e5_23.2.2.1 k))), (fun k => ((k728 23 k rfl).trans (e5_23.2.2.2 k)))⟩
      · obtain ⟨u750, u750_⟩ := gs_or0 q728.2.2.2.2.2.2.2.2.2.2.2 (by omega)
        refine gv_run 1 true hD (pc' := 217) (lv' := [(0, .inr (.inr (some 0))), (1, .inl (I 0 6)), (2, .inr (.inl v2_11)), (4, .inl v4_23)]) (st' := [.inl 0]) (h' := gr_h I729 J730) (C := (True ∧ True)) rfl ⟨trivial, trivial⟩ ?_
        have b751 : (I729 0 71 = 5 ∨ I729 0 73 ≤ I729 0 69) ∧ (I729 0 72 ≤ I729 0 69) ∧ (I729 0 71 = 0 ∨ (I729 0 72 < I729 0 73 ∧ I729 0 72 < I729 0 69)) ∧ (I729 0 71 = 3 → 2 ≤ I729 0 73 - I729 0 72 ∧ I729 0 73 - I729 0 72 ≤ 14) ∧ (I729 0 72 ≤ I729 0 73) ∧ (I729 0 69 = I 0 69) ∧ (I 0 73 ≤ I729 0 73) ∧ (I 0 72 ≤ I729 0 72) ∧ (I729 0 59 - I729 0 72 ≤ I 0 59 - I 0 72) ∧ (I729 0 42 - I729 0 72 ≤ I 0 42 - I 0 72) := by omega
        exact gv_zret hD rfl (by omega) ⟨I729, J730, rfl, hI729, FI729, FJ730, ⟨_, rfl, by omega, by omega, b751.1, b751.2.1, b751.2.2.1, b751.2.2.2.1, b751.2.2.2.2.1, b751.2.2.2.2.2.1, b751.2.2.2.2.2.2.1, b751.2.2.2.2.2.2.2.1, b751.2.2.2.2.2.2.2.2.1, b751.2.2.2.2.2.2.2.2.2, (Or.inr ⟨by omega, by first | (exfalso; omega) | (rw [gs_pat_x (show gs_ptw β N9 I J p9 = (gs_need β N9 123 p_23, []) from (e3_23.trans (by unfold gs_pt2; (repeat first | rw [if_pos (by omega)] | rw [if_neg (by omega)])))) (by omega)]; exact ⟨by omega, by omega, (fun j => ⟨((g728 17 j rfl).trans (e5_23.1 j)), ((k728 23 j rfl).trans (e5_23.2.2.2 j)), ((g728 31 j rfl).trans (e5_23.2.1 j)), ((g728 32 j rfl).trans (e5_23.2.2.1 j))⟩)⟩)⟩)⟩⟩
    have L64 : ∀ (I752 : gr_I) (J753 : gr_J) (v4_754 : Int) (p_754 : Int), gr_Inv I752 → gr_fr [42, 59, 71, 72, 73, 74, 75, 76, 77, 106] [17, 23, 31, 32, 33, 34, 35, 51, 64, 65, 66] I I752 → gr_fj [42, 59, 71, 72, 73, 74, 75, 76, 77, 106] [17, 23, 31, 32, 33, 34, 35, 51, 64, 65, 66] J J753 → ((0 ≤ (I 0 6) ∧ (I 0 6) ≤ 7) ∧ (0 ≤ v4_754 ∧ v4_754 ≤ 0) ∧ (I752 0 71 = 1) ∧ (0 ≤ p_754) ∧ (I752 0 72 ≤ I752 0 69) ∧ (I752 0 72 ≤ I752 0 73) ∧ (I752 0 69 = I 0 69) ∧ (I 0 73 ≤ I752 0 73) ∧ (I 0 72 ≤ I752 0 72) ∧ (I752 0 6 = I 0 6) ∧ (I752 0 59 - I752 0 72 ≤ I 0 59 - I 0 72) ∧ (I752 0 42 - I752 0 72 ≤ I 0 42 - I 0 72)) → (gr_ATp β N9 p_754 I752 J753) → (gs_ptw β N9 I J p9 = gs_ptO β N9 I J (gs_X β N9 p_754)) → (v2_11 = (gs_rn β N9 p9)) → ((∀ k, I752 17 k = I 17 k) ∧ (∀ k, I752 31 k = I 31 k) ∧ (∀ k, I752 32 k = I 32 k) ∧ (∀ k, J753 23 k = J 23 k)) → gv_X (gr_E ws0 tb 11 (yX13_pattern, cX13_pattern, 8, (some .boolean)) kX13_pattern) (gv_Q cX13_pattern (some .boolean) (gr_sh ++ ext) (fun r h' => (∃ (I' : gr_I) (J' : gr_J), h' = gr_h I' J' ∧ gr_Inv I' ∧ gr_fr [42, 59, 71, 72, 73, 74, 75, 76, 77, 106] [17, 23, 31, 32, 33, 34, 35, 51, 64, 65, 66] I I' ∧ gr_fj [42, 59, 71, 72, 73, 74, 75, 76, 77, 106] [17, 23, 31, 32, 33, 34, 35, 51, 64, 65, 66] J J' ∧ (∃ z : Int, r = some (.inl z) ∧ 0 ≤ z ∧ z ≤ 1 ∧ (I' 0 71 = 5 ∨ I' 0 73 ≤ I' 0 69) ∧ (I' 0 72 ≤ I' 0 69) ∧ (I' 0 71 = 0 ∨ (I' 0 72 < I' 0 73 ∧ I' 0 72 < I' 0 69)) ∧ (I' 0 71 = 3 → 2 ≤ I' 0 73 - I' 0 72 ∧ I' 0 73 - I' 0 72 ≤ 14) ∧ (I' 0 72 ≤ I' 0 73) ∧ (I' 0 69 = I 0 69) ∧ (I 0 73 ≤ I' 0 73) ∧ (I 0 72 ≤ I' 0 72) ∧ (I' 0 59 - I' 0 72 ≤ I 0 59 - I 0 72) ∧ (I' 0 42 - I' 0 72 ≤ I 0 42 - I 0 72) ∧ (gs_Or z (0 ≤ (gs_pat β N9 I J (I 0 78) p9) ∧ gr_ATp β N9 (gs_pat β N9 I J (I 0 78) p9) I' J' ∧ gs_Upat (gs_rn β N9 p9) (gs_ptw β N9 I J p9).2 I J I' J') ((gs_pat β N9 I J (I 0 78) p9) < 0 ∧ I' 0 77 = -1 - (gs_pat β N9 I J (I 0 78) p9) ∧ gs_Spt I J I' J')))))) (64, [(0, .inr (.inr (some 0))), (1, .inl (I 0 6)), (2, .inr (.inl v2_11)), (4, .inl v4_754)], [], gr_sh ++ ext, gr_h I752 J753) := by
      intro I752 J753 v4_754 p_754 hI752 FI752 FJ753 m_754 e2_754 e3_754 e4_754 e5_754
      clear hv1_11 e0_11 e1_11 e7_11 e8_11 e9_11 e10_11 e11_11 e12_11 e13_11 e14_11 f12 f13 f14 f15 f16 f17 f18 f19 t20
      obtain ⟨h_I_0_6__754, hv4_754, e0_754, e1_754, e6_754, e7_754, e8_754, e9_754, e10_754, e11_754, e12_754, e13_754⟩ := m_754
      have f755 := (show 0 ≤ I752 0 71 ∧ I752 0 71 ≤ 5 from (hI752 0 71).1)
      have f756 := (show 0 ≤ I752 0 72 ∧ I752 0 72 ≤ 1000 from (hI752 0 72).1)
      have f757 := (show 0 ≤ I752 0 73 ∧ I752 0 73 ≤ 1001 from (hI752 0 73).1)
      have f758 := (show 0 ≤ I752 0 69 ∧ I752 0 69 ≤ 1000 from (hI752 0 69).1)
      have f759 := (show (-1) ≤ I752 0 6 ∧ I752 0 6 ≤ 7 from (hI752 0 6).1)
      have f760 := (show 0 ≤ I752 0 59 ∧ I752 0 59 ≤ 2000 from (hI752 0 59).1)
      have f761 := (show 0 ≤ I752 0 42 ∧ I752 0 42 ≤ 2000 from (hI752 0 42).1)
      have f762 := (show 0 ≤ I752 0 106 ∧ I752 0 106 ≤ 16777215 from (hI752 0 106).1)
      have t763 := gr_ATp_l e2_754
      have L130 : ∀ (n : Nat) (I764 : gr_I) (J765 : gr_J) (v4_766 : Int) (v5_766 : Int) (v6_766 : Int) (v7_766 : Int) (p_766 : Int), (25 - v4_766).toNat < n → gr_Inv I764 → gr_fr [42, 59, 71, 72, 73, 74, 75, 76, 77, 106] [17, 23, 31, 32, 33, 34, 35, 51, 64, 65, 66] I I764 → gr_fj [42, 59, 71, 72, 73, 74, 75, 76, 77, 106] [17, 23, 31, 32, 33, 34, 35, 51, 64, 65, 66] J J765 → ((0 ≤ (I 0 6) ∧ (I 0 6) ≤ 7) ∧ (0 ≤ v4_766 ∧ v4_766 ≤ 24) ∧ (0 ≤ v5_766 ∧ v5_766 ≤ 23) ∧ (0 ≤ v6_766 ∧ v6_766 ≤ 4584) ∧ (0 ≤ v7_766 ∧ v7_766 ≤ 24) ∧ (v4_766 = v7_766) ∧ (0 ≤ p_766) ∧ (I764 0 72 ≤ I764 0 69) ∧ (I764 0 72 ≤ I764 0 73) ∧ (I764 0 69 = I 0 69) ∧ (I 0 73 ≤ I764 0 73) ∧ (I 0 72 ≤ I764 0 72) ∧ (I764 0 6 = I 0 6) ∧ (I764 0 59 - I764 0 72 ≤ I 0 59 - I 0 72) ∧ (I764 0 42 - I764 0 72 ≤ I 0 42 - I 0 72)) → (gr_ATp β N9 p_766 I764 J765) → (gs_ptw β N9 I J p9 = gs_pt2 β N9 I J (gs_cl I (I 0 6) v5_766) p_766) → (v2_11 = (gs_rn β N9 p9)) → (∀ j : Nat, (j : Int) < v7_766 → I764 64 j = I 32 (Int.toNat (24 * (24 * I 0 6 + v5_766) + (j : Int)))) → (v6_766 = 24 * (24 * I 0 6 + v5_766)) → (v7_766 ≤ I 31 (Int.toNat (24 * I 0 6 + v5_766))) → ((∀ k, I764 17 k = I 17 k) ∧ (∀ k, I764 31 k = I 31 k) ∧ (∀ k, I764 32 k = I 32 k) ∧ (∀ k, J765 23 k = J 23 k)) → gv_X (gr_E ws0 tb 11 (yX13_pattern, cX13_pattern, 8, (some .boolean)) kX13_pattern) (gv_Q cX13_pattern (some .boolean) (gr_sh ++ ext) (fun r h' => (∃ (I' : gr_I) (J' : gr_J), h' = gr_h I' J' ∧ gr_Inv I' ∧ gr_fr [42, 59, 71, 72, 73, 74, 75, 76, 77, 106] [17, 23, 31, 32, 33, 34, 35, 51, 64, 65, 66] I I' ∧ gr_fj [42, 59, 71, 72, 73, 74, 75, 76, 77, 106] [17, 23, 31, 32, 33, 34, 35, 51, 64, 65, 66] J J' ∧ (∃ z : Int, r = some (.inl z) ∧ 0 ≤ z ∧ z ≤ 1 ∧ (I' 0 71 = 5 ∨ I' 0 73 ≤ I' 0 69) ∧ (I' 0 72 ≤ I' 0 69) ∧ (I' 0 71 = 0 ∨ (I' 0 72 < I' 0 73 ∧ I' 0 72 < I' 0 69)) ∧ (I' 0 71 = 3 → 2 ≤ I' 0 73 - I' 0 72 ∧ I' 0 73 - I' 0 72 ≤ 14) ∧ (I' 0 72 ≤ I' 0 73) ∧ (I' 0 69 = I 0 69) ∧ (I 0 73 ≤ I' 0 73) ∧ (I 0 72 ≤ I' 0 72) ∧ (I' 0 59 - I' 0 72 ≤ I 0 59 - I 0 72) ∧ (I' 0 42 - I' 0 72 ≤ I 0 42 - I 0 72) ∧ (gs_Or z (0 ≤ (gs_pat β N9 I J (I 0 78) p9) ∧ gr_ATp β N9 (gs_pat β N9 I J (I 0 78) p9) I' J' ∧ gs_Upat (gs_rn β N9 p9) (gs_ptw β N9 I J p9).2 I J I' J') ((gs_pat β N9 I J (I 0 78) p9) < 0 ∧ I' 0 77 = -1 - (gs_pat β N9 I J (I 0 78) p9) ∧ gs_Spt I J I' J')))))) (130, [(0, .inr (.inr (some 0))), (1, .inl (I 0 6)), (2, .inr (.inl v2_11)), (4, .inl v4_766), (5, .inl v5_766), (6, .inl v6_766), (7, .inl v7_766)], [], gr_sh ++ ext, gr_h I764 J765) := by
        intro n
        induction n with
        | zero => intro I764 J765 v4_766 v5_766 v6_766 v7_766 p_766 hn; omega
        | succ n ih130 =>
          intro I764 J765 v4_766 v5_766 v6_766 v7_766 p_766 hn hI764 FI764 FJ765 m_766 e2_766 e3_766 e4_766 e5_766 e6_766 e7_766 e8_766
          clear h_I_0_6__754 hv4_754 e0_754 e1_754 e6_754 e7_754 e8_754 e9_754 e10_754 e11_754 e12_754 e13_754 f755 f756 f757 f758 f759 f760 f761 f762 t763
          obtain ⟨h_I_0_6__766, hv4_766, hv5_766, hv6_766, hv7_766, e0_766, e1_766, e9_766, e10_766, e11_766, e12_766, e13_766, e14_766, e15_766, e16_766⟩ := m_766
          have f767 := (show 0 ≤ I764 0 71 ∧ I764 0 71 ≤ 5 from (hI764 0 71).1)
          have f768 := (show 0 ≤ I764 0 72 ∧ I764 0 72 ≤ 1000 from (hI764 0 72).1)
          have f769 := (show 0 ≤ I764 0 73 ∧ I764 0 73 ≤ 1001 from (hI764 0 73).1)
          have f770 := (show 0 ≤ I764 0 69 ∧ I764 0 69 ≤ 1000 from (hI764 0 69).1)
          have f771 := (show (-1) ≤ I764 0 6 ∧ I764 0 6 ≤ 7 from (hI764 0 6).1)
          have f772 := (show 0 ≤ I764 0 59 ∧ I764 0 59 ≤ 2000 from (hI764 0 59).1)
          have f773 := (show 0 ≤ I764 0 42 ∧ I764 0 42 ≤ 2000 from (hI764 0 42).1)
          have f774 := (show 0 ≤ I764 0 106 ∧ I764 0 106 ≤ 16777215 from (hI764 0 106).1)
          have t775 := gr_ATp_l e2_766
          refine gv_run 7 true hD (pc' := 142) (lv' := [(0, .inr (.inr (some 0))), (1, .inl (I 0 6)), (2, .inr (.inl v2_11)), (4, .inl v4_766), (5, .inl v5_766), (6, .inl v6_766), (7, .inl v7_766)]) (st' := [.inl v5_766, .inl (24 * (I 0 6)), .inr (.inr (some 31)), .inl v7_766]) (h' := gr_h I764 J765) (C := (((((((True ∧ True) ∧ True) ∧ True) ∧ True) ∧ True) ∧ True) ∧ True)) rfl ⟨⟨⟨⟨⟨⟨⟨trivial, trivial⟩, trivial⟩, trivial⟩, trivial⟩, trivial⟩, trivial⟩, trivial⟩ ?_
          have f776 := (show 0 ≤ I764 31 (Int.toNat (((24 * (I 0 6)) + v5_766))) ∧ I764 31 (Int.toNat (((24 * (I 0 6)) + v5_766))) ≤ 24 from (hI764 31 (Int.toNat (((24 * (I 0 6)) + v5_766)))).1)
          refine gv_run 2 true hD (pc' := 144) (lv' := [(0, .inr (.inr (some 0))), (1, .inl (I 0 6)), (2, .inr (.inl v2_11)), (4, .inl v4_766), (5, .inl v5_766), (6, .inl v6_766), (7, .inl v7_766)]) (st' := [.inl (I764 31 (Int.toNat (((24 * (I 0 6)) + v5_766)))), .inl v7_766]) (h' := gr_h I764 J765) (C := ((True ∧ True) ∧ (0 ≤ (((24 * (I 0 6)) + v5_766)) ∧ (((24 * (I 0 6)) + v5_766)) < ((192 : Nat) : Int)))) rfl ⟨⟨trivial, trivial⟩, ⟨by omega, by omega⟩⟩ ?_
          have t777 := (show I764 31 (Int.toNat ((24 * (I 0 6)) + v5_766)) = I 31 (Int.toNat (24 * I 0 6 + v5_766)) from (e8_766.2.1 _))
          have t778 := (show 0 ≤ I 31 (Int.toNat (24 * I 0 6 + v5_766)) ∧ I 31 (Int.toNat (24 * I 0 6 + v5_766)) ≤ 24 from (hI 31 _).1)
          refine gv_icmp_ge (t := 207) hD rfl rfl ⟨⟨by omega, by omega⟩, ⟨by omega, by omega⟩⟩ (fun c779 => ?_) (fun c779 => ?_)
          · refine gv_pick [0, 1, 2, 3] rfl ?_
            exact L207 I764 J765 v4_766 p_766 hI764 FI764 FJ765 (by omega) e2_766 (e3_766.trans (by rw [show gs_cl I (I 0 6) v5_766 = gs_ll (I764 64) v4_766 from gs_cl_eq (by omega) (fun j hj => e5_766 j (by omega))])) e4_766 ⟨(fun k => (e8_766.1 k)), (fun k => (e8_766.2.1 k)), (fun k => (e8_766.2.2.1 k)), (fun k => (e8_766.2.2.2 k))⟩
          · refine gv_run 7 true hD (pc' := 161) (lv' := [(0, .inr (.inr (some 0))), (1, .inl (I 0 6)), (2, .inr (.inl v2_11)), (4, .inl v4_766), (5, .inl v5_766), (6, .inl v6_766), (7, .inl v7_766)]) (st' := [.inl v7_766, .inl v6_766, .inr (.inr (some 32)), .inl v4_766, .inr (.inr (some 64))]) (h' := gr_h I764 J765) (C := (((((((True ∧ True) ∧ True) ∧ True) ∧ True) ∧ True) ∧ True) ∧ True)) rfl ⟨⟨⟨⟨⟨⟨⟨trivial, trivial⟩, trivial⟩, trivial⟩, trivial⟩, trivial⟩, trivial⟩, trivial⟩ ?_
            have f780 := (show 0 ≤ I764 32 (Int.toNat ((v6_766 + v7_766))) ∧ I764 32 (Int.toNat ((v6_766 + v7_766))) ≤ 16777215 from (hI764 32 (Int.toNat ((v6_766 + v7_766)))).1)
            refine gv_run 2 true hD (pc' := 163) (lv' := [(0, .inr (.inr (some 0))), (1, .inl (I 0 6)), (2, .inr (.inl v2_11)), (4, .inl v4_766), (5, .inl v5_766), (6, .inl v6_766), (7, .inl v7_766)]) (st' := [.inl (I764 32 (Int.toNat ((v6_766 + v7_766)))), .inl v4_766, .inr (.inr (some 64))]) (h' := gr_h I764 J765) (C := ((True ∧ True) ∧ (0 ≤ (v6_766 + v7_766) ∧ (v6_766 + v7_766) < ((4608 : Nat) : Int)))) rfl ⟨⟨trivial, trivial⟩, ⟨by omega, by omega⟩⟩ ?_
            refine gv_run 1 true hD (pc' := 164) (lv' := [(0, .inr (.inr (some 0))), (1, .inl (I 0 6)), (2, .inr (.inl v2_11)), (4, .inl v4_766), (5, .inl v5_766), (6, .inl v6_766), (7, .inl v7_766)]) (st' := []) (h' := gz_up (gr_h I764 J765) 64 (Int.toNat v4_766) (.inl ((I764 32 (Int.toNat ((v6_766 + v7_766))))))) (C := (True ∧ (0 ≤ v4_766 ∧ v4_766 < ((420 : Nat) : Int)))) rfl ⟨trivial, ⟨by omega, by omega⟩⟩ ?_
            refine gr_st hI764 FI764 rfl rfl ⟨⟨by show 0 ≤ _; omega, by show _ ≤ 16777215; omega⟩, trivial⟩ (fun I781 hI781 FI781 q782 p782 => ?_)
            have t783 := p782 0 71 (fun q => absurd q.1 (by decide))
            have t784 := p782 0 72 (fun q => absurd q.1 (by decide))
            have t785 := p782 0 73 (fun q => absurd q.1 (by decide))
            have t786 := p782 0 69 (fun q => absurd q.1 (by decide))
            have t787 := p782 0 6 (fun q => absurd q.1 (by decide))
            have t788 := p782 0 59 (fun q => absurd q.1 (by decide))
            have t789 := p782 0 42 (fun q => absurd q.1 (by decide))
            have t790 := p782 0 106 (fun q => absurd q.1 (by decide))
            have t791 := p782 17 (Int.toNat ((I 0 6))) (fun q => absurd q.1 (by decide))
            have t792 := p782 65 (Int.toNat v5_766) (fun q => absurd q.1 (by decide))
            have f793 := (show 0 ≤ I781 0 71 ∧ I781 0 71 ≤ 5 from (hI781 0 71).1)
            have f794 := (show 0 ≤ I781 0 72 ∧ I781 0 72 ≤ 1000 from (hI781 0 72).1)
            have f795 := (show 0 ≤ I781 0 73 ∧ I781 0 73 ≤ 1001 from (hI781 0 73).1)
            have f796 := (show 0 ≤ I781 0 69 ∧ I781 0 69 ≤ 1000 from (hI781 0 69).1)
            have f797 := (show (-1) ≤ I781 0 6 ∧ I781 0 6 ≤ 7 from (hI781 0 6).1)
            have f798 := (show 0 ≤ I781 0 59 ∧ I781 0 59 ≤ 2000 from (hI781 0 59).1)
            have f799 := (show 0 ≤ I781 0 42 ∧ I781 0 42 ≤ 2000 from (hI781 0 42).1)
            have f800 := (show 0 ≤ I781 0 106 ∧ I781 0 106 ≤ 16777215 from (hI781 0 106).1)
            have A801 := gr_ATp_sr e2_766 p782 rfl
            refine gv_run 7 true hD (pc' := 178) (lv' := [(0, .inr (.inr (some 0))), (1, .inl (I 0 6)), (2, .inr (.inl v2_11)), (4, .inl v4_766), (5, .inl v5_766), (6, .inl v6_766), (7, .inl v7_766)]) (st' := [.inl v7_766, .inl v6_766, .inr (.inr (some 33)), .inl v4_766, .inr (.inr (some 65))]) (h' := gr_h I781 J765) (C := (((((((True ∧ True) ∧ True) ∧ True) ∧ True) ∧ True) ∧ True) ∧ True)) rfl ⟨⟨⟨⟨⟨⟨⟨trivial, trivial⟩, trivial⟩, trivial⟩, trivial⟩, trivial⟩, trivial⟩, trivial⟩ ?_
            have f802 := (show 0 ≤ I781 33 (Int.toNat ((v6_766 + v7_766))) ∧ I781 33 (Int.toNat ((v6_766 + v7_766))) ≤ 2000 from (hI781 33 (Int.toNat ((v6_766 + v7_766)))).1)
            refine gv_run 2 true hD (pc' := 180) (lv' := [(0, .inr (.inr (some 0))), (1, .inl (I 0 6)), (2, .inr (.inl v2_11)), (4, .inl v4_766), (5, .inl v5_766), (6, .inl v6_766), (7, .inl v7_766)]) (st' := [.inl (I781 33 (Int.toNat ((v6_766 + v7_766)))), .inl v4_766, .inr (.inr (some 65))]) (h' := gr_h I781 J765) (C := ((True ∧ True) ∧ (0 ≤ (v6_766 + v7_766) ∧ (v6_766 + v7_766) < ((4608 : Nat) : Int)))) rfl ⟨⟨trivial, trivial⟩, ⟨by omega, by omega⟩⟩ ?_
            refine gv_run 1 true hD (pc' := 181) (lv' := [(0, .inr (.inr (some 0))), (1, .inl (I 0 6)), (2, .inr (.inl v2_11)), (4, .inl v4_766), (5, .inl v5_766), (6, .inl v6_766), (7, .inl v7_766)]) (st' := []) (h' := gz_up (gr_h I781 J765) 65 (Int.toNat v4_766) (.inl ((I781 33 (Int.toNat ((v6_766 + v7_766))))))) (C := (True ∧ (0 ≤ v4_766 ∧ v4_766 < ((420 : Nat) : Int)))) rfl ⟨trivial, ⟨by omega, by omega⟩⟩ ?_
            refine gr_st hI781 FI781 rfl rfl ⟨⟨by show 0 ≤ _; omega, by show _ ≤ 2000; omega⟩, trivial⟩ (fun I803 hI803 FI803 q804 p804 => ?_)
            have t805 := p804 0 71 (fun q => absurd q.1 (by decide))
            have t806 := p804 0 72 (fun q => absurd q.1 (by decide))
            have t807 := p804 0 73 (fun q => absurd q.1 (by decide))
            have t808 := p804 0 69 (fun q => absurd q.1 (by decide))
            have t809 := p804 0 6 (fun q => absurd q.1 (by decide))
            have t810 := p804 0 59 (fun q => absurd q.1 (by decide))
            have t811 := p804 0 42 (fun q => absurd q.1 (by decide))
            have t812 := p804 0 106 (fun q => absurd q.1 (by decide))
            have t813 := p804 17 (Int.toNat ((I 0 6))) (fun q => absurd q.1 (by decide))
            have f814 := (show 0 ≤ I803 0 71 ∧ I803 0 71 ≤ 5 from (hI803 0 71).1)
            have f815 := (show 0 ≤ I803 0 72 ∧ I803 0 72 ≤ 1000 from (hI803 0 72).1)
            have f816 := (show 0 ≤ I803 0 73 ∧ I803 0 73 ≤ 1001 from (hI803 0 73).1)
            have f817 := (show 0 ≤ I803 0 69 ∧ I803 0 69 ≤ 1000 from (hI803 0 69).1)
            have f818 := (show (-1) ≤ I803 0 6 ∧ I803 0 6 ≤ 7 from (hI803 0 6).1)
            have f819 := (show 0 ≤ I803 0 59 ∧ I803 0 59 ≤ 2000 from (hI803 0 59).1)
            have f820 := (show 0 ≤ I803 0 42 ∧ I803 0 42 ≤ 2000 from (hI803 0 42).1)
            have f821 := (show 0 ≤ I803 0 106 ∧ I803 0 106 ≤ 16777215 from (hI803 0 106).1)
            have A822 := gr_ATp_sr A801 p804 rfl
            refine gv_run 7 true hD (pc' := 196) (lv' := [(4, .inl (v4_766 + 1)), (0, .inr (.inr (some 0))), (1, .inl (I 0 6)), (2, .inr (.inl v2_11)), (5, .inl v5_766), (6, .inl v6_766), (7, .inl v7_766)]) (st' := [.inl v6_766, .inr (.inr (some 34)), .inl v4_766, .inr (.inr (some 66))]) (h' := gr_h I803 J765) (C := (((((((True ∧ True) ∧ True) ∧ True) ∧ True) ∧ True) ∧ True) ∧ True)) rfl ⟨⟨⟨⟨⟨⟨⟨trivial, trivial⟩, trivial⟩, trivial⟩, trivial⟩, trivial⟩, trivial⟩, trivial⟩ ?_
            have f823 := (show (-1) ≤ I803 34 (Int.toNat ((v6_766 + v7_766))) ∧ I803 34 (Int.toNat ((v6_766 + v7_766))) ≤ 2000 from (hI803 34 (Int.toNat ((v6_766 + v7_766)))).1)
            refine gv_run 3 true hD (pc' := 200) (lv' := [(4, .inl (v4_766 + 1)), (0, .inr (.inr (some 0))), (1, .inl (I 0 6)), (2, .inr (.inl v2_11)), (5, .inl v5_766), (6, .inl v6_766), (7, .inl v7_766)]) (st' := [.inl (I803 34 (Int.toNat ((v6_766 + v7_766)))), .inl v4_766, .inr (.inr (some 66))]) (h' := gr_h I803 J765) (C := (((True ∧ True) ∧ True) ∧ (0 ≤ (v6_766 + v7_766) ∧ (v6_766 + v7_766) < ((4608 : Nat) : Int)))) rfl ⟨⟨⟨trivial, trivial⟩, trivial⟩, ⟨by omega, by omega⟩⟩ ?_
            refine gv_run 1 true hD (pc' := 201) (lv' := [(4, .inl (v4_766 + 1)), (0, .inr (.inr (some 0))), (1, .inl (I 0 6)), (2, .inr (.inl v2_11)), (5, .inl v5_766), (6, .inl v6_766), (7, .inl v7_766)]) (st' := []) (h' := gz_up (gr_h I803 J765) 66 (Int.toNat v4_766) (.inl ((I803 34 (Int.toNat ((v6_766 + v7_766))))))) (C := (True ∧ (0 ≤ v4_766 ∧ v4_766 < ((420 : Nat) : Int)))) rfl ⟨trivial, ⟨by omega, by omega⟩⟩ ?_
            refine gr_st hI803 FI803 rfl rfl ⟨⟨by show (-1) ≤ _; omega, by show _ ≤ 2000; omega⟩, trivial⟩ (fun I824 hI824 FI824 q825 p825 => ?_)
            have t826 := p825 0 71 (fun q => absurd q.1 (by decide))
            have t827 := p825 0 72 (fun q => absurd q.1 (by decide))
            have t828 := p825 0 73 (fun q => absurd q.1 (by decide))
            have t829 := p825 0 69 (fun q => absurd q.1 (by decide))
            have t830 := p825 0 6 (fun q => absurd q.1 (by decide))
            have t831 := p825 0 59 (fun q => absurd q.1 (by decide))
            have t832 := p825 0 42 (fun q => absurd q.1 (by decide))
            have t833 := p825 0 106 (fun q => absurd q.1 (by decide))
            have t834 := p825 17 (Int.toNat ((I 0 6))) (fun q => absurd q.1 (by decide))
            have t835 := p825 65 (Int.toNat v5_766) (fun q => absurd q.1 (by decide))
            have f836 := (show 0 ≤ I824 0 71 ∧ I824 0 71 ≤ 5 from (hI824 0 71).1)
            have f837 := (show 0 ≤ I824 0 72 ∧ I824 0 72 ≤ 1000 from (hI824 0 72).1)
            have f838 := (show 0 ≤ I824 0 73 ∧ I824 0 73 ≤ 1001 from (hI824 0 73).1)
            have f839 := (show 0 ≤ I824 0 69 ∧ I824 0 69 ≤ 1000 from (hI824 0 69).1)
            have f840 := (show (-1) ≤ I824 0 6 ∧ I824 0 6 ≤ 7 from (hI824 0 6).1)
            have f841 := (show 0 ≤ I824 0 59 ∧ I824 0 59 ≤ 2000 from (hI824 0 59).1)
            have f842 := (show 0 ≤ I824 0 42 ∧ I824 0 42 ≤ 2000 from (hI824 0 42).1)
            have f843 := (show 0 ≤ I824 0 106 ∧ I824 0 106 ≤ 16777215 from (hI824 0 106).1)
            have A844 := gr_ATp_sr A822 p825 rfl
            refine gv_run 2 true hD (pc' := 130) (lv' := [(7, .inl (v7_766 + 1)), (4, .inl (v4_766 + 1)), (0, .inr (.inr (some 0))), (1, .inl (I 0 6)), (2, .inr (.inl v2_11)), (5, .inl v5_766), (6, .inl v6_766)]) (st' := []) (h' := gr_h I824 J765) (C := ((True ∧ True) ∧ True)) rfl ⟨⟨trivial, trivial⟩, trivial⟩ ?_
            refine gv_pick [2, 3, 4, 1, 5, 6, 0] rfl ?_
            exact ih130 I824 J765 (v4_766 + 1) v5_766 v6_766 (v7_766 + 1) p_766 (by omega) hI824 FI824 FJ765 (by omega) A844 e3_766 e4_766 (fun j hj => (((p825 64 j (fun q => absurd q.1 (by decide))).trans (p804 64 j (fun q => absurd q.1 (by decide))))).trans (by by_cases c : j = Int.toNat v7_766; (rw [show j = (Int.toNat v4_766) from by omega, q782, (e8_766.2.2.1 _)]; exact congrArg (I 32) (by omega)); exact (p782 64 j (fun h => c (by have h9 := h.2; omega))).trans (e5_766 j (by omega)))) (by omega) (by omega) ⟨(fun k => ((((p825 17 k (fun q => absurd q.1 (by decide))).trans (p804 17 k (fun q => absurd q.1 (by decide)))).trans (p782 17 k (fun q => absurd q.1 (by decide)))).trans (e8_766.1 k))), (fun k => ((((p825 31 k (fun q => absurd q.1 (by decide))).trans (p804 31 k (fun q => absurd q.1 (by decide)))).trans (p782 31 k (fun q => absurd q.1 (by decide)))).trans (e8_766.2.1 k))), (fun k => ((((p825 32 k (fun q => absurd q.1 (by decide))).trans (p804 32 k (fun q => absurd q.1 (by decide)))).trans (p782 32 k (fun q => absurd q.1 (by decide)))).trans (e8_766.2.2.1 k))), (fun k => (e8_766.2.2.2 k))⟩
      refine gv_run 1 true hD (pc' := 65) (lv' := [(0, .inr (.inr (some 0))), (1, .inl (I 0 6)), (2, .inr (.inl v2_11)), (4, .inl v4_754)]) (st' := [.inr (.inr (some 0))]) (h' := gr_h I752 J753) (C := (True ∧ True)) rfl ⟨trivial, trivial⟩ ?_
      obtain ⟨r845, h845, E845, P845⟩ := r_next_p (ws0 := ws0) (tb := tb) hws htb ext β N9 I752 J753 hI752   ((gr_ATp_rr e2_754).1.resolve_left (by omega)) e2_754.1.1 e2_754.1.2
      obtain ⟨I846, J847, rfl, hI846, g845, k845, ⟨rfl, q845⟩⟩ := P845
      have FI846 := gr_frt FI752 g845 rfl rfl
      have FJ847 := gr_fjt FJ753 k845 rfl rfl
      have t848 := g845 0 69 rfl
      have t849 := g845 0 6 rfl
      have t850 := g845 0 59 rfl
      have t851 := g845 0 42 rfl
      have t852 := g845 0 106 rfl
      have t853 := g845 17 (Int.toNat ((I 0 6))) rfl
      have f854 := (show 0 ≤ I846 0 71 ∧ I846 0 71 ≤ 5 from (hI846 0 71).1)
      have f855 := (show 0 ≤ I846 0 72 ∧ I846 0 72 ≤ 1000 from (hI846 0 72).1)
      have f856 := (show 0 ≤ I846 0 73 ∧ I846 0 73 ≤ 1001 from (hI846 0 73).1)
      have f857 := (show 0 ≤ I846 0 69 ∧ I846 0 69 ≤ 1000 from (hI846 0 69).1)
      have f858 := (show (-1) ≤ I846 0 6 ∧ I846 0 6 ≤ 7 from (hI846 0 6).1)
      have f859 := (show 0 ≤ I846 0 59 ∧ I846 0 59 ≤ 2000 from (hI846 0 59).1)
      have f860 := (show 0 ≤ I846 0 42 ∧ I846 0 42 ≤ 2000 from (hI846 0 42).1)
      have f861 := (show 0 ≤ I846 0 106 ∧ I846 0 106 ≤ 16777215 from (hI846 0 106).1)
      have t862 := (gr_ATp_rr e2_754).2.2.1.resolve_left (by omega)
      have A863 := gr_ATp_nx e2_754 q845.2.2.2.2.2
      have t864 := gr_ATp_l A863
      obtain ⟨_, _, -, -, -, -⟩ := q845
      refine gv_callV hD rfl (As := []) (st := []) rfl (by decide) rfl rfl (gr_lV hws rfl) (Nat.le_of_ble_eq_true rfl) (gz_Ev_mono (d := 10) (by decide) E845) ?_
      show gv_X _ _ (68, [(0, .inr (.inr (some 0))), (1, .inl (I 0 6)), (2, .inr (.inl v2_11)), (4, .inl v4_754)], [], gr_sh ++ ext, gr_h I846 J847)
      refine gv_run 1 true hD (pc' := 69) (lv' := [(0, .inr (.inr (some 0))), (1, .inl (I 0 6)), (2, .inr (.inl v2_11)), (4, .inl v4_754)]) (st' := [.inr (.inr (some 0))]) (h' := gr_h I846 J847) (C := (True ∧ True)) rfl ⟨trivial, trivial⟩ ?_
      obtain ⟨r865, h865, E865, P865⟩ := r_name_p (ws0 := ws0) (tb := tb) hws htb ext β N9 (gs_X β N9 p_754) I846 J847 hI846   A863 (by omega)
      obtain ⟨I866, J867, rfl, hI866, g865, k865, ⟨z865, rfl, q865⟩⟩ := P865
      have FI866 := gr_frt FI846 g865 rfl rfl
      have FJ867 := gr_fjt FJ847 k865 rfl rfl
      have t868 := g865 0 71 rfl
      have t869 := g865 0 72 rfl
      have t870 := g865 0 73 rfl
      have t871 := g865 0 69 rfl
      have t872 := g865 0 6 rfl
      have t873 := g865 0 59 rfl
      have t874 := g865 0 42 rfl
      have t875 := g865 0 106 rfl
      have t876 := g865 17 (Int.toNat ((I 0 6))) rfl
      have f877 := (show 0 ≤ I866 0 71 ∧ I866 0 71 ≤ 5 from (hI866 0 71).1)
      have f878 := (show 0 ≤ I866 0 72 ∧ I866 0 72 ≤ 1000 from (hI866 0 72).1)
      have f879 := (show 0 ≤ I866 0 73 ∧ I866 0 73 ≤ 1001 from (hI866 0 73).1)
      have f880 := (show 0 ≤ I866 0 69 ∧ I866 0 69 ≤ 1000 from (hI866 0 69).1)
      have f881 := (show (-1) ≤ I866 0 6 ∧ I866 0 6 ≤ 7 from (hI866 0 6).1)
      have f882 := (show 0 ≤ I866 0 59 ∧ I866 0 59 ≤ 2000 from (hI866 0 59).1)
      have f883 := (show 0 ≤ I866 0 42 ∧ I866 0 42 ≤ 2000 from (hI866 0 42).1)
      have f884 := (show 0 ≤ I866 0 106 ∧ I866 0 106 ≤ 16777215 from (hI866 0 106).1)
      have V865 := gs_or_mk q865.2.2.2
      have A885 := gr_ATp_F A863 g865 k865 rfl
      have t886 := gr_ATp_l A885
      obtain ⟨_, _, o865, -⟩ := q865
      refine gv_callV hD rfl (As := []) (st := []) rfl (by decide) rfl rfl (gr_lV hws rfl) (Nat.le_of_ble_eq_true rfl) (gz_Ev_mono (d := 3) (by decide) E865) ?_
      show gv_X _ _ (72, [(0, .inr (.inr (some 0))), (1, .inl (I 0 6)), (2, .inr (.inl v2_11)), (4, .inl v4_754)], [.inl z865], gr_sh ++ ext, gr_h I866 J867)
      refine gv_if_ne (t := 77) hD rfl rfl ⟨by omega, by omega⟩ (fun c887 => ?_) (fun c887 => ?_)
      · have u888 := gs_or1 V865 (by omega)
        have t889 := o865.resolve_left (by omega)
        have t890 := (gr_ATp_rr A885).2.2.1.resolve_left (by omega)
        clear o865 V865
        refine gv_run 7 true hD (pc' := 89) (lv' := [(0, .inr (.inr (some 0))), (1, .inl (I 0 6)), (2, .inr (.inl v2_11)), (4, .inl v4_754)]) (st' := [.inr (.inr (some 17)), .inl (24 * (I 0 6)), .inr (.inr (some 23))]) (h' := gr_h I866 J867) (C := (((((((True ∧ True) ∧ True) ∧ True) ∧ True) ∧ True) ∧ True) ∧ True)) rfl ⟨⟨⟨⟨⟨⟨⟨trivial, trivial⟩, trivial⟩, trivial⟩, trivial⟩, trivial⟩, trivial⟩, trivial⟩ ?_
        have f891 := (show 0 ≤ I866 17 (Int.toNat ((I 0 6))) ∧ I866 17 (Int.toNat ((I 0 6))) ≤ 24 from (hI866 17 (Int.toNat ((I 0 6)))).1)
        refine gv_run 2 true hD (pc' := 91) (lv' := [(0, .inr (.inr (some 0))), (1, .inl (I 0 6)), (2, .inr (.inl v2_11)), (4, .inl v4_754)]) (st' := [.inl (I866 17 (Int.toNat ((I 0 6)))), .inl (24 * (I 0 6)), .inr (.inr (some 23))]) (h' := gr_h I866 J867) (C := ((True ∧ True) ∧ (0 ≤ (I 0 6) ∧ (I 0 6) < ((8 : Nat) : Int)))) rfl ⟨⟨trivial, trivial⟩, ⟨by omega, by omega⟩⟩ ?_
        refine gv_run 2 true hD (pc' := 95) (lv' := [(0, .inr (.inr (some 0))), (1, .inl (I 0 6)), (2, .inr (.inl v2_11)), (4, .inl v4_754)]) (st' := [.inr (.inl (J867 0 75)), .inl (I866 17 (Int.toNat ((I 0 6)))), .inl (24 * (I 0 6)), .inr (.inr (some 23))]) (h' := gr_h I866 J867) (C := ((True ∧ True) ∧ True)) rfl ⟨⟨trivial, trivial⟩, trivial⟩ ?_
        obtain ⟨r892, h892, E892, P892⟩ := r_find_23_p (ws0 := ws0) (tb := tb) hws htb ext I866 J867 hI866 ((24 * (I 0 6))) ((I866 17 (Int.toNat ((I 0 6))))) (J867 0 75) ⟨by omega, by omega⟩ ⟨by omega, by omega⟩ (by omega)
        obtain ⟨rfl, ⟨z892, rfl, q892⟩⟩ := P892
        have t893 := q892.2.2.2.trans (gs_lt_eq (J := J) (row := 23) (o := 24 * I 0 6) (n := I 17 (Int.toNat (I 0 6))) (w := gs_rn β N9 (gs_X β N9 p_754)) (fun k => (((k865 23 k rfl).trans (k845 23 k rfl)).trans (e5_754.2.2.2 k))) (by omega) (by first | exact (((g865 17 _ rfl).trans (g845 17 _ rfl)).trans (e5_754.1 _)) | (rw [show ((I 0 6)) = I 0 6 from by omega]; exact (((g865 17 _ rfl).trans (g845 17 _ rfl)).trans (e5_754.1 _)))) (gr_ATp_w A885))
        refine gv_callS hD rfl (As := [.inr (.inr (some 23)), .inl (24 * (I 0 6)), .inl (I866 17 (Int.toNat ((I 0 6)))), .inr (.inl (J867 0 75))]) (st := []) rfl (gr_lS hws rfl) (Nat.le_of_ble_eq_true rfl) (gz_Ev_mono (d := 1) (by decide) E892) ?_
        show gv_X _ _ (98, [(0, .inr (.inr (some 0))), (1, .inl (I 0 6)), (2, .inr (.inl v2_11)), (4, .inl v4_754)], [.inl z892], gr_sh ++ ext, gr_h I866 J867)
        refine gv_run 2 true hD (pc' := 102) (lv' := [(5, .inl z892), (0, .inr (.inr (some 0))), (1, .inl (I 0 6)), (2, .inr (.inl v2_11)), (4, .inl v4_754)]) (st' := [.inl z892]) (h' := gr_h I866 J867) (C := ((True ∧ True) ∧ True)) rfl ⟨⟨trivial, trivial⟩, trivial⟩ ?_
        refine gv_if_ge (t := 111) hD rfl rfl ⟨by omega, by omega⟩ (fun c894 => ?_) (fun c894 => ?_)
        · refine gv_run 1 true hD (pc' := 112) (lv' := [(5, .inl z892), (0, .inr (.inr (some 0))), (1, .inl (I 0 6)), (2, .inr (.inl v2_11)), (4, .inl v4_754)]) (st' := [.inr (.inr (some 0))]) (h' := gr_h I866 J867) (C := (True ∧ True)) rfl ⟨trivial, trivial⟩ ?_
          obtain ⟨r895, h895, E895, P895⟩ := r_next_p (ws0 := ws0) (tb := tb) hws htb ext β N9 I866 J867 hI866   ((gr_ATp_rr A885).1.resolve_left (by omega)) A885.1.1 A885.1.2
          obtain ⟨I896, J897, rfl, hI896, g895, k895, ⟨rfl, q895⟩⟩ := P895
          have FI896 := gr_frt FI866 g895 rfl rfl
          have FJ897 := gr_fjt FJ867 k895 rfl rfl
          have t898 := g895 0 69 rfl
          have t899 := g895 0 6 rfl
          have t900 := g895 0 59 rfl
          have t901 := g895 0 42 rfl
          have t902 := g895 0 106 rfl
          have t903 := g895 17 (Int.toNat ((I 0 6))) rfl
          have t904 := g895 65 (Int.toNat z892) rfl
          have f905 := (show 0 ≤ I896 0 71 ∧ I896 0 71 ≤ 5 from (hI896 0 71).1)
          have f906 := (show 0 ≤ I896 0 72 ∧ I896 0 72 ≤ 1000 from (hI896 0 72).1)
          have f907 := (show 0 ≤ I896 0 73 ∧ I896 0 73 ≤ 1001 from (hI896 0 73).1)
          have f908 := (show 0 ≤ I896 0 69 ∧ I896 0 69 ≤ 1000 from (hI896 0 69).1)
          have f909 := (show (-1) ≤ I896 0 6 ∧ I896 0 6 ≤ 7 from (hI896 0 6).1)
          have f910 := (show 0 ≤ I896 0 59 ∧ I896 0 59 ≤ 2000 from (hI896 0 59).1)
          have f911 := (show 0 ≤ I896 0 42 ∧ I896 0 42 ≤ 2000 from (hI896 0 42).1)
          have f912 := (show 0 ≤ I896 0 106 ∧ I896 0 106 ≤ 16777215 from (hI896 0 106).1)
          have t913 := (gr_ATp_rr A885).2.2.1.resolve_left (by omega)
          have A914 := gr_ATp_nx A885 q895.2.2.2.2.2
          have t915 := gr_ATp_l A914
          obtain ⟨_, _, -, -, -, -⟩ := q895
          refine gv_callV hD rfl (As := []) (st := []) rfl (by decide) rfl rfl (gr_lV hws rfl) (Nat.le_of_ble_eq_true rfl) (gz_Ev_mono (d := 10) (by decide) E895) ?_
          show gv_X _ _ (115, [(5, .inl z892), (0, .inr (.inr (some 0))), (1, .inl (I 0 6)), (2, .inr (.inl v2_11)), (4, .inl v4_754)], [], gr_sh ++ ext, gr_h I896 J897)
          refine gv_run 7 true hD (pc' := 125) (lv' := [(5, .inl z892), (0, .inr (.inr (some 0))), (1, .inl (I 0 6)), (2, .inr (.inl v2_11)), (4, .inl v4_754)]) (st' := [.inl (24 * ((24 * (I 0 6)) + z892))]) (h' := gr_h I896 J897) (C := (((((((True ∧ True) ∧ True) ∧ True) ∧ True) ∧ True) ∧ True) ∧ True)) rfl ⟨⟨⟨⟨⟨⟨⟨trivial, trivial⟩, trivial⟩, trivial⟩, trivial⟩, trivial⟩, trivial⟩, trivial⟩ ?_
          refine gv_run 3 true hD (pc' := 130) (lv' := [(7, .inl 0), (6, .inl (24 * ((24 * (I 0 6)) + z892))), (5, .inl z892), (0, .inr (.inr (some 0))), (1, .inl (I 0 6)), (2, .inr (.inl v2_11)), (4, .inl v4_754)]) (st' := []) (h' := gr_h I896 J897) (C := (((True ∧ True) ∧ True) ∧ True)) rfl ⟨⟨⟨trivial, trivial⟩, trivial⟩, trivial⟩ ?_
          refine gv_pick [3, 4, 5, 6, 2, 1, 0] rfl ?_
          exact L130 _ I896 J897 v4_754 z892 ((24 * ((24 * (I 0 6)) + z892))) 0 ((gs_X β N9 (gs_X β N9 p_754))) (Nat.lt_succ_self _) hI896 FI896 FJ897 (by omega) A914 (e3_754.trans (by unfold gs_ptO; rw [if_pos (by omega), show gs_lt J 23 (24 * I 0 6) (I 17 (Int.toNat (I 0 6))) (gs_rn β N9 _) = z892 from by omega]; unfold gs_ptP; (repeat first | rw [if_pos (by omega)] | rw [if_neg (by omega)]))) e4_754 (fun j hj => absurd hj (by omega)) (by omega) (by have h9 := (show 0 ≤ I 31 (Int.toNat (24 * I 0 6 + z892)) ∧ I 31 (Int.toNat (24 * I 0 6 + z892)) ≤ 24 from (hI 31 _).1); omega) ⟨(fun k => ((((g895 17 k rfl).trans (g865 17 k rfl)).trans (g845 17 k rfl)).trans (e5_754.1 k))), (fun k => ((((g895 31 k rfl).trans (g865 31 k rfl)).trans (g845 31 k rfl)).trans (e5_754.2.1 k))), (fun k => ((((g895 32 k rfl).trans (g865 32 k rfl)).trans (g845 32 k rfl)).trans (e5_754.2.2.1 k))), (fun k => ((((k895 23 k rfl).trans (k865 23 k rfl)).trans (k845 23 k rfl)).trans (e5_754.2.2.2 k)))⟩
        · refine gv_run 2 true hD (pc' := 107) (lv' := [(5, .inl z892), (0, .inr (.inr (some 0))), (1, .inl (I 0 6)), (2, .inr (.inl v2_11)), (4, .inl v4_754)]) (st' := [.inl 5, .inr (.inr (some 0))]) (h' := gr_h I866 J867) (C := ((True ∧ True) ∧ True)) rfl ⟨⟨trivial, trivial⟩, trivial⟩ ?_
          obtain ⟨r916, h916, E916, P916⟩ := r_no__p (ws0 := ws0) (tb := tb) hws htb ext β N9 (gs_X β N9 p_754) I866 J867 hI866 5 ⟨by omega, by omega⟩ A885 (by omega)
          obtain ⟨I917, J918, rfl, hI917, g916, k916, ⟨z916, rfl, q916⟩⟩ := P916
          have FI917 := gr_frt FI866 g916 rfl rfl
          have FJ918 := gr_fjt FJ867 k916 rfl rfl
          have t919 := g916 0 71 rfl
          have t920 := g916 0 72 rfl
          have t921 := g916 0 73 rfl
          have t922 := g916 0 69 rfl
          have t923 := g916 0 6 rfl
          have t924 := g916 0 59 rfl
          have t925 := g916 0 42 rfl
          have t926 := g916 0 106 rfl
          have t927 := g916 17 (Int.toNat ((I 0 6))) rfl
          have t928 := g916 65 (Int.toNat z892) rfl
          have f929 := (show 0 ≤ I917 0 71 ∧ I917 0 71 ≤ 5 from (hI917 0 71).1)
          have f930 := (show 0 ≤ I917 0 72 ∧ I917 0 72 ≤ 1000 from (hI917 0 72).1)
          have f931 := (show 0 ≤ I917 0 73 ∧ I917 0 73 ≤ 1001 from (hI917 0 73).1)
          have f932 := (show 0 ≤ I917 0 69 ∧ I917 0 69 ≤ 1000 from (hI917 0 69).1)
          have f933 := (show (-1) ≤ I917 0 6 ∧ I917 0 6 ≤ 7 from (hI917 0 6).1)
          have f934 := (show 0 ≤ I917 0 59 ∧ I917 0 59 ≤ 2000 from (hI917 0 59).1)
          have f935 := (show 0 ≤ I917 0 42 ∧ I917 0 42 ≤ 2000 from (hI917 0 42).1)
          have f936 := (show 0 ≤ I917 0 106 ∧ I917 0 106 ≤ 16777215 from (hI917 0 106).1)
          have A937 := gr_ATp_F A885 g916 k916 rfl
          have t938 := gr_ATp_l A937
          refine gv_callV hD rfl (As := [.inl 5]) (st := []) rfl (by decide) rfl rfl (gr_lV hws rfl) (Nat.le_of_ble_eq_true rfl) (gz_Ev_mono (d := 2) (by decide) E916) ?_
          show gv_X _ _ (110, [(5, .inl z892), (0, .inr (.inr (some 0))), (1, .inl (I 0 6)), (2, .inr (.inl v2_11)), (4, .inl v4_754)], [.inl z916], gr_sh ++ ext, gr_h I917 J918)
          have b939 : (I917 0 69 = I 0 69) ∧ (I 0 73 ≤ I917 0 73) ∧ (I 0 72 ≤ I917 0 72) ∧ (I917 0 59 - I917 0 72 ≤ I 0 59 - I 0 72) ∧ (I917 0 42 - I917 0 72 ≤ I 0 42 - I 0 72) := by omega
          exact gv_zret hD rfl (by omega) ⟨I917, J918, rfl, hI917, FI917, FJ918, ⟨_, rfl, by omega, by omega, (gr_ATp_rr A937).1, (gr_ATp_rr A937).2.1, (gr_ATp_rr A937).2.2.1, (gr_ATp_rr A937).2.2.2.1, (gr_ATp_rr A937).2.2.2.2, b939.1, b939.2.1, b939.2.2.1, b939.2.2.2.1, b939.2.2.2.2, (Or.inr ⟨by omega, by first | (exfalso; omega) | (rw [gs_pat_x (show gs_ptw β N9 I J p9 = (-1 - gs_A β N9 (gs_X β N9 p_754), []) from (e3_754.trans (by unfold gs_ptO gs_ptP; (repeat first | rw [if_pos (by omega)] | rw [if_neg (by omega)])))) (by omega)]; exact ⟨by omega, by omega, (fun j => ⟨((((g916 17 j rfl).trans (g865 17 j rfl)).trans (g845 17 j rfl)).trans (e5_754.1 j)), ((((k916 23 j rfl).trans (k865 23 j rfl)).trans (k845 23 j rfl)).trans (e5_754.2.2.2 j)), ((((g916 31 j rfl).trans (g865 31 j rfl)).trans (g845 31 j rfl)).trans (e5_754.2.1 j)), ((((g916 32 j rfl).trans (g865 32 j rfl)).trans (g845 32 j rfl)).trans (e5_754.2.2.1 j))⟩)⟩)⟩)⟩⟩
      · have u940 := gs_or0 V865 (by omega)
        clear o865 V865
        refine gv_run 1 true hD (pc' := 76) (lv' := [(0, .inr (.inr (some 0))), (1, .inl (I 0 6)), (2, .inr (.inl v2_11)), (4, .inl v4_754)]) (st' := [.inl 0]) (h' := gr_h I866 J867) (C := (True ∧ True)) rfl ⟨trivial, trivial⟩ ?_
        have b941 : (I866 0 69 = I 0 69) ∧ (I 0 73 ≤ I866 0 73) ∧ (I 0 72 ≤ I866 0 72) ∧ (I866 0 59 - I866 0 72 ≤ I 0 59 - I 0 72) ∧ (I866 0 42 - I866 0 72 ≤ I 0 42 - I 0 72) := by omega
        exact gv_zret hD rfl (by omega) ⟨I866, J867, rfl, hI866, FI866, FJ867, ⟨_, rfl, by omega, by omega, (gr_ATp_rr A885).1, (gr_ATp_rr A885).2.1, (gr_ATp_rr A885).2.2.1, (gr_ATp_rr A885).2.2.2.1, (gr_ATp_rr A885).2.2.2.2, b941.1, b941.2.1, b941.2.2.1, b941.2.2.2.1, b941.2.2.2.2, (Or.inr ⟨by omega, by first | (exfalso; omega) | (rw [gs_pat_x (show gs_ptw β N9 I J p9 = (-1 - gs_A β N9 (gs_X β N9 p_754), []) from (e3_754.trans (by unfold gs_ptO gs_ptP; (repeat first | rw [if_pos (by omega)] | rw [if_neg (by omega)])))) (by omega)]; exact ⟨by omega, by omega, (fun j => ⟨(((g865 17 j rfl).trans (g845 17 j rfl)).trans (e5_754.1 j)), (((k865 23 j rfl).trans (k845 23 j rfl)).trans (e5_754.2.2.2 j)), (((g865 31 j rfl).trans (g845 31 j rfl)).trans (e5_754.2.1 j)), (((g865 32 j rfl).trans (g845 32 j rfl)).trans (e5_754.2.2.1 j))⟩)⟩)⟩)⟩⟩
    refine gv_run 1 true hD (pc' := 47) (lv' := [(0, .inr (.inr (some 0))), (1, .inl (I 0 6)), (2, .inr (.inl v2_11))]) (st' := [.inr (.inr (some 0))]) (h' := gr_h I9 J10) (C := (True ∧ True)) rfl ⟨trivial, trivial⟩ ?_
    obtain ⟨r942, h942, E942, P942⟩ := r_next_p (ws0 := ws0) (tb := tb) hws htb ext β N9 I9 J10 hI9   ((gr_ATp_rr e2_11).1.resolve_left (by omega)) e2_11.1.1 e2_11.1.2
    obtain ⟨I943, J944, rfl, hI943, g942, k942, ⟨rfl, q942⟩⟩ := P942
    have FI943 := gr_frt FI9 g942 rfl rfl
    have FJ944 := gr_fjt FJ10 k942 rfl rfl
    have t945 := g942 0 69 rfl
    have t946 := g942 0 6 rfl
    have t947 := g942 0 59 rfl
    have t948 := g942 0 42 rfl
    have t949 := g942 0 106 rfl
    have t950 := g942 17 (Int.toNat ((I 0 6))) rfl
    have f951 := (show 0 ≤ I943 0 71 ∧ I943 0 71 ≤ 5 from (hI943 0 71).1)
    have f952 := (show 0 ≤ I943 0 72 ∧ I943 0 72 ≤ 1000 from (hI943 0 72).1)
    have f953 := (show 0 ≤ I943 0 73 ∧ I943 0 73 ≤ 1001 from (hI943 0 73).1)
    have f954 := (show 0 ≤ I943 0 69 ∧ I943 0 69 ≤ 1000 from (hI943 0 69).1)
    have f955 := (show (-1) ≤ I943 0 6 ∧ I943 0 6 ≤ 7 from (hI943 0 6).1)
    have f956 := (show 0 ≤ I943 0 59 ∧ I943 0 59 ≤ 2000 from (hI943 0 59).1)
    have f957 := (show 0 ≤ I943 0 42 ∧ I943 0 42 ≤ 2000 from (hI943 0 42).1)
    have f958 := (show 0 ≤ I943 0 106 ∧ I943 0 106 ≤ 16777215 from (hI943 0 106).1)
    have t959 := (gr_ATp_rr e2_11).2.2.1.resolve_left (by omega)
    have A960 := gr_ATp_nx e2_11 q942.2.2.2.2.2
    have t961 := gr_ATp_l A960
    obtain ⟨_, _, -, -, -, -⟩ := q942
    refine gv_callV hD rfl (As := []) (st := []) rfl (by decide) rfl rfl (gr_lV hws rfl) (Nat.le_of_ble_eq_true rfl) (gz_Ev_mono (d := 10) (by decide) E942) ?_
    show gv_X _ _ (50, [(0, .inr (.inr (some 0))), (1, .inl (I 0 6)), (2, .inr (.inl v2_11))], [], gr_sh ++ ext, gr_h I943 J944)
    refine gv_run 5 true hD (pc' := 58) (lv' := [(4, .inl 0), (0, .inr (.inr (some 0))), (1, .inl (I 0 6)), (2, .inr (.inl v2_11))]) (st' := [.inr (.inl (J944 0 94)), .inr (.inr (some 0))]) (h' := gr_h I943 J944) (C := (((((True ∧ True) ∧ True) ∧ True) ∧ True) ∧ True)) rfl ⟨⟨⟨⟨⟨trivial, trivial⟩, trivial⟩, trivial⟩, trivial⟩, trivial⟩ ?_
    obtain ⟨r962, h962, E962, P962⟩ := r_is_p (ws0 := ws0) (tb := tb) hws htb ext β N9 (gs_X β N9 p_11) I943 J944 hI943 (J944 0 94)  A960 (by omega)
    obtain ⟨rfl, ⟨z962, rfl, q962⟩⟩ := P962
    have t963 := (show gs_kw β N9 (gs_X β N9 p_11) (J944 0 94) = gs_kw β N9 (gs_X β N9 p_11) (gs_W 94) from by rw [show J944 0 94 = gs_W 94 from (fun k h1 h2 => (FJ944 0 k (gs_kwF h1 h2 rfl)).trans (KW k h1 h2)) 94 (by decide) (by decide)])
    obtain ⟨_, _, o962, _⟩ := q962
    refine gv_callV hD rfl (As := [.inr (.inl (J944 0 94))]) (st := []) rfl (by decide) rfl rfl (gr_lV hws rfl) (Nat.le_of_ble_eq_true rfl) (gz_Ev_mono (d := 1) (by decide) E962) ?_
    show gv_X _ _ (61, [(4, .inl 0), (0, .inr (.inr (some 0))), (1, .inl (I 0 6)), (2, .inr (.inl v2_11))], [.inl z962], gr_sh ++ ext, gr_h I943 J944)
    refine gv_if_eq (t := 207) hD rfl rfl ⟨by omega, by omega⟩ (fun c964 => ?_) (fun c964 => ?_)
    · clear o962
      refine gv_pick [1, 2, 3, 0] rfl ?_
      exact L207 I943 J944 0 (gs_X β N9 p_11) hI943 FI943 FJ944 (by omega) A960 (e3_11.trans (by unfold gs_pt1; (repeat first | rw [if_pos (by omega)] | rw [if_neg (by omega)]); rfl)) e5_11 ⟨(fun k => ((g942 17 k rfl).trans (e6_11.1 k))), (fun k => ((g942 31 k rfl).trans (e6_11.2.1 k))), (fun k => ((g942 32 k rfl).trans (e6_11.2.2.1 k))), (fun k => ((k942 23 k rfl).trans (e6_11.2.2.2 k)))⟩
    · have t965 := o962.resolve_left (by omega)
      have t966 := (gr_ATp_rr A960).2.2.1.resolve_left (by omega)
      clear o962
      refine gv_pick [1, 2, 3, 0] rfl ?_
      exact L64 I943 J944 0 (gs_X β N9 p_11) hI943 FI943 FJ944 (by omega) A960 (e3_11.trans (by unfold gs_pt1; (repeat first | rw [if_pos (by omega)] | rw [if_neg (by omega)]))) e5_11 ⟨(fun k => ((g942 17 k rfl).trans (e6_11.1 k))), (fun k => ((g942 31 k rfl).trans (e6_11.2.1 k))), (fun k => ((g942 32 k rfl).trans (e6_11.2.2.1 k))), (fun k => ((k942 23 k rfl).trans (e6_11.2.2.2 k)))⟩
  have f967 := (show (-1) ≤ I 0 6 ∧ I 0 6 ≤ 7 from (hI 0 6).1)
  refine gv_run 4 true hD (pc' := 6) (lv' := [(1, .inl (I 0 6)), (0, .inr (.inr (some 0)))]) (st' := [.inr (.inr (some 0))]) (h' := gr_h I J) (C := ((((True ∧ True) ∧ True) ∧ True) ∧ True)) rfl ⟨⟨⟨⟨trivial, trivial⟩, trivial⟩, trivial⟩, trivial⟩ ?_
  obtain ⟨r968, h968, E968, P968⟩ := r_name_p (ws0 := ws0) (tb := tb) hws htb ext β N9 p9 I J hI   x8 (by omega)
  obtain ⟨I969, J970, rfl, hI969, g968, k968, ⟨z968, rfl, q968⟩⟩ := P968
  have FI969 := gr_frt FI g968 rfl rfl
  have FJ970 := gr_fjt FJ k968 rfl rfl
  have t971 := g968 0 71 rfl
  have t972 := g968 0 72 rfl
  have t973 := g968 0 73 rfl
  have t974 := g968 0 69 rfl
  have t975 := g968 0 6 rfl
  have t976 := g968 0 59 rfl
  have t977 := g968 0 42 rfl
  have t978 := g968 0 106 rfl
  have t979 := g968 17 (Int.toNat ((I 0 6))) rfl
  have f980 := (show 0 ≤ I969 0 71 ∧ I969 0 71 ≤ 5 from (hI969 0 71).1)
  have f981 := (show 0 ≤ I969 0 72 ∧ I969 0 72 ≤ 1000 from (hI969 0 72).1)
  have f982 := (show 0 ≤ I969 0 73 ∧ I969 0 73 ≤ 1001 from (hI969 0 73).1)
  have f983 := (show 0 ≤ I969 0 69 ∧ I969 0 69 ≤ 1000 from (hI969 0 69).1)
  have f984 := (show (-1) ≤ I969 0 6 ∧ I969 0 6 ≤ 7 from (hI969 0 6).1)
  have f985 := (show 0 ≤ I969 0 59 ∧ I969 0 59 ≤ 2000 from (hI969 0 59).1)
  have f986 := (show 0 ≤ I969 0 42 ∧ I969 0 42 ≤ 2000 from (hI969 0 42).1)
  have f987 := (show 0 ≤ I969 0 106 ∧ I969 0 106 ≤ 16777215 from (hI969 0 106).1)
  have V968 := gs_or_mk q968.2.2.2
  have A988 := gr_ATp_F x8 g968 k968 rfl
  have t989 := gr_ATp_l A988
  obtain ⟨_, _, o968, -⟩ := q968
  refine gv_callV hD rfl (As := []) (st := []) rfl (by decide) rfl rfl (gr_lV hws rfl) (Nat.le_of_ble_eq_true rfl) (gz_Ev_mono (d := 3) (by decide) E968) ?_
  show gv_X _ _ (9, [(1, .inl (I 0 6)), (0, .inr (.inr (some 0)))], [.inl z968], gr_sh ++ ext, gr_h I969 J970)
  refine gv_if_ne (t := 14) hD rfl rfl ⟨by omega, by omega⟩ (fun c990 => ?_) (fun c990 => ?_)
  · have u991 := gs_or1 V968 (by omega)
    have t992 := o968.resolve_left (by omega)
    have t993 := (gr_ATp_rr A988).2.2.1.resolve_left (by omega)
    clear o968 V968
    refine gv_run 7 true hD (pc' := 26) (lv' := [(2, .inr (.inl (J970 0 75))), (1, .inl (I 0 6)), (0, .inr (.inr (some 0)))]) (st' := [.inl (I 0 6), .inl 24, .inr (.inr (some 23))]) (h' := gr_h I969 J970) (C := (((((((True ∧ True) ∧ True) ∧ True) ∧ True) ∧ True) ∧ True) ∧ True)) rfl ⟨⟨⟨⟨⟨⟨⟨trivial, trivial⟩, trivial⟩, trivial⟩, trivial⟩, trivial⟩, trivial⟩, trivial⟩ ?_
    have f994 := (show 0 ≤ I969 17 (Int.toNat ((I 0 6))) ∧ I969 17 (Int.toNat ((I 0 6))) ≤ 24 from (hI969 17 (Int.toNat ((I 0 6)))).1)
    refine gv_run 5 true hD (pc' := 33) (lv' := [(2, .inr (.inl (J970 0 75))), (1, .inl (I 0 6)), (0, .inr (.inr (some 0)))]) (st' := [.inl (I969 17 (Int.toNat ((I 0 6)))), .inl (24 * (I 0 6)), .inr (.inr (some 23))]) (h' := gr_h I969 J970) (C := (((((True ∧ True) ∧ True) ∧ True) ∧ True) ∧ (0 ≤ (I 0 6) ∧ (I 0 6) < ((8 : Nat) : Int)))) rfl ⟨⟨⟨⟨⟨trivial, trivial⟩, trivial⟩, trivial⟩, trivial⟩, ⟨by omega, by omega⟩⟩ ?_
    refine gv_run 1 true hD (pc' := 34) (lv' := [(2, .inr (.inl (J970 0 75))), (1, .inl (I 0 6)), (0, .inr (.inr (some 0)))]) (st' := [.inr (.inl (J970 0 75)), .inl (I969 17 (Int.toNat ((I 0 6)))), .inl (24 * (I 0 6)), .inr (.inr (some 23))]) (h' := gr_h I969 J970) (C := (True ∧ True)) rfl ⟨trivial, trivial⟩ ?_
    obtain ⟨r995, h995, E995, P995⟩ := r_find_23_p (ws0 := ws0) (tb := tb) hws htb ext I969 J970 hI969 ((24 * (I 0 6))) ((I969 17 (Int.toNat ((I 0 6))))) (J970 0 75) ⟨by omega, by omega⟩ ⟨by omega, by omega⟩ (by omega)
    obtain ⟨rfl, ⟨z995, rfl, q995⟩⟩ := P995
    have t996 := q995.2.2.2.trans (gs_lt_eq (J := J) (row := 23) (o := 24 * I 0 6) (n := I 17 (Int.toNat (I 0 6))) (w := gs_rn β N9 p9) (fun k => (k968 23 k rfl)) (by omega) (by first | exact (g968 17 _ rfl) | (rw [show ((I 0 6)) = I 0 6 from by omega]; exact (g968 17 _ rfl))) (gr_ATp_w A988))
    refine gv_callS hD rfl (As := [.inr (.inr (some 23)), .inl (24 * (I 0 6)), .inl (I969 17 (Int.toNat ((I 0 6)))), .inr (.inl (J970 0 75))]) (st := []) rfl (gr_lS hws rfl) (Nat.le_of_ble_eq_true rfl) (gz_Ev_mono (d := 1) (by decide) E995) ?_
    show gv_X _ _ (37, [(2, .inr (.inl (J970 0 75))), (1, .inl (I 0 6)), (0, .inr (.inr (some 0)))], [.inl z995], gr_sh ++ ext, gr_h I969 J970)
    refine gv_if_lt (t := 46) hD rfl rfl ⟨by omega, by omega⟩ (fun c997 => ?_) (fun c997 => ?_)
    · refine gv_pick [2, 1, 0] rfl ?_
      exact L46 I969 J970 (I 0 6) (J970 0 75) p9 hI969 FI969 FJ970 (by omega) A988 (by unfold gs_ptw; (repeat first | rw [if_pos (by omega)] | rw [if_neg (by omega)])) rfl (gr_ATp_w A988) ⟨(fun k => (g968 17 k rfl)), (fun k => (g968 31 k rfl)), (fun k => (g968 32 k rfl)), (fun k => (k968 23 k rfl))⟩
    · refine gv_run 2 true hD (pc' := 42) (lv' := [(2, .inr (.inl (J970 0 75))), (1, .inl (I 0 6)), (0, .inr (.inr (some 0)))]) (st' := [.inl 4, .inr (.inr (some 0))]) (h' := gr_h I969 J970) (C := ((True ∧ True) ∧ True)) rfl ⟨⟨trivial, trivial⟩, trivial⟩ ?_
      obtain ⟨r998, h998, E998, P998⟩ := r_no__p (ws0 := ws0) (tb := tb) hws htb ext β N9 p9 I969 J970 hI969 4 ⟨by omega, by omega⟩ A988 (by omega)
      obtain ⟨I999, J1000, rfl, hI999, g998, k998, ⟨z998, rfl, q998⟩⟩ := P998
      have FI999 := gr_frt FI969 g998 rfl rfl
      have FJ1000 := gr_fjt FJ970 k998 rfl rfl
      have t1001 := g998 0 71 rfl
      have t1002 := g998 0 72 rfl
      have t1003 := g998 0 73 rfl
      have t1004 := g998 0 69 rfl
      have t1005 := g998 0 6 rfl
      have t1006 := g998 0 59 rfl
      have t1007 := g998 0 42 rfl
      have t1008 := g998 0 106 rfl
      have t1009 := g998 17 (Int.toNat ((I 0 6))) rfl
      have f1010 := (show 0 ≤ I999 0 71 ∧ I999 0 71 ≤ 5 from (hI999 0 71).1)
      have f1011 := (show 0 ≤ I999 0 72 ∧ I999 0 72 ≤ 1000 from (hI999 0 72).1)
      have f1012 := (show 0 ≤ I999 0 73 ∧ I999 0 73 ≤ 1001 from (hI999 0 73).1)
      have f1013 := (show 0 ≤ I999 0 69 ∧ I999 0 69 ≤ 1000 from (hI999 0 69).1)
      have f1014 := (show (-1) ≤ I999 0 6 ∧ I999 0 6 ≤ 7 from (hI999 0 6).1)
      have f1015 := (show 0 ≤ I999 0 59 ∧ I999 0 59 ≤ 2000 from (hI999 0 59).1)
      have f1016 := (show 0 ≤ I999 0 42 ∧ I999 0 42 ≤ 2000 from (hI999 0 42).1)
      have f1017 := (show 0 ≤ I999 0 106 ∧ I999 0 106 ≤ 16777215 from (hI999 0 106).1)
      have A1018 := gr_ATp_F A988 g998 k998 rfl
      have t1019 := gr_ATp_l A1018
      refine gv_callV hD rfl (As := [.inl 4]) (st := []) rfl (by decide) rfl rfl (gr_lV hws rfl) (Nat.le_of_ble_eq_true rfl) (gz_Ev_mono (d := 2) (by decide) E998) ?_
      show gv_X _ _ (45, [(2, .inr (.inl (J970 0 75))), (1, .inl (I 0 6)), (0, .inr (.inr (some 0)))], [.inl z998], gr_sh ++ ext, gr_h I999 J1000)
      have b1020 : (I999 0 69 = I 0 69) ∧ (I 0 73 ≤ I999 0 73) ∧ (I 0 72 ≤ I999 0 72) ∧ (I999 0 59 - I999 0 72 ≤ I 0 59 - I 0 72) ∧ (I999 0 42 - I999 0 72 ≤ I 0 42 - I 0 72) := by omega
      exact gv_zret hD rfl (by omega) ⟨I999, J1000, rfl, hI999, FI999, FJ1000, ⟨_, rfl, by omega, by omega, (gr_ATp_rr A1018).1, (gr_ATp_rr A1018).2.1, (gr_ATp_rr A1018).2.2.1, (gr_ATp_rr A1018).2.2.2.1, (gr_ATp_rr A1018).2.2.2.2, b1020.1, b1020.2.1, b1020.2.2.1, b1020.2.2.2.1, b1020.2.2.2.2, (Or.inr ⟨by omega, by first | (exfalso; omega) | (rw [gs_pat_x (show gs_ptw β N9 I J p9 = (-1 - gs_A β N9 p9, []) from (by unfold gs_ptw; (repeat first | rw [if_pos (by omega)] | rw [if_neg (by omega)]))) (by omega)]; exact ⟨by omega, by omega, (fun j => ⟨((g998 17 j rfl).trans (g968 17 j rfl)), ((k998 23 j rfl).trans (k968 23 j rfl)), ((g998 31 j rfl).trans (g968 31 j rfl)), ((g998 32 j rfl).trans (g968 32 j rfl))⟩)⟩)⟩)⟩⟩
  · have u1021 := gs_or0 V968 (by omega)
    clear o968 V968
    refine gv_run 1 true hD (pc' := 13) (lv' := [(1, .inl (I 0 6)), (0, .inr (.inr (some 0)))]) (st' := [.inl 0]) (h' := gr_h I969 J970) (C := (True ∧ True)) rfl ⟨trivial, trivial⟩ ?_
    have b1022 : (I969 0 69 = I 0 69) ∧ (I 0 73 ≤ I969 0 73) ∧ (I 0 72 ≤ I969 0 72) ∧ (I969 0 59 - I969 0 72 ≤ I 0 59 - I 0 72) ∧ (I969 0 42 - I969 0 72 ≤ I 0 42 - I 0 72) := by omega
    exact gv_zret hD rfl (by omega) ⟨I969, J970, rfl, hI969, FI969, FJ970, ⟨_, rfl, by omega, by omega, (gr_ATp_rr A988).1, (gr_ATp_rr A988).2.1, (gr_ATp_rr A988).2.2.1, (gr_ATp_rr A988).2.2.2.1, (gr_ATp_rr A988).2.2.2.2, b1022.1, b1022.2.1, b1022.2.2.1, b1022.2.2.2.1, b1022.2.2.2.2, (Or.inr ⟨by omega, by first | (exfalso; omega) | (rw [gs_pat_x (show gs_ptw β N9 I J p9 = (-1 - gs_A β N9 p9, []) from (by unfold gs_ptw; (repeat first | rw [if_pos (by omega)] | rw [if_neg (by omega)]))) (by omega)]; exact ⟨by omega, by omega, (fun j => ⟨(g968 17 j rfl), (k968 23 j rfl), (g968 31 j rfl), (g968 32 j rfl)⟩)⟩)⟩)⟩⟩
